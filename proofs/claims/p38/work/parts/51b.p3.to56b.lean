section
def S_par : rf → Nat → Prop := fun c k => (c.1 = 12 ∧ c.2.1 = 0 ∧ k = 9) ∨ (c.1 = 12 ∧ c.2.1 = 0 ∧ k = 11) ∨ (c.1 = 12 ∧ c.2.1 = 0 ∧ k = 12) ∨ (c.1 = 12 ∧ c.2.1 = 0 ∧ k = 13) ∨ (c.1 = 12 ∧ c.2.1 = 0 ∧ k = 14) ∨ (c.1 = 57 ∧ c.2.1 = 0) ∨ False
def ONED (l : Launch) (G : va_G) (cy : Nat → ClassId) (ad : rf → Nat) (N m : Nat) (Q : mM → mM → Prop) : Prop := ∀ (d : Nat) (s : Int) (D : Nat) (a T : Int) (Mz : mM) (hIz : InvD Mz) (hp : PP Mz s D a T) (hs : 0 ≤ s) (hk : (Mz.1 (12, 0, 0) 11).toInt + ((m : Nat) : Int) = 5) (hm : m ≤ 5), WP DD l G cy ad yX12_one cX12_one 4 none (N + d) 0 [(0, vR (12, 0, 0))] [] Mz (fun r M' => InvD M' ∧ FR (S_par) Mz M' ∧ (PP M' s (D + 1) a T ∧ (M'.1 (12, 0, 0) 11).toInt + ((m : Nat) : Int) = 5) ∧ Q Mz M')
def TXTD (l : Launch) (G : va_G) (cy : Nat → ClassId) (ad : rf → Nat) (N m : Nat) (Q : mM → mM → Prop) : Prop := ∀ (d : Nat) (s : Int) (D : Nat) (a T : Int) (Mz : mM) (hIz : InvD Mz) (hp : PP Mz s D a T) (hs : 0 ≤ s) (hk : (Mz.1 (12, 0, 0) 11).toInt + ((m : Nat) : Int) = 5) (hm : m ≤ 5), WP DD l G cy ad yX12_text cX12_text 2 none (N + d) 0 [(0, vR (12, 0, 0))] [] Mz (fun r M' => InvD M' ∧ FR (S_par) Mz M' ∧ (PP M' s (D + 1) a T ∧ (M'.1 (12, 0, 0) 11).toInt + ((m : Nat) : Int) = 5) ∧ Q Mz M')
def SP_X12_opens (N : Nat) (m : Nat) (QA : mM → mM → Prop) (QB : mM → mM → Prop) (v : Int32) (s : Int) (D : Nat) (a : Int) (T : Int) (Mz : mM) (M_ : mM) : Prop := ∃ z2_ : Int32, (z2_ = Mz.1 (12, 0, 0) 11) ∧ (0 ≤ z2_.toInt ∧ z2_.toInt ≤ 5) ∧ (z2_.toInt + ((m : Nat) : Int) = 5) ∧ (((¬ z2_.toInt = 5) ∧ ∃ M7_ : mM, (M7_ = up Mz (12, 0, 0) 13 0) ∧ ∃ z17_ : Int32, (z17_ = M7_.1 (12, 0, 0) 13) ∧ (0 ≤ z17_.toInt ∧ z17_.toInt ≤ 1) ∧ (z17_ = 0) ∧ (z17_.toInt = 0) ∧ (z17_.toInt = 0) ∧ (1 ≤ m) ∧ ∃ z24_ : Int32, (z24_ = M7_.1 (12, 0, 0) 11) ∧ (0 ≤ z24_.toInt ∧ z24_.toInt ≤ 5) ∧ (z24_.toInt + ((m : Nat) : Int) = 5) ∧ ∃ z28_ : Int32, (z28_.toInt = z24_.toInt + 1) ∧ ∃ M30_ : mM, (M30_ = up M7_ (12, 0, 0) 11 z28_) ∧ ∃ z40_ : Int32, (z40_ = M30_.1 (12, 0, 0) 9) ∧ (0 ≤ z40_.toInt ∧ z40_.toInt ≤ 48) ∧ (z40_.toInt < T) ∧ (z40_.toInt ≤ 47) ∧ ∃ z45_ : Int32, (z45_.toInt = z40_.toInt + 1) ∧ ∃ M47_ : mM, (M47_ = up M30_ (12, 0, 0) 9 z45_) ∧ (((¬ v.toInt = 45) ∧ (((¬ v.toInt = 40) ∧ (InvD M47_) ∧ ∃ M57_ : mM, (InvD M57_) ∧ (FR (S_par) M47_ M57_) ∧ (QB M47_ M57_) ∧ ∃ M66_ : mM, (InvD M66_) ∧ (FR (S_must) M57_ M66_) ∧ (SP_X12_must 63 (s + 1) (D + 1) (a + 1) T M57_ M66_) ∧ ∃ M74_ : mM, (InvD M74_) ∧ (FR (S_par) M66_ M74_) ∧ (QB M66_ M74_) ∧ ∃ M83_ : mM, (InvD M83_) ∧ (FR (S_must) M74_ M83_) ∧ (SP_X12_must 58 (s + 1) ((D + 1) + 1) (a + 1) T M74_ M83_) ∧ ∃ M91_ : mM, (InvD M91_) ∧ (FR (S_par) M83_ M91_) ∧ (QB M83_ M91_) ∧ ∃ M100_ : mM, (InvD M100_) ∧ (FR (S_must) M91_ M100_) ∧ (SP_X12_must 93 (s + 1) (((D + 1) + 1) + 1) (a + 1) T M91_ M100_) ∧ ∃ M108_ : mM, (InvD M108_) ∧ (FR (S_codes) M100_ M108_) ∧ (SP_X12_codes 2009 (s + 1) (((D + 1) + 1) + 1) (a + 1) T (D + 1) M100_ M108_) ∧ (PP M108_ ((s + 1) - 1) (D + 1) (a + 1) T) ∧ ∃ z116_ : Int32, (z116_ = M108_.1 (12, 0, 0) 11) ∧ (0 ≤ z116_.toInt ∧ z116_.toInt ≤ 5) ∧ (z116_.toInt + (((m - 1) : Nat) : Int) = 5) ∧ ∃ z120_ : Int32, (z120_.toInt = z116_.toInt - 1) ∧ ∃ M122_ : mM, (M122_ = up M108_ (12, 0, 0) 11 z120_) ∧ M_ = M122_) ∨ ((v.toInt = 40) ∧ (InvD M47_) ∧ ∃ M128_ : mM, (InvD M128_) ∧ (FR (S_par) M47_ M128_) ∧ (QB M47_ M128_) ∧ ∃ M137_ : mM, (InvD M137_) ∧ (FR (S_must) M128_ M137_) ∧ (SP_X12_must 41 (s + 1) (D + 1) (a + 1) T M128_ M137_) ∧ (PP M137_ (s + 1) (D + 1) (a + 1) T) ∧ ∃ z145_ : Int32, (z145_ = M137_.1 (12, 0, 0) 11) ∧ (0 ≤ z145_.toInt ∧ z145_.toInt ≤ 5) ∧ (z145_.toInt + (((m - 1) : Nat) : Int) = 5) ∧ ∃ z149_ : Int32, (z149_.toInt = z145_.toInt - 1) ∧ ∃ M151_ : mM, (M151_ = up M137_ (12, 0, 0) 11 z149_) ∧ M_ = M151_))) ∨ ((v.toInt = 45) ∧ (InvD M47_) ∧ ∃ M157_ : mM, (InvD M157_) ∧ (FR (S_par) M47_ M157_) ∧ (QA M47_ M157_) ∧ ∃ M166_ : mM, (InvD M166_) ∧ (FR (S_codes) M157_ M166_) ∧ (SP_X12_codes 2008 (s + 1) (D + 1) (a + 1) T (D + 1) M157_ M166_) ∧ (PP M166_ ((s + 1) - 1) (D + 1) (a + 1) T) ∧ ∃ z174_ : Int32, (z174_ = M166_.1 (12, 0, 0) 11) ∧ (0 ≤ z174_.toInt ∧ z174_.toInt ≤ 5) ∧ (z174_.toInt + (((m - 1) : Nat) : Int) = 5) ∧ ∃ z178_ : Int32, (z178_.toInt = z174_.toInt - 1) ∧ ∃ M180_ : mM, (M180_ = up M166_ (12, 0, 0) 11 z178_) ∧ M_ = M180_))) ∨ ((z2_.toInt = 5) ∧ ∃ M186_ : mM, (M186_ = up Mz (12, 0, 0) 13 1) ∧ (PP M186_ s D a T) ∧ ∃ z196_ : Int32, (z196_ = M186_.1 (12, 0, 0) 13) ∧ (0 ≤ z196_.toInt ∧ z196_.toInt ≤ 1) ∧ (z196_ = 1) ∧ (z196_.toInt = 1) ∧ (¬ z196_.toInt = 0) ∧ M_ = M186_))
theorem lf_c_X12_opens_1 (m : Nat) (z2_ : Int32) (h4_ : 0 ≤ z2_.toInt ∧ z2_.toInt ≤ 5) (h5_ : z2_.toInt + ((m : Nat) : Int) = 5) (h6_ : ¬ z2_.toInt = 5) : 1 ≤ m := by omega
theorem lf_c_X12_opens_2 (z24_ : Int32) (h26_ : 0 ≤ z24_.toInt ∧ z24_.toInt ≤ 5) : -2147483648 ≤ z24_.toInt + 1 ∧ z24_.toInt + 1 < 2147483648 := by omega
theorem lf_c_X12_opens_3 (m : Nat) (z24_ : Int32) (z28_ : Int32) (h23_ : 1 ≤ m) (h26_ : 0 ≤ z24_.toInt ∧ z24_.toInt ≤ 5) (h27_ : z24_.toInt + ((m : Nat) : Int) = 5) (h29_ : z28_.toInt = z24_.toInt + 1) : 0 ≤ z28_.toInt ∧ z28_.toInt ≤ 5 := by omega
theorem lf_c_X12_opens_4 (m : Nat) (z24_ : Int32) (z28_ : Int32) (h23_ : 1 ≤ m) (h27_ : z24_.toInt + ((m : Nat) : Int) = 5) (h29_ : z28_.toInt = z24_.toInt + 1) : z28_.toInt + (((m - 1) : Nat) : Int) = 5 := by omega
theorem lf_c_X12_opens_8 (s : Int) (hs : 0 ≤ s) : 0 ≤ (s + 1) := by omega
theorem lf_c_X12_opens_18 (z116_ : Int32) (h118_ : 0 ≤ z116_.toInt ∧ z116_.toInt ≤ 5) : -2147483648 ≤ z116_.toInt - 1 ∧ z116_.toInt - 1 < 2147483648 := by omega
theorem lf_c_X12_opens_19 (m : Nat) (z116_ : Int32) (z120_ : Int32) (hm : m ≤ 5) (h118_ : 0 ≤ z116_.toInt ∧ z116_.toInt ≤ 5) (h119_ : z116_.toInt + (((m - 1) : Nat) : Int) = 5) (h121_ : z120_.toInt = z116_.toInt - 1) : 0 ≤ z120_.toInt ∧ z120_.toInt ≤ 5 := by omega
theorem lf_c_X12_opens_20 (m : Nat) (z116_ : Int32) (z120_ : Int32) (h23_ : 1 ≤ m) (h119_ : z116_.toInt + (((m - 1) : Nat) : Int) = 5) (h121_ : z120_.toInt = z116_.toInt - 1) : z120_.toInt + ((m : Nat) : Int) = 5 := by omega
theorem lf_c_X12_opens_21 (s : Int) : s ≤ ((s + 1) - 1) := by omega
theorem lf_c_X12_opens_41 (s : Int) : s ≤ s := by omega
set_option maxHeartbeats 4000000 in
set_option maxRecDepth 100000 in
theorem c_X12_opens (l : Launch) (G : va_G) (cy : Nat → ClassId) (ad : rf → Nat) (d : Nat) (N : Nat) (m : Nat) (QA : mM → mM → Prop) (QB : mM → mM → Prop) (v : Int32) (s : Int) (D : Nat) (a : Int) (T : Int) (Mz : mM) (hIz : InvD Mz) (hA : ∀ k : Nat, k + 1 = m → ONED l G cy ad N k QA) (hB : ∀ k : Nat, k + 1 = m → TXTD l G cy ad N k QB) (hp : PP Mz s D a T) (hs : 0 ≤ s) (hk : (Mz.1 (12, 0, 0) 11).toInt + ((m : Nat) : Int) = 5) (hm : m ≤ 5) (ht : (Mz.1 (12, 0, 0) 9).toInt < T) (hw : Mz.1 (12, 0, 0) 13 = 0) : WP DD l G cy ad yX12_opens cX12_opens 2 none ((N + d) + 3) 0 [(0, vR (12, 0, 0)), (1, vI v)] [] Mz (fun r M' => InvD M' ∧ FR (S_par) Mz M' ∧ (PP M' s (D + 1) a T ∧ (M'.1 (12, 0, 0) 11).toInt + ((m : Nat) : Int) = 5) ∧ SP_X12_opens N m QA QB v s D a T Mz M') := by
  have hFz : FR (S_par) Mz Mz := FR.self
  have kf1_ : (Mz.1 (12, 0, 0) 9).toInt ≤ 47 := PP_a48 hIz hp ht
  refine w_aload_n dX12_opens_0 rfl 0 rfl ?_
  refine w_aload_n dX12_opens_1 rfl 0 rfl ?_
  refine w_getI fl_RX12_191 rfl rfl ic_12 dX12_opens_2 (fun z2_ e3_ => ?_)
  have h4_ : 0 ≤ z2_.toInt ∧ z2_.toInt ≤ 5 := ofEq (P := fun v => 0 ≤ v.toInt ∧ v.toInt ≤ 5) e3_ (hIz.1 (12, 0, 0) 11)
  have h5_ : z2_.toInt + ((m : Nat) : Int) = 5 := by rw [e3_]; exact hk
  refine w_iconst (v := 5) dX12_opens_5 (by decide) ?_
  refine w_icmp_ne (tgt := 13) dX12_opens_6 (by decide) (rfl : z2_.toInt = z2_.toInt) li_5 (fun h6_ => ?_) (fun h6_ => ?_)
  · refine w_iconst (v := 0) dX12_opens_13 (by decide) ?_
    refine w_putZ DD_nd fl_RX12_151 rfl rfl ic_12 ⟨by decide, by decide⟩ dX12_opens_14 (fun M7_ hM8_ => ?_)
    have hI9_ := hIz.put hM8_ ⟨⟨by decide, by decide⟩, Or.inl (by decide)⟩
    have hF10_ := hFz.put hM8_ (Or.inr (Or.inr (Or.inr (Or.inl ⟨rfl, rfl, rfl⟩))))
    have kf11_ : (M7_.1 (12, 0, 0) 11).toInt + ((m : Nat) : Int) = 5 := by rw [(show M7_.1 (12, 0, 0) 11 = Mz.1 (12, 0, 0) 11 by rw [hM8_, up_ne (by simp)])]; exact hk
    have kf12_ : (M7_.1 (12, 0, 0) 9).toInt < T := by rw [(show M7_.1 (12, 0, 0) 9 = Mz.1 (12, 0, 0) 9 by rw [hM8_, up_ne (by simp)])]; exact ht
    have kf13_ : (M7_.1 (12, 0, 0) 9).toInt ≤ 47 := by rw [(show M7_.1 (12, 0, 0) 9 = Mz.1 (12, 0, 0) 9 by rw [hM8_, up_ne (by simp)])]; exact kf1_
    have h14_ : PP M7_ s D a T := PP_put0 hp hM8_ hw
    have kf15_ : M7_.1 (12, 0, 0) 13 = 0 := up_s hM8_
    have kf16_ : (M7_.1 (12, 0, 0) 13).toInt = 0 := by rw [kf15_]; decide
    refine w_aload_n dX12_opens_17 rfl 0 rfl ?_
    refine w_getI fl_RX12_151 rfl rfl ic_12 dX12_opens_18 (fun z17_ e18_ => ?_)
    have h19_ : 0 ≤ z17_.toInt ∧ z17_.toInt ≤ 1 := ofEq (P := fun v => 0 ≤ v.toInt ∧ v.toInt ≤ 1) e18_ (hI9_.1 (12, 0, 0) 13)
    have h20_ : z17_ = 0 := by rw [e18_]; exact kf15_
    have h21_ : z17_.toInt = 0 := by rw [e18_]; exact kf16_
    refine w_if_eq (tgt := 25) dX12_opens_21 (by decide) (rfl : z17_.toInt = z17_.toInt) (fun h22_ => ?_) (fun h9 => (lf_c_X12_kind_4 z17_ h19_ h21_ h9 ).elim)
    have h23_ : 1 ≤ m := (lf_c_X12_opens_1 m z2_ h4_ h5_ h6_ )
    refine w_aload_n dX12_opens_25 rfl 0 rfl ?_
    refine w_dup dX12_opens_26 rfl ?_
    refine w_getI fl_RX12_191 rfl rfl ic_12 dX12_opens_27 (fun z24_ e25_ => ?_)
    have h26_ : 0 ≤ z24_.toInt ∧ z24_.toInt ≤ 5 := ofEq (P := fun v => 0 ≤ v.toInt ∧ v.toInt ≤ 5) e25_ (hI9_.1 (12, 0, 0) 11)
    have h27_ : z24_.toInt + ((m : Nat) : Int) = 5 := by rw [e25_]; exact kf11_
    refine w_iconst (v := 1) dX12_opens_30 (by decide) ?_
    refine w_iaddB dX12_opens_31 (rfl : z24_.toInt = z24_.toInt) li_1 (lf_c_X12_opens_2 z24_ h26_ ) (fun z28_ h29_ => ?_)
    refine w_putI DD_nd fl_RX12_191 rfl rfl ic_12 dX12_opens_32 (fun M30_ hM31_ => ?_)
    have hI32_ := hI9_.put hM31_ ⟨(lf_c_X12_opens_3 m z24_ z28_ h23_ h26_ h27_ h29_ ), Or.inl (by decide)⟩
    have hF33_ := hF10_.put hM31_ (Or.inr (Or.inl ⟨rfl, rfl, rfl⟩))
    have kf34_ : (M30_.1 (12, 0, 0) 9).toInt < T := by rw [(show M30_.1 (12, 0, 0) 9 = M7_.1 (12, 0, 0) 9 by rw [hM31_, up_ne (by simp)])]; exact kf12_
    have kf35_ : (M30_.1 (12, 0, 0) 9).toInt ≤ 47 := by rw [(show M30_.1 (12, 0, 0) 9 = M7_.1 (12, 0, 0) 9 by rw [hM31_, up_ne (by simp)])]; exact kf13_
    have kf36_ : PP M30_ s D a T := PP_cong h14_ (show M30_.1 (12, 0, 0) 14 = M7_.1 (12, 0, 0) 14 by rw [hM31_, up_ne (by simp)]) (show M30_.1 (12, 0, 0) 9 = M7_.1 (12, 0, 0) 9 by rw [hM31_, up_ne (by simp)]) (show M30_.1 (50, 0, 0) 4 = M7_.1 (50, 0, 0) 4 by rw [hM31_, up_ne (by simp)]) (show M30_.1 (12, 0, 0) 13 = M7_.1 (12, 0, 0) 13 by rw [hM31_, up_ne (by simp)]) (show M30_.1 (57, 0, 0) = M7_.1 (57, 0, 0) by rw [hM31_]; exact up_other _ _ (by simp))
    have kf37_ : M30_.1 (12, 0, 0) 13 = 0 := by rw [(show M30_.1 (12, 0, 0) 13 = M7_.1 (12, 0, 0) 13 by rw [hM31_, up_ne (by simp)])]; exact kf15_
    have kf38_ : (M30_.1 (12, 0, 0) 13).toInt = 0 := by rw [(show M30_.1 (12, 0, 0) 13 = M7_.1 (12, 0, 0) 13 by rw [hM31_, up_ne (by simp)])]; exact kf16_
    have kf39_ : (M30_.1 (12, 0, 0) 11).toInt + (((m - 1) : Nat) : Int) = 5 := by rw [hM31_, up_same]; exact (lf_c_X12_opens_4 m z24_ z28_ h23_ h27_ h29_ )
    refine w_aload_n dX12_opens_35 rfl 0 rfl ?_
    refine w_dup dX12_opens_36 rfl ?_
    refine w_getI fl_RX12_155 rfl rfl ic_12 dX12_opens_37 (fun z40_ e41_ => ?_)
    have h42_ : 0 ≤ z40_.toInt ∧ z40_.toInt ≤ 48 := ofEq (P := fun v => 0 ≤ v.toInt ∧ v.toInt ≤ 48) e41_ (hI32_.1 (12, 0, 0) 9)
    have h43_ : z40_.toInt < T := by rw [e41_]; exact kf34_
    have h44_ : z40_.toInt ≤ 47 := by rw [e41_]; exact kf35_
    refine w_iconst (v := 1) dX12_opens_40 (by decide) ?_
    refine w_iaddB dX12_opens_41 (rfl : z40_.toInt = z40_.toInt) li_1 (lf_c_X12_takes_4 z40_ h42_ h44_ ) (fun z45_ h46_ => ?_)
    refine w_putI DD_nd fl_RX12_155 rfl rfl ic_12 dX12_opens_42 (fun M47_ hM48_ => ?_)
    have hI49_ := hI32_.put hM48_ ⟨(lf_c_X12_takes_5 z40_ z45_ h42_ h44_ h46_ ), Or.inl (by decide)⟩
    have hF50_ := hF33_.put hM48_ (Or.inl ⟨rfl, rfl, rfl⟩)
    have kf51_ : M47_.1 (12, 0, 0) 13 = 0 := by rw [(show M47_.1 (12, 0, 0) 13 = M30_.1 (12, 0, 0) 13 by rw [hM48_, up_ne (by simp)])]; exact kf37_
    have kf52_ : (M47_.1 (12, 0, 0) 13).toInt = 0 := by rw [(show M47_.1 (12, 0, 0) 13 = M30_.1 (12, 0, 0) 13 by rw [hM48_, up_ne (by simp)])]; exact kf38_
    have kf53_ : (M47_.1 (12, 0, 0) 11).toInt + (((m - 1) : Nat) : Int) = 5 := by rw [(show M47_.1 (12, 0, 0) 11 = M30_.1 (12, 0, 0) 11 by rw [hM48_, up_ne (by simp)])]; exact kf39_
    have h54_ : PP M47_ (s + 1) D (a + 1) T := PP_at kf36_ hM48_ (by rw [← e41_]; exact (lf_c_X12_given_25 z40_ z45_ h46_ )) kf34_
    refine w_iload_n dX12_opens_45 rfl 1 rfl ?_
    refine w_bipush (v := 45) dX12_opens_46 (by decide) ?_
    refine w_icmp_ne (tgt := 65) dX12_opens_48 (by decide) (rfl : v.toInt = v.toInt) li_45 (fun h55_ => ?_) (fun h55_ => ?_)
    · refine w_iload_n dX12_opens_65 rfl 1 rfl ?_
      refine w_bipush (v := 40) dX12_opens_66 (by decide) ?_
      refine w_icmp_ne (tgt := 84) dX12_opens_68 (by decide) (rfl : v.toInt = v.toInt) li_40 (fun h56_ => ?_) (fun h56_ => ?_)
      · refine w_aload_n dX12_opens_84 rfl 0 rfl ?_
        refine w_callVv (as := []) (rest := []) (hB (m - 1) (lf_c_X12_tryRows_23 m h23_ ) (d + 2) (s + 1) D (a + 1) T M47_ hI49_ h54_ (lf_c_X12_opens_8 s hs ) kf53_ (lf_c_X4_readOpened_2 m hm )) kV_X12_text pnn_17 (Nat.le_of_ble_eq_true rfl) m_1559 rfl rfl rfl ic_12 rfl rfl (by decide) (Nat.le_of_ble_eq_true rfl) dX12_opens_85 (fun M57_ q58_ => ?_)
        obtain ⟨hI60_, hF61_, h59_, hs63_⟩ := q58_
        have hF62_ := hF50_.tr hF61_ (fun c k => (fun h => h.elim (fun h => (Or.inl ⟨h.1, h.2.1, h.2.2⟩)) (fun h => h.elim (fun h => (Or.inr (Or.inl ⟨h.1, h.2.1, h.2.2⟩))) (fun h => h.elim (fun h => (Or.inr (Or.inr (Or.inl ⟨h.1, h.2.1, h.2.2⟩)))) (fun h => h.elim (fun h => (Or.inr (Or.inr (Or.inr (Or.inl ⟨h.1, h.2.1, h.2.2⟩))))) (fun h => h.elim (fun h => (Or.inr (Or.inr (Or.inr (Or.inr (Or.inl ⟨h.1, h.2.1, h.2.2⟩)))))) (fun h => h.elim (fun h => (Or.inr (Or.inr (Or.inr (Or.inr (Or.inr (Or.inl ⟨h.1, h.2⟩))))))) (fun h => h.elim))))))))
        have h64_ : PP M57_ (s + 1) (D + 1) (a + 1) T := h59_.1
        have kf65_ : (M57_.1 (12, 0, 0) 11).toInt + (((m - 1) : Nat) : Int) = 5 := h59_.2
        refine w_aload_n dX12_opens_88 rfl 0 rfl ?_
        refine w_bipush (v := 63) dX12_opens_89 (by decide) ?_
        refine w_callVv (as := [vI 63]) (rest := []) (c_X12_must l G cy ad (N + d) 63 (s + 1) (D + 1) (a + 1) T M57_ hI60_ h64_ (by first | decide | (unfold vF; omega) | (unfold vRw; omega))) kV_X12_must pnn_17 (Nat.le_of_ble_eq_true rfl) m_1587 rfl rfl rfl ic_12 rfl rfl (by decide) (Nat.le_of_ble_eq_true rfl) dX12_opens_91 (fun M66_ q67_ => ?_)
        obtain ⟨hI69_, hF70_, h68_, hs72_⟩ := q67_
        have hF71_ := hF62_.tr hF70_ (fun c k => (fun h => h.elim (fun h => (Or.inl ⟨h.1, h.2.1, h.2.2⟩)) (fun h => h.elim (fun h => (Or.inr (Or.inr (Or.inr (Or.inl ⟨h.1, h.2.1, h.2.2⟩))))) (fun h => h.elim))))
        have kf73_ : (M66_.1 (12, 0, 0) 11).toInt + (((m - 1) : Nat) : Int) = 5 := by rw [(hF70_ (12, 0, 0) 11 (by simp [S_must]))]; exact kf65_
        refine w_aload_n dX12_opens_94 rfl 0 rfl ?_
        refine w_callVv (as := []) (rest := []) (hB (m - 1) (lf_c_X12_tryRows_23 m h23_ ) (d + 2) (s + 1) (D + 1) (a + 1) T M66_ hI69_ h68_ (lf_c_X12_opens_8 s hs ) kf73_ (lf_c_X4_readOpened_2 m hm )) kV_X12_text pnn_17 (Nat.le_of_ble_eq_true rfl) m_1559 rfl rfl rfl ic_12 rfl rfl (by decide) (Nat.le_of_ble_eq_true rfl) dX12_opens_95 (fun M74_ q75_ => ?_)
        obtain ⟨hI77_, hF78_, h76_, hs80_⟩ := q75_
        have hF79_ := hF71_.tr hF78_ (fun c k => (fun h => h.elim (fun h => (Or.inl ⟨h.1, h.2.1, h.2.2⟩)) (fun h => h.elim (fun h => (Or.inr (Or.inl ⟨h.1, h.2.1, h.2.2⟩))) (fun h => h.elim (fun h => (Or.inr (Or.inr (Or.inl ⟨h.1, h.2.1, h.2.2⟩)))) (fun h => h.elim (fun h => (Or.inr (Or.inr (Or.inr (Or.inl ⟨h.1, h.2.1, h.2.2⟩))))) (fun h => h.elim (fun h => (Or.inr (Or.inr (Or.inr (Or.inr (Or.inl ⟨h.1, h.2.1, h.2.2⟩)))))) (fun h => h.elim (fun h => (Or.inr (Or.inr (Or.inr (Or.inr (Or.inr (Or.inl ⟨h.1, h.2⟩))))))) (fun h => h.elim))))))))
        have h81_ : PP M74_ (s + 1) ((D + 1) + 1) (a + 1) T := h76_.1
        have kf82_ : (M74_.1 (12, 0, 0) 11).toInt + (((m - 1) : Nat) : Int) = 5 := h76_.2
        refine w_aload_n dX12_opens_98 rfl 0 rfl ?_
        refine w_bipush (v := 58) dX12_opens_99 (by decide) ?_
        refine w_callVv (as := [vI 58]) (rest := []) (c_X12_must l G cy ad (N + d) 58 (s + 1) ((D + 1) + 1) (a + 1) T M74_ hI77_ h81_ (by first | decide | (unfold vF; omega) | (unfold vRw; omega))) kV_X12_must pnn_17 (Nat.le_of_ble_eq_true rfl) m_1587 rfl rfl rfl ic_12 rfl rfl (by decide) (Nat.le_of_ble_eq_true rfl) dX12_opens_101 (fun M83_ q84_ => ?_)
        obtain ⟨hI86_, hF87_, h85_, hs89_⟩ := q84_
        have hF88_ := hF79_.tr hF87_ (fun c k => (fun h => h.elim (fun h => (Or.inl ⟨h.1, h.2.1, h.2.2⟩)) (fun h => h.elim (fun h => (Or.inr (Or.inr (Or.inr (Or.inl ⟨h.1, h.2.1, h.2.2⟩))))) (fun h => h.elim))))
        have kf90_ : (M83_.1 (12, 0, 0) 11).toInt + (((m - 1) : Nat) : Int) = 5 := by rw [(hF87_ (12, 0, 0) 11 (by simp [S_must]))]; exact kf82_
        refine w_aload_n dX12_opens_104 rfl 0 rfl ?_
        refine w_callVv (as := []) (rest := []) (hB (m - 1) (lf_c_X12_tryRows_23 m h23_ ) (d + 2) (s + 1) ((D + 1) + 1) (a + 1) T M83_ hI86_ h85_ (lf_c_X12_opens_8 s hs ) kf90_ (lf_c_X4_readOpened_2 m hm )) kV_X12_text pnn_17 (Nat.le_of_ble_eq_true rfl) m_1559 rfl rfl rfl ic_12 rfl rfl (by decide) (Nat.le_of_ble_eq_true rfl) dX12_opens_105 (fun M91_ q92_ => ?_)
        obtain ⟨hI94_, hF95_, h93_, hs97_⟩ := q92_
        have hF96_ := hF88_.tr hF95_ (fun c k => (fun h => h.elim (fun h => (Or.inl ⟨h.1, h.2.1, h.2.2⟩)) (fun h => h.elim (fun h => (Or.inr (Or.inl ⟨h.1, h.2.1, h.2.2⟩))) (fun h => h.elim (fun h => (Or.inr (Or.inr (Or.inl ⟨h.1, h.2.1, h.2.2⟩)))) (fun h => h.elim (fun h => (Or.inr (Or.inr (Or.inr (Or.inl ⟨h.1, h.2.1, h.2.2⟩))))) (fun h => h.elim (fun h => (Or.inr (Or.inr (Or.inr (Or.inr (Or.inl ⟨h.1, h.2.1, h.2.2⟩)))))) (fun h => h.elim (fun h => (Or.inr (Or.inr (Or.inr (Or.inr (Or.inr (Or.inl ⟨h.1, h.2⟩))))))) (fun h => h.elim))))))))
        have h98_ : PP M91_ (s + 1) (((D + 1) + 1) + 1) (a + 1) T := h93_.1
        have kf99_ : (M91_.1 (12, 0, 0) 11).toInt + (((m - 1) : Nat) : Int) = 5 := h93_.2
        refine w_aload_n dX12_opens_108 rfl 0 rfl ?_
        refine w_bipush (v := 93) dX12_opens_109 (by decide) ?_
        refine w_callVv (as := [vI 93]) (rest := []) (c_X12_must l G cy ad (N + d) 93 (s + 1) (((D + 1) + 1) + 1) (a + 1) T M91_ hI94_ h98_ (by first | decide | (unfold vF; omega) | (unfold vRw; omega))) kV_X12_must pnn_17 (Nat.le_of_ble_eq_true rfl) m_1587 rfl rfl rfl ic_12 rfl rfl (by decide) (Nat.le_of_ble_eq_true rfl) dX12_opens_111 (fun M100_ q101_ => ?_)
        obtain ⟨hI103_, hF104_, h102_, hs106_⟩ := q101_
        have hF105_ := hF96_.tr hF104_ (fun c k => (fun h => h.elim (fun h => (Or.inl ⟨h.1, h.2.1, h.2.2⟩)) (fun h => h.elim (fun h => (Or.inr (Or.inr (Or.inr (Or.inl ⟨h.1, h.2.1, h.2.2⟩))))) (fun h => h.elim))))
        have kf107_ : (M100_.1 (12, 0, 0) 11).toInt + (((m - 1) : Nat) : Int) = 5 := by rw [(hF104_ (12, 0, 0) 11 (by simp [S_must]))]; exact kf99_
        refine w_aload_n dX12_opens_114 rfl 0 rfl ?_
        refine w_sipush (v := 2009) dX12_opens_115 (by decide) ?_
        refine w_callVv (as := [vI 2009]) (rest := []) (c_X12_codes l G cy ad ((N + d) + 2) 2009 (s + 1) (((D + 1) + 1) + 1) (a + 1) T (D + 1) M100_ hI103_ h102_ (lf_c_X12_opens_8 s hs ) stp_c) kV_X12_codes pnn_17 (Nat.le_of_ble_eq_true rfl) m_1583 rfl rfl rfl ic_12 rfl rfl (by decide) (Nat.le_of_ble_eq_true rfl) dX12_opens_118 (fun M108_ q109_ => ?_)
        obtain ⟨hI111_, hF112_, h110_, hs114_⟩ := q109_
        have hF113_ := hF105_.tr hF112_ (fun c k => (fun h => h.elim (fun h => (Or.inr (Or.inr (Or.inr (Or.inr (Or.inl ⟨h.1, h.2.1, h.2.2⟩)))))) (fun h => h.elim (fun h => (Or.inr (Or.inr (Or.inr (Or.inr (Or.inr (Or.inl ⟨h.1, h.2⟩))))))) (fun h => h.elim))))
        have kf115_ : (M108_.1 (12, 0, 0) 11).toInt + (((m - 1) : Nat) : Int) = 5 := by rw [(hF112_ (12, 0, 0) 11 (by simp [S_codes]))]; exact kf107_
        refine w_aload_n dX12_opens_121 rfl 0 rfl ?_
        refine w_dup dX12_opens_122 rfl ?_
        refine w_getI fl_RX12_191 rfl rfl ic_12 dX12_opens_123 (fun z116_ e117_ => ?_)
        have h118_ : 0 ≤ z116_.toInt ∧ z116_.toInt ≤ 5 := ofEq (P := fun v => 0 ≤ v.toInt ∧ v.toInt ≤ 5) e117_ (hI111_.1 (12, 0, 0) 11)
        have h119_ : z116_.toInt + (((m - 1) : Nat) : Int) = 5 := by rw [e117_]; exact kf115_
        refine w_iconst (v := 1) dX12_opens_126 (by decide) ?_
        refine w_isubB dX12_opens_127 (rfl : z116_.toInt = z116_.toInt) li_1 (lf_c_X12_opens_18 z116_ h118_ ) (fun z120_ h121_ => ?_)
        refine w_putI DD_nd fl_RX12_191 rfl rfl ic_12 dX12_opens_128 (fun M122_ hM123_ => ?_)
        have hI124_ := hI111_.put hM123_ ⟨(lf_c_X12_opens_19 m z116_ z120_ hm h118_ h119_ h121_ ), Or.inl (by decide)⟩
        have hF125_ := hF113_.put hM123_ (Or.inr (Or.inl ⟨rfl, rfl, rfl⟩))
        have kf126_ : PP M122_ ((s + 1) - 1) (D + 1) (a + 1) T := PP_cong h110_ (show M122_.1 (12, 0, 0) 14 = M108_.1 (12, 0, 0) 14 by rw [hM123_, up_ne (by simp)]) (show M122_.1 (12, 0, 0) 9 = M108_.1 (12, 0, 0) 9 by rw [hM123_, up_ne (by simp)]) (show M122_.1 (50, 0, 0) 4 = M108_.1 (50, 0, 0) 4 by rw [hM123_, up_ne (by simp)]) (show M122_.1 (12, 0, 0) 13 = M108_.1 (12, 0, 0) 13 by rw [hM123_, up_ne (by simp)]) (show M122_.1 (57, 0, 0) = M108_.1 (57, 0, 0) by rw [hM123_]; exact up_other _ _ (by simp))
        have kf127_ : (M122_.1 (12, 0, 0) 11).toInt + ((m : Nat) : Int) = 5 := by rw [hM123_, up_same]; exact (lf_c_X12_opens_20 m z116_ z120_ h23_ h119_ h121_ )
        exact w_vret rfl dX12_opens_131 ⟨hI124_, hF125_, ⟨PP_mono kf126_ (lf_c_X12_opens_21 s ) (lf_c_X12_here_19 a ), kf127_⟩, ⟨z2_, e3_, h4_, h5_, (Or.inl ⟨h6_, M7_, hM8_, z17_, e18_, h19_, h20_, h21_, h22_, h23_, z24_, e25_, h26_, h27_, z28_, h29_, M30_, hM31_, z40_, e41_, h42_, h43_, h44_, z45_, h46_, M47_, hM48_, (Or.inl ⟨h55_, (Or.inl ⟨h56_, hI49_, M57_, hI60_, hF61_, hs63_, M66_, hI69_, hF70_, hs72_, M74_, hI77_, hF78_, hs80_, M83_, hI86_, hF87_, hs89_, M91_, hI94_, hF95_, hs97_, M100_, hI103_, hF104_, hs106_, M108_, hI111_, hF112_, hs114_, h110_, z116_, e117_, h118_, h119_, z120_, h121_, M122_, hM123_, rfl⟩)⟩)⟩)⟩⟩
      · refine w_aload_n dX12_opens_71 rfl 0 rfl ?_
        refine w_callVv (as := []) (rest := []) (hB (m - 1) (lf_c_X12_tryRows_23 m h23_ ) (d + 2) (s + 1) D (a + 1) T M47_ hI49_ h54_ (lf_c_X12_opens_8 s hs ) kf53_ (lf_c_X4_readOpened_2 m hm )) kV_X12_text pnn_17 (Nat.le_of_ble_eq_true rfl) m_1559 rfl rfl rfl ic_12 rfl rfl (by decide) (Nat.le_of_ble_eq_true rfl) dX12_opens_72 (fun M128_ q129_ => ?_)
        obtain ⟨hI131_, hF132_, h130_, hs134_⟩ := q129_
        have hF133_ := hF50_.tr hF132_ (fun c k => (fun h => h.elim (fun h => (Or.inl ⟨h.1, h.2.1, h.2.2⟩)) (fun h => h.elim (fun h => (Or.inr (Or.inl ⟨h.1, h.2.1, h.2.2⟩))) (fun h => h.elim (fun h => (Or.inr (Or.inr (Or.inl ⟨h.1, h.2.1, h.2.2⟩)))) (fun h => h.elim (fun h => (Or.inr (Or.inr (Or.inr (Or.inl ⟨h.1, h.2.1, h.2.2⟩))))) (fun h => h.elim (fun h => (Or.inr (Or.inr (Or.inr (Or.inr (Or.inl ⟨h.1, h.2.1, h.2.2⟩)))))) (fun h => h.elim (fun h => (Or.inr (Or.inr (Or.inr (Or.inr (Or.inr (Or.inl ⟨h.1, h.2⟩))))))) (fun h => h.elim))))))))
        have h135_ : PP M128_ (s + 1) (D + 1) (a + 1) T := h130_.1
        have kf136_ : (M128_.1 (12, 0, 0) 11).toInt + (((m - 1) : Nat) : Int) = 5 := h130_.2
        refine w_aload_n dX12_opens_75 rfl 0 rfl ?_
        refine w_bipush (v := 41) dX12_opens_76 (by decide) ?_
        refine w_callVv (as := [vI 41]) (rest := []) (c_X12_must l G cy ad (N + d) 41 (s + 1) (D + 1) (a + 1) T M128_ hI131_ h135_ (by first | decide | (unfold vF; omega) | (unfold vRw; omega))) kV_X12_must pnn_17 (Nat.le_of_ble_eq_true rfl) m_1587 rfl rfl rfl ic_12 rfl rfl (by decide) (Nat.le_of_ble_eq_true rfl) dX12_opens_78 (fun M137_ q138_ => ?_)
        obtain ⟨hI140_, hF141_, h139_, hs143_⟩ := q138_
        have hF142_ := hF133_.tr hF141_ (fun c k => (fun h => h.elim (fun h => (Or.inl ⟨h.1, h.2.1, h.2.2⟩)) (fun h => h.elim (fun h => (Or.inr (Or.inr (Or.inr (Or.inl ⟨h.1, h.2.1, h.2.2⟩))))) (fun h => h.elim))))
        have kf144_ : (M137_.1 (12, 0, 0) 11).toInt + (((m - 1) : Nat) : Int) = 5 := by rw [(hF141_ (12, 0, 0) 11 (by simp [S_must]))]; exact kf136_
        refine w_goto (tgt := 121) dX12_opens_81 (by decide) ?_
        refine w_aload_n dX12_opens_121 rfl 0 rfl ?_
        refine w_dup dX12_opens_122 rfl ?_
        refine w_getI fl_RX12_191 rfl rfl ic_12 dX12_opens_123 (fun z145_ e146_ => ?_)
        have h147_ : 0 ≤ z145_.toInt ∧ z145_.toInt ≤ 5 := ofEq (P := fun v => 0 ≤ v.toInt ∧ v.toInt ≤ 5) e146_ (hI140_.1 (12, 0, 0) 11)
        have h148_ : z145_.toInt + (((m - 1) : Nat) : Int) = 5 := by rw [e146_]; exact kf144_
        refine w_iconst (v := 1) dX12_opens_126 (by decide) ?_
        refine w_isubB dX12_opens_127 (rfl : z145_.toInt = z145_.toInt) li_1 (lf_c_X12_opens_18 z145_ h147_ ) (fun z149_ h150_ => ?_)
        refine w_putI DD_nd fl_RX12_191 rfl rfl ic_12 dX12_opens_128 (fun M151_ hM152_ => ?_)
        have hI153_ := hI140_.put hM152_ ⟨(lf_c_X12_opens_19 m z145_ z149_ hm h147_ h148_ h150_ ), Or.inl (by decide)⟩
        have hF154_ := hF142_.put hM152_ (Or.inr (Or.inl ⟨rfl, rfl, rfl⟩))
        have kf155_ : PP M151_ (s + 1) (D + 1) (a + 1) T := PP_cong h139_ (show M151_.1 (12, 0, 0) 14 = M137_.1 (12, 0, 0) 14 by rw [hM152_, up_ne (by simp)]) (show M151_.1 (12, 0, 0) 9 = M137_.1 (12, 0, 0) 9 by rw [hM152_, up_ne (by simp)]) (show M151_.1 (50, 0, 0) 4 = M137_.1 (50, 0, 0) 4 by rw [hM152_, up_ne (by simp)]) (show M151_.1 (12, 0, 0) 13 = M137_.1 (12, 0, 0) 13 by rw [hM152_, up_ne (by simp)]) (show M151_.1 (57, 0, 0) = M137_.1 (57, 0, 0) by rw [hM152_]; exact up_other _ _ (by simp))
        have kf156_ : (M151_.1 (12, 0, 0) 11).toInt + ((m : Nat) : Int) = 5 := by rw [hM152_, up_same]; exact (lf_c_X12_opens_20 m z145_ z149_ h23_ h148_ h150_ )
        exact w_vret rfl dX12_opens_131 ⟨hI153_, hF154_, ⟨PP_mono kf155_ (lf_c_X12_here_19 s ) (lf_c_X12_here_19 a ), kf156_⟩, ⟨z2_, e3_, h4_, h5_, (Or.inl ⟨h6_, M7_, hM8_, z17_, e18_, h19_, h20_, h21_, h22_, h23_, z24_, e25_, h26_, h27_, z28_, h29_, M30_, hM31_, z40_, e41_, h42_, h43_, h44_, z45_, h46_, M47_, hM48_, (Or.inl ⟨h55_, (Or.inr ⟨h56_, hI49_, M128_, hI131_, hF132_, hs134_, M137_, hI140_, hF141_, hs143_, h139_, z145_, e146_, h147_, h148_, z149_, h150_, M151_, hM152_, rfl⟩)⟩)⟩)⟩⟩
    · refine w_aload_n dX12_opens_51 rfl 0 rfl ?_
      refine w_callVv (as := []) (rest := []) (hA (m - 1) (lf_c_X12_tryRows_23 m h23_ ) (d + 2) (s + 1) D (a + 1) T M47_ hI49_ h54_ (lf_c_X12_opens_8 s hs ) kf53_ (lf_c_X4_readOpened_2 m hm )) kV_X12_one pnn_17 (Nat.le_of_ble_eq_true rfl) m_1571 rfl rfl rfl ic_12 rfl rfl (by decide) (Nat.le_of_ble_eq_true rfl) dX12_opens_52 (fun M157_ q158_ => ?_)
      obtain ⟨hI160_, hF161_, h159_, hs163_⟩ := q158_
      have hF162_ := hF50_.tr hF161_ (fun c k => (fun h => h.elim (fun h => (Or.inl ⟨h.1, h.2.1, h.2.2⟩)) (fun h => h.elim (fun h => (Or.inr (Or.inl ⟨h.1, h.2.1, h.2.2⟩))) (fun h => h.elim (fun h => (Or.inr (Or.inr (Or.inl ⟨h.1, h.2.1, h.2.2⟩)))) (fun h => h.elim (fun h => (Or.inr (Or.inr (Or.inr (Or.inl ⟨h.1, h.2.1, h.2.2⟩))))) (fun h => h.elim (fun h => (Or.inr (Or.inr (Or.inr (Or.inr (Or.inl ⟨h.1, h.2.1, h.2.2⟩)))))) (fun h => h.elim (fun h => (Or.inr (Or.inr (Or.inr (Or.inr (Or.inr (Or.inl ⟨h.1, h.2⟩))))))) (fun h => h.elim))))))))
      have h164_ : PP M157_ (s + 1) (D + 1) (a + 1) T := h159_.1
      have kf165_ : (M157_.1 (12, 0, 0) 11).toInt + (((m - 1) : Nat) : Int) = 5 := h159_.2
      refine w_aload_n dX12_opens_55 rfl 0 rfl ?_
      refine w_sipush (v := 2008) dX12_opens_56 (by decide) ?_
      refine w_callVv (as := [vI 2008]) (rest := []) (c_X12_codes l G cy ad ((N + d) + 2) 2008 (s + 1) (D + 1) (a + 1) T (D + 1) M157_ hI160_ h164_ (lf_c_X12_opens_8 s hs ) stp_t) kV_X12_codes pnn_17 (Nat.le_of_ble_eq_true rfl) m_1583 rfl rfl rfl ic_12 rfl rfl (by decide) (Nat.le_of_ble_eq_true rfl) dX12_opens_59 (fun M166_ q167_ => ?_)
      obtain ⟨hI169_, hF170_, h168_, hs172_⟩ := q167_
      have hF171_ := hF162_.tr hF170_ (fun c k => (fun h => h.elim (fun h => (Or.inr (Or.inr (Or.inr (Or.inr (Or.inl ⟨h.1, h.2.1, h.2.2⟩)))))) (fun h => h.elim (fun h => (Or.inr (Or.inr (Or.inr (Or.inr (Or.inr (Or.inl ⟨h.1, h.2⟩))))))) (fun h => h.elim))))
      have kf173_ : (M166_.1 (12, 0, 0) 11).toInt + (((m - 1) : Nat) : Int) = 5 := by rw [(hF170_ (12, 0, 0) 11 (by simp [S_codes]))]; exact kf165_
      refine w_goto (tgt := 121) dX12_opens_62 (by decide) ?_
      refine w_aload_n dX12_opens_121 rfl 0 rfl ?_
      refine w_dup dX12_opens_122 rfl ?_
      refine w_getI fl_RX12_191 rfl rfl ic_12 dX12_opens_123 (fun z174_ e175_ => ?_)
      have h176_ : 0 ≤ z174_.toInt ∧ z174_.toInt ≤ 5 := ofEq (P := fun v => 0 ≤ v.toInt ∧ v.toInt ≤ 5) e175_ (hI169_.1 (12, 0, 0) 11)
      have h177_ : z174_.toInt + (((m - 1) : Nat) : Int) = 5 := by rw [e175_]; exact kf173_
      refine w_iconst (v := 1) dX12_opens_126 (by decide) ?_
      refine w_isubB dX12_opens_127 (rfl : z174_.toInt = z174_.toInt) li_1 (lf_c_X12_opens_18 z174_ h176_ ) (fun z178_ h179_ => ?_)
      refine w_putI DD_nd fl_RX12_191 rfl rfl ic_12 dX12_opens_128 (fun M180_ hM181_ => ?_)
      have hI182_ := hI169_.put hM181_ ⟨(lf_c_X12_opens_19 m z174_ z178_ hm h176_ h177_ h179_ ), Or.inl (by decide)⟩
      have hF183_ := hF171_.put hM181_ (Or.inr (Or.inl ⟨rfl, rfl, rfl⟩))
      have kf184_ : PP M180_ ((s + 1) - 1) (D + 1) (a + 1) T := PP_cong h168_ (show M180_.1 (12, 0, 0) 14 = M166_.1 (12, 0, 0) 14 by rw [hM181_, up_ne (by simp)]) (show M180_.1 (12, 0, 0) 9 = M166_.1 (12, 0, 0) 9 by rw [hM181_, up_ne (by simp)]) (show M180_.1 (50, 0, 0) 4 = M166_.1 (50, 0, 0) 4 by rw [hM181_, up_ne (by simp)]) (show M180_.1 (12, 0, 0) 13 = M166_.1 (12, 0, 0) 13 by rw [hM181_, up_ne (by simp)]) (show M180_.1 (57, 0, 0) = M166_.1 (57, 0, 0) by rw [hM181_]; exact up_other _ _ (by simp))
      have kf185_ : (M180_.1 (12, 0, 0) 11).toInt + ((m : Nat) : Int) = 5 := by rw [hM181_, up_same]; exact (lf_c_X12_opens_20 m z174_ z178_ h23_ h177_ h179_ )
      exact w_vret rfl dX12_opens_131 ⟨hI182_, hF183_, ⟨PP_mono kf184_ (lf_c_X12_opens_21 s ) (lf_c_X12_here_19 a ), kf185_⟩, ⟨z2_, e3_, h4_, h5_, (Or.inl ⟨h6_, M7_, hM8_, z17_, e18_, h19_, h20_, h21_, h22_, h23_, z24_, e25_, h26_, h27_, z28_, h29_, M30_, hM31_, z40_, e41_, h42_, h43_, h44_, z45_, h46_, M47_, hM48_, (Or.inr ⟨h55_, hI49_, M157_, hI160_, hF161_, hs163_, M166_, hI169_, hF170_, hs172_, h168_, z174_, e175_, h176_, h177_, z178_, h179_, M180_, hM181_, rfl⟩)⟩)⟩⟩
  · refine w_iconst (v := 1) dX12_opens_9 (by decide) ?_
    refine w_goto (tgt := 14) dX12_opens_10 (by decide) ?_
    refine w_putZ DD_nd fl_RX12_151 rfl rfl ic_12 ⟨by decide, by decide⟩ dX12_opens_14 (fun M186_ hM187_ => ?_)
    have hI188_ := hIz.put hM187_ ⟨⟨by decide, by decide⟩, Or.inl (by decide)⟩
    have hF189_ := hFz.put hM187_ (Or.inr (Or.inr (Or.inr (Or.inl ⟨rfl, rfl, rfl⟩))))
    have kf190_ : (M186_.1 (12, 0, 0) 11).toInt + ((m : Nat) : Int) = 5 := by rw [(show M186_.1 (12, 0, 0) 11 = Mz.1 (12, 0, 0) 11 by rw [hM187_, up_ne (by simp)])]; exact hk
    have kf191_ : (M186_.1 (12, 0, 0) 9).toInt < T := by rw [(show M186_.1 (12, 0, 0) 9 = Mz.1 (12, 0, 0) 9 by rw [hM187_, up_ne (by simp)])]; exact ht
    have kf192_ : (M186_.1 (12, 0, 0) 9).toInt ≤ 47 := by rw [(show M186_.1 (12, 0, 0) 9 = Mz.1 (12, 0, 0) 9 by rw [hM187_, up_ne (by simp)])]; exact kf1_
    have h193_ : PP M186_ s D a T := PP_put1 hp hM187_
    have kf194_ : M186_.1 (12, 0, 0) 13 = 1 := up_s hM187_
    have kf195_ : (M186_.1 (12, 0, 0) 13).toInt = 1 := by rw [kf194_]; decide
    refine w_aload_n dX12_opens_17 rfl 0 rfl ?_
    refine w_getI fl_RX12_151 rfl rfl ic_12 dX12_opens_18 (fun z196_ e197_ => ?_)
    have h198_ : 0 ≤ z196_.toInt ∧ z196_.toInt ≤ 1 := ofEq (P := fun v => 0 ≤ v.toInt ∧ v.toInt ≤ 1) e197_ (hI188_.1 (12, 0, 0) 13)
    have h199_ : z196_ = 1 := by rw [e197_]; exact kf194_
    have h200_ : z196_.toInt = 1 := by rw [e197_]; exact kf195_
    refine w_if_eq (tgt := 25) dX12_opens_21 (by decide) (rfl : z196_.toInt = z196_.toInt) (fun h9 => (lf_c_X2_changeAir_0 z196_ h200_ h9 ).elim) (fun h201_ => ?_)
    exact w_vret rfl dX12_opens_24 ⟨hI188_, hF189_, ⟨PP_wr (PP_mono h193_ (lf_c_X12_opens_41 s ) (lf_c_X12_opens_41 a )) kf194_, kf190_⟩, ⟨z2_, e3_, h4_, h5_, (Or.inr ⟨h6_, M186_, hM187_, h193_, z196_, e197_, h198_, h199_, h200_, h201_, rfl⟩)⟩⟩
def ST_X12_one_46 (s : Int) (D : Nat) (a : Int) (T : Int) (Mz : mM) (v3_46 : Int32) (v2_46 : Int32) (M_46 : mM) (v3_46y : Int32) (v2_46y : Int32) (M_46y : mM) : Prop := (0 ≤ v3_46.toInt ∧ v3_46.toInt ≤ 3) ∧ ((v3_46.toInt = 0 ∧ v2_46.toInt = 0) ∨ (v3_46.toInt = 1 ∧ 0 ≤ v2_46.toInt ∧ v2_46.toInt ≤ 9) ∨ (v3_46.toInt = 2 ∧ 0 ≤ v2_46.toInt ∧ v2_46.toInt ≤ 99) ∨ (v3_46.toInt = 3 ∧ 0 ≤ v2_46.toInt ∧ v2_46.toInt ≤ 999)) ∧ (v3_46.toInt = 0 → DG M_46) ∧ (InvD M_46) ∧ (FR (S_par) Mz M_46) ∧ (v3_46.toInt < 3) ∧ ∃ z70_ : Int32, (z70_ = M_46.1 (12, 0, 0) 9) ∧ (0 ≤ z70_.toInt ∧ z70_.toInt ≤ 48) ∧ ∃ z73_ : Int32, (z73_ = M_46.1 (50, 0, 0) 4) ∧ (0 ≤ z73_.toInt ∧ z73_.toInt ≤ 48) ∧ (z70_.toInt < z73_.toInt) ∧ ∃ z99_ : Int32, (z99_.toInt = 273 + z70_.toInt) ∧ ∃ j103_ : Nat, ((j103_ : Int) = z99_.toInt) ∧ ∃ z101_ : Int32, (z101_ = M_46.1 (50, 0, 0) j103_) ∧ (SP_X12_within z101_ 48 57 M_46 (1 : Int32)) ∧ (48 ≤ z101_.toInt ∧ z101_.toInt ≤ 57) ∧ ∃ z111_ : Int32, (z111_.toInt = 10 * v2_46.toInt) ∧ ∃ z115_ : Int32, (z115_.toInt = 273 + z70_.toInt) ∧ ∃ j119_ : Nat, ((j119_ : Int) = z115_.toInt) ∧ ∃ z117_ : Int32, (z117_ = M_46.1 (50, 0, 0) j119_) ∧ (z117_.toInt = z101_.toInt) ∧ ∃ z122_ : Int32, (z122_.toInt = z111_.toInt + z117_.toInt) ∧ ∃ z124_ : Int32, (z124_.toInt = z122_.toInt - 48) ∧ ∃ z128_ : Int32, (z128_.toInt = z70_.toInt + 1) ∧ ∃ M130_ : mM, (M130_ = up M_46 (12, 0, 0) 9 z128_) ∧ (PP M130_ ((s + v3_46.toInt) + 1) D (a + 1) T) ∧ ∃ z136_ : Int32, (z136_.toInt = v3_46.toInt + 1) ∧ v3_46y = z136_ ∧ v2_46y = z124_ ∧ M_46y = M130_
def SP_X12_one (N : Nat) (m : Nat) (QA : mM → mM → Prop) (QB : mM → mM → Prop) (s : Int) (D : Nat) (a : Int) (T : Int) (Mz : mM) (M_ : mM) : Prop := ∃ M2_ : mM, (InvD M2_) ∧ (FR (S_here) Mz M2_) ∧ ∃ r1_ : Int32, (SP_X12_here s D a T Mz r1_ M2_) ∧ (HB M2_ r1_) ∧ (((r1_.toInt = 45) ∧ ∃ M17_ : mM, (InvD M17_) ∧ (FR (S_par) M2_ M17_) ∧ (SP_X12_opens N m QA QB r1_ s D a T M2_ M17_) ∧ (PP M17_ s (D + 1) a T) ∧ M_ = M17_) ∨ ((¬ r1_.toInt = 45) ∧ (((r1_.toInt = 40) ∧ ∃ M31_ : mM, (InvD M31_) ∧ (FR (S_par) M2_ M31_) ∧ (SP_X12_opens N m QA QB r1_ s D a T M2_ M31_) ∧ (PP M31_ s (D + 1) a T) ∧ M_ = M31_) ∨ ((¬ r1_.toInt = 40) ∧ (((¬ r1_.toInt = 91) ∧ (((SP_X12_within r1_ 48 57 M2_ (1 : Int32)) ∧ (48 ≤ r1_.toInt ∧ r1_.toInt ≤ 57) ∧ ∃ v3_46 : Int32, (0 ≤ v3_46.toInt ∧ v3_46.toInt ≤ 3) ∧ ∃ v2_46 : Int32, ((v3_46.toInt = 0 ∧ v2_46.toInt = 0) ∨ (v3_46.toInt = 1 ∧ 0 ≤ v2_46.toInt ∧ v2_46.toInt ≤ 9) ∨ (v3_46.toInt = 2 ∧ 0 ≤ v2_46.toInt ∧ v2_46.toInt ≤ 99) ∨ (v3_46.toInt = 3 ∧ 0 ≤ v2_46.toInt ∧ v2_46.toInt ≤ 999)) ∧ ∃ M_46 : mM, (v3_46.toInt = 0 → DG M_46) ∧ (RCH (fun x_ y_ => ST_X12_one_46 s D a T Mz x_.1 x_.2.1 x_.2.2 y_.1 y_.2.1 y_.2.2) ((0 : Int32), (0 : Int32), M2_) (v3_46, v2_46, M_46)) ∧ (InvD M_46) ∧ (FR (S_par) Mz M_46) ∧ (((3 ≤ v3_46.toInt) ∧ (¬ v3_46.toInt = 0) ∧ ∃ M52_ : mM, (InvD M52_) ∧ (FR (S_codes) M_46 M52_) ∧ (SP_X12_codes v2_46 (s + 1) D a T (D + 1) M_46 M52_) ∧ (PP M52_ ((s + 1) - 1) (D + 1) a T) ∧ ∃ z60_ : Int32, (z60_ = M52_.1 (12, 0, 0) 12) ∧ ∃ z62_ : Int32, (z62_ = z60_ + (1 : Int32)) ∧ ∃ M64_ : mM, (M64_ = up M52_ (12, 0, 0) 12 z62_) ∧ M_ = M64_) ∨ ((v3_46.toInt < 3) ∧ ∃ z70_ : Int32, (z70_ = M_46.1 (12, 0, 0) 9) ∧ (0 ≤ z70_.toInt ∧ z70_.toInt ≤ 48) ∧ ∃ z73_ : Int32, (z73_ = M_46.1 (50, 0, 0) 4) ∧ (0 ≤ z73_.toInt ∧ z73_.toInt ≤ 48) ∧ (((z73_.toInt ≤ z70_.toInt) ∧ (¬ v3_46.toInt = 0) ∧ ∃ M79_ : mM, (InvD M79_) ∧ (FR (S_codes) M_46 M79_) ∧ (SP_X12_codes v2_46 (s + 1) D a T (D + 1) M_46 M79_) ∧ (PP M79_ ((s + 1) - 1) (D + 1) a T) ∧ ∃ z87_ : Int32, (z87_ = M79_.1 (12, 0, 0) 12) ∧ ∃ z89_ : Int32, (z89_ = z87_ + (1 : Int32)) ∧ ∃ M91_ : mM, (M91_ = up M79_ (12, 0, 0) 12 z89_) ∧ M_ = M91_) ∨ ((z70_.toInt < z73_.toInt) ∧ ∃ z99_ : Int32, (z99_.toInt = 273 + z70_.toInt) ∧ ∃ j103_ : Nat, ((j103_ : Int) = z99_.toInt) ∧ ∃ z101_ : Int32, (z101_ = M_46.1 (50, 0, 0) j103_) ∧ (SP_X12_within z101_ 48 57 M_46 (0 : Int32)) ∧ (¬ (48 ≤ z101_.toInt ∧ z101_.toInt ≤ 57)) ∧ (¬ v3_46.toInt = 0) ∧ ∃ M141_ : mM, (InvD M141_) ∧ (FR (S_codes) M_46 M141_) ∧ (SP_X12_codes v2_46 (s + 1) D a T (D + 1) M_46 M141_) ∧ (PP M141_ ((s + 1) - 1) (D + 1) a T) ∧ ∃ z149_ : Int32, (z149_ = M141_.1 (12, 0, 0) 12) ∧ ∃ z151_ : Int32, (z151_ = z149_ + (1 : Int32)) ∧ ∃ M153_ : mM, (M153_ = up M141_ (12, 0, 0) 12 z151_) ∧ M_ = M153_))))) ∨ ((SP_X12_within r1_ 48 57 M2_ (0 : Int32)) ∧ (¬ (48 ≤ r1_.toInt ∧ r1_.toInt ≤ 57)) ∧ (((0 ≤ r1_.toInt) ∧ ∃ r165_ : Int32, (SP_X12_nameOf r1_ M2_ r165_) ∧ (-1 ≤ r165_.toInt ∧ r165_.toInt ≤ 4) ∧ ∃ z170_ : Int32, (z170_ = M2_.1 (12, 0, 0) 13) ∧ (0 ≤ z170_.toInt ∧ z170_.toInt ≤ 1) ∧ (z170_ = 0) ∧ (((¬ z170_.toInt = 0) ∧ ∃ M175_ : mM, (M175_ = up M2_ (12, 0, 0) 13 1) ∧ (PP M175_ s D a T) ∧ ∃ z185_ : Int32, (z185_ = M175_.1 (12, 0, 0) 13) ∧ (0 ≤ z185_.toInt ∧ z185_.toInt ≤ 1) ∧ (z185_ = 1) ∧ (z185_.toInt = 1) ∧ (¬ z185_.toInt = 0) ∧ M_ = M175_) ∨ ((z170_.toInt = 0) ∧ (((0 ≤ r165_.toInt) ∧ ∃ M192_ : mM, (M192_ = up M2_ (12, 0, 0) 13 0) ∧ ∃ z202_ : Int32, (z202_ = M192_.1 (12, 0, 0) 13) ∧ (0 ≤ z202_.toInt ∧ z202_.toInt ≤ 1) ∧ (z202_ = 0) ∧ (z202_.toInt = 0) ∧ (z202_.toInt = 0) ∧ ∃ z208_ : Int32, (z208_.toInt = 1000 + r165_.toInt) ∧ (InvD M192_) ∧ ∃ M210_ : mM, (InvD M210_) ∧ (FR (S_codes) M192_ M210_) ∧ (SP_X12_codes z208_ s D a T (D + 1) M192_ M210_) ∧ ∃ z222_ : Int32, (z222_ = M210_.1 (12, 0, 0) 12) ∧ ∃ z224_ : Int32, (z224_ = z222_ + (1 : Int32)) ∧ ∃ M226_ : mM, (M226_ = up M210_ (12, 0, 0) 12 z224_) ∧ ∃ z236_ : Int32, (z236_ = M226_.1 (12, 0, 0) 9) ∧ (0 ≤ z236_.toInt ∧ z236_.toInt ≤ 48) ∧ (z236_.toInt < T) ∧ (z236_.toInt ≤ 47) ∧ ∃ z241_ : Int32, (z241_.toInt = z236_.toInt + 1) ∧ ∃ M243_ : mM, (M243_ = up M226_ (12, 0, 0) 9 z241_) ∧ (PP M243_ ((s - 1) + 1) (D + 1) (a + 1) T) ∧ M_ = M243_) ∨ ((r165_.toInt < 0) ∧ ∃ M251_ : mM, (M251_ = up M2_ (12, 0, 0) 13 1) ∧ (PP M251_ s D a T) ∧ ∃ z261_ : Int32, (z261_ = M251_.1 (12, 0, 0) 13) ∧ (0 ≤ z261_.toInt ∧ z261_.toInt ≤ 1) ∧ (z261_ = 1) ∧ (z261_.toInt = 1) ∧ (¬ z261_.toInt = 0) ∧ M_ = M251_))))) ∨ ((r1_.toInt < 0) ∧ ∃ z267_ : Int32, (z267_ = M2_.1 (12, 0, 0) 13) ∧ (0 ≤ z267_.toInt ∧ z267_.toInt ≤ 1) ∧ (((¬ z267_.toInt = 0) ∧ ∃ M271_ : mM, (M271_ = up M2_ (12, 0, 0) 13 1) ∧ (PP M271_ s D a T) ∧ ∃ z279_ : Int32, (z279_ = M271_.1 (12, 0, 0) 13) ∧ (0 ≤ z279_.toInt ∧ z279_.toInt ≤ 1) ∧ (z279_ = 1) ∧ (z279_.toInt = 1) ∧ (¬ z279_.toInt = 0) ∧ M_ = M271_) ∨ ((z267_.toInt = 0) ∧ ∃ M286_ : mM, (M286_ = up M2_ (12, 0, 0) 13 1) ∧ (PP M286_ s D a T) ∧ ∃ z294_ : Int32, (z294_ = M286_.1 (12, 0, 0) 13) ∧ (0 ≤ z294_.toInt ∧ z294_.toInt ≤ 1) ∧ (z294_ = 1) ∧ (z294_.toInt = 1) ∧ (¬ z294_.toInt = 0) ∧ M_ = M286_))))))) ∨ ((r1_.toInt = 91) ∧ ∃ M304_ : mM, (InvD M304_) ∧ (FR (S_par) M2_ M304_) ∧ (SP_X12_opens N m QA QB r1_ s D a T M2_ M304_) ∧ (PP M304_ s (D + 1) a T) ∧ M_ = M304_))))))
theorem lf_c_X12_one_0 (r1_ : Int32) (h12_ : r1_.toInt = 45) : ¬ r1_.toInt = -1 := by omega
theorem lf_c_X12_one_1 (r1_ : Int32) (h26_ : r1_.toInt = 40) : ¬ r1_.toInt = -1 := by omega
theorem lf_c_X12_one_2 (r1_ : Int32) (h44_ : 48 ≤ r1_.toInt ∧ r1_.toInt ≤ 57) : 48 ≤ r1_.toInt ∧ r1_.toInt ≤ 57 := by omega
theorem lf_c_X12_one_3 (v3_46 : Int32) (h49_ : 3 ≤ v3_46.toInt) : ¬ v3_46.toInt = 0 := by omega
theorem lf_c_X12_one_4 (s : Int) (v3_46 : Int32) (h49_ : 3 ≤ v3_46.toInt) : s + 1 ≤ (s + v3_46.toInt) := by omega
theorem lf_c_X12_one_6 (v3_46 : Int32) (v2_46 : Int32) (hv1_46 : (v3_46.toInt = 0 ∧ v2_46.toInt = 0) ∨ (v3_46.toInt = 1 ∧ 0 ≤ v2_46.toInt ∧ v2_46.toInt ≤ 9) ∨ (v3_46.toInt = 2 ∧ 0 ≤ v2_46.toInt ∧ v2_46.toInt ≤ 99) ∨ (v3_46.toInt = 3 ∧ 0 ≤ v2_46.toInt ∧ v2_46.toInt ≤ 999)) (h49_ : 3 ≤ v3_46.toInt) : 0 ≤ v2_46.toInt ∧ v2_46.toInt < 1005 := by omega
theorem lf_c_X12_one_9 (s : Int) (v3_46 : Int32) (hv0_46 : 0 ≤ v3_46.toInt ∧ v3_46.toInt ≤ 3) (h77_ : ¬ v3_46.toInt = 0) : s + 1 ≤ (s + v3_46.toInt) := by omega
theorem lf_c_X12_one_11 (v3_46 : Int32) (v2_46 : Int32) (hv1_46 : (v3_46.toInt = 0 ∧ v2_46.toInt = 0) ∨ (v3_46.toInt = 1 ∧ 0 ≤ v2_46.toInt ∧ v2_46.toInt ≤ 9) ∨ (v3_46.toInt = 2 ∧ 0 ≤ v2_46.toInt ∧ v2_46.toInt ≤ 99) ∨ (v3_46.toInt = 3 ∧ 0 ≤ v2_46.toInt ∧ v2_46.toInt ≤ 999)) : 0 ≤ v2_46.toInt ∧ v2_46.toInt < 1005 := by omega
theorem lf_c_X12_one_16 (v3_46 : Int32) (v2_46 : Int32) (hv1_46 : (v3_46.toInt = 0 ∧ v2_46.toInt = 0) ∨ (v3_46.toInt = 1 ∧ 0 ≤ v2_46.toInt ∧ v2_46.toInt ≤ 9) ∨ (v3_46.toInt = 2 ∧ 0 ≤ v2_46.toInt ∧ v2_46.toInt ≤ 99) ∨ (v3_46.toInt = 3 ∧ 0 ≤ v2_46.toInt ∧ v2_46.toInt ≤ 999)) : -2147483648 ≤ 10 * v2_46.toInt ∧ 10 * v2_46.toInt < 2147483648 := by omega
theorem lf_c_X12_one_19 (z70_ : Int32) (z99_ : Int32) (j103_ : Nat) (z115_ : Int32) (j119_ : Nat) (h100_ : z99_.toInt = 273 + z70_.toInt) (h104_ : (j103_ : Int) = z99_.toInt) (h116_ : z115_.toInt = 273 + z70_.toInt) (h120_ : (j119_ : Int) = z115_.toInt) : j119_ = j103_ := by omega
theorem lf_c_X12_one_20 (v3_46 : Int32) (v2_46 : Int32) (z101_ : Int32) (z111_ : Int32) (z117_ : Int32) (hv1_46 : (v3_46.toInt = 0 ∧ v2_46.toInt = 0) ∨ (v3_46.toInt = 1 ∧ 0 ≤ v2_46.toInt ∧ v2_46.toInt ≤ 9) ∨ (v3_46.toInt = 2 ∧ 0 ≤ v2_46.toInt ∧ v2_46.toInt ≤ 99) ∨ (v3_46.toInt = 3 ∧ 0 ≤ v2_46.toInt ∧ v2_46.toInt ≤ 999)) (h108_ : 48 ≤ z101_.toInt ∧ z101_.toInt ≤ 57) (h112_ : z111_.toInt = 10 * v2_46.toInt) (h121_ : z117_.toInt = z101_.toInt) : -2147483648 ≤ z111_.toInt + z117_.toInt ∧ z111_.toInt + z117_.toInt < 2147483648 := by have r_z111_ := rngI z111_; omega
theorem lf_c_X12_one_21 (z101_ : Int32) (z111_ : Int32) (z117_ : Int32) (z122_ : Int32) (h108_ : 48 ≤ z101_.toInt ∧ z101_.toInt ≤ 57) (h121_ : z117_.toInt = z101_.toInt) (h123_ : z122_.toInt = z111_.toInt + z117_.toInt) : -2147483648 ≤ z122_.toInt - 48 ∧ z122_.toInt - 48 < 2147483648 := by have r_z111_ := rngI z111_; have r_z122_ := rngI z122_; omega
theorem lf_c_X12_one_26 (v3_46 : Int32) (hv0_46 : 0 ≤ v3_46.toInt ∧ v3_46.toInt ≤ 3) (h49_ : v3_46.toInt < 3) : -2147483648 ≤ v3_46.toInt + 1 ∧ v3_46.toInt + 1 < 2147483648 := by omega
theorem lf_c_X12_one_27 (v3_46 : Int32) (z136_ : Int32) (hv0_46 : 0 ≤ v3_46.toInt ∧ v3_46.toInt ≤ 3) (h49_ : v3_46.toInt < 3) (h137_ : z136_.toInt = v3_46.toInt + 1) : 0 ≤ z136_.toInt ∧ z136_.toInt ≤ 3 := by omega
theorem lf_c_X12_one_28 (M130_ : mM) (M_46 : mM) (s : Int) (D : Nat) (a : Int) (T : Int) (v3_46 : Int32) (v2_46 : Int32) (z70_ : Int32) (z73_ : Int32) (z99_ : Int32) (j103_ : Nat) (z101_ : Int32) (z111_ : Int32) (z115_ : Int32) (j119_ : Nat) (z117_ : Int32) (z122_ : Int32) (z124_ : Int32) (z128_ : Int32) (z136_ : Int32) (hs : 0 ≤ s) (hv0_46 : 0 ≤ v3_46.toInt ∧ v3_46.toInt ≤ 3) (hv1_46 : (v3_46.toInt = 0 ∧ v2_46.toInt = 0) ∨ (v3_46.toInt = 1 ∧ 0 ≤ v2_46.toInt ∧ v2_46.toInt ≤ 9) ∨ (v3_46.toInt = 2 ∧ 0 ≤ v2_46.toInt ∧ v2_46.toInt ≤ 99) ∨ (v3_46.toInt = 3 ∧ 0 ≤ v2_46.toInt ∧ v2_46.toInt ≤ 999)) (hv2_46 : v3_46.toInt = 0 → DG M_46) (h49_ : v3_46.toInt < 3) (e71_ : z70_ = M_46.1 (12, 0, 0) 9) (h72_ : 0 ≤ z70_.toInt ∧ z70_.toInt ≤ 48) (e74_ : z73_ = M_46.1 (50, 0, 0) 4) (h75_ : 0 ≤ z73_.toInt ∧ z73_.toInt ≤ 48) (h76_ : z70_.toInt < z73_.toInt) (h100_ : z99_.toInt = 273 + z70_.toInt) (h104_ : (j103_ : Int) = z99_.toInt) (e102_ : z101_ = M_46.1 (50, 0, 0) j103_) (h108_ : 48 ≤ z101_.toInt ∧ z101_.toInt ≤ 57) (h112_ : z111_.toInt = 10 * v2_46.toInt) (h116_ : z115_.toInt = 273 + z70_.toInt) (h120_ : (j119_ : Int) = z115_.toInt) (e118_ : z117_ = M_46.1 (50, 0, 0) j119_) (h121_ : z117_.toInt = z101_.toInt) (h123_ : z122_.toInt = z111_.toInt + z117_.toInt) (h125_ : z124_.toInt = z122_.toInt - 48) (h129_ : z128_.toInt = z70_.toInt + 1) (hM131_ : M130_ = up M_46 (12, 0, 0) 9 z128_) (h135_ : PP M130_ ((s + v3_46.toInt) + 1) D (a + 1) T) (h137_ : z136_.toInt = v3_46.toInt + 1) : (z136_.toInt = 0 ∧ z124_.toInt = 0) ∨ (z136_.toInt = 1 ∧ 0 ≤ z124_.toInt ∧ z124_.toInt ≤ 9) ∨ (z136_.toInt = 2 ∧ 0 ≤ z124_.toInt ∧ z124_.toInt ≤ 99) ∨ (z136_.toInt = 3 ∧ 0 ≤ z124_.toInt ∧ z124_.toInt ≤ 999) := by have r_v3_46 := rngI v3_46; have r_v2_46 := rngI v2_46; have r_z70_ := rngI z70_; have r_z73_ := rngI z73_; have r_z99_ := rngI z99_; have r_z101_ := rngI z101_; have r_z111_ := rngI z111_; have r_z115_ := rngI z115_; have r_z117_ := rngI z117_; have r_z122_ := rngI z122_; have r_z124_ := rngI z124_; have r_z128_ := rngI z128_; have r_z136_ := rngI z136_; subst e71_; subst e74_; subst e102_; subst e118_; omega
theorem lf_c_X12_one_29 (v3_46 : Int32) (z136_ : Int32) (hv0_46 : 0 ≤ v3_46.toInt ∧ v3_46.toInt ≤ 3) (h137_ : z136_.toInt = v3_46.toInt + 1) : ¬ z136_.toInt = 0 := by omega
theorem lf_c_X12_one_30 (s : Int) (v3_46 : Int32) (z136_ : Int32) (h137_ : z136_.toInt = v3_46.toInt + 1) : (s + z136_.toInt) ≤ ((s + v3_46.toInt) + 1) := by omega
theorem lf_c_X12_one_32 (v3_46 : Int32) (z136_ : Int32) (h49_ : v3_46.toInt < 3) (h137_ : z136_.toInt = v3_46.toInt + 1) : (3 - z136_.toInt).toNat < (3 - v3_46.toInt).toNat := by omega
theorem lf_c_X12_one_39 : 0 ≤ (0 : Int32).toInt ∧ (0 : Int32).toInt ≤ 3 := by have q0 := li_0; omega
theorem lf_c_X12_one_40 : ((0 : Int32).toInt = 0 ∧ (0 : Int32).toInt = 0) ∨ ((0 : Int32).toInt = 1 ∧ 0 ≤ (0 : Int32).toInt ∧ (0 : Int32).toInt ≤ 9) ∨ ((0 : Int32).toInt = 2 ∧ 0 ≤ (0 : Int32).toInt ∧ (0 : Int32).toInt ≤ 99) ∨ ((0 : Int32).toInt = 3 ∧ 0 ≤ (0 : Int32).toInt ∧ (0 : Int32).toInt ≤ 999) := by have q0 := li_0; omega
theorem lf_c_X12_one_41 (s : Int) : (s + (0 : Int32).toInt) ≤ s := by have q9 := li_0; omega
theorem lf_c_X12_one_42 (r1_ : Int32) (h160_ : 0 ≤ r1_.toInt) : ¬ r1_.toInt = -1 := by omega
theorem lf_c_X12_one_47 (r165_ : Int32) (h168_ : -1 ≤ r165_.toInt ∧ r165_.toInt ≤ 4) (h191_ : 0 ≤ r165_.toInt) : -2147483648 ≤ 1000 + r165_.toInt ∧ 1000 + r165_.toInt < 2147483648 := by omega
theorem lf_c_X12_one_48 (r165_ : Int32) (z208_ : Int32) (h168_ : -1 ≤ r165_.toInt ∧ r165_.toInt ≤ 4) (h191_ : 0 ≤ r165_.toInt) (h209_ : z208_.toInt = 1000 + r165_.toInt) : 0 ≤ z208_.toInt ∧ z208_.toInt < 1005 := by omega
theorem lf_c_X12_one_52 (s : Int) : s ≤ ((s - 1) + 1) := by omega
theorem lf_c_X12_one_63 (r1_ : Int32) (h40_ : r1_.toInt = 91) : ¬ r1_.toInt = -1 := by omega
set_option maxHeartbeats 4000000 in
set_option maxRecDepth 100000 in
theorem c_X12_one (l : Launch) (G : va_G) (cy : Nat → ClassId) (ad : rf → Nat) (d : Nat) (N : Nat) (m : Nat) (QA : mM → mM → Prop) (QB : mM → mM → Prop) (s : Int) (D : Nat) (a : Int) (T : Int) (Mz : mM) (hIz : InvD Mz) (hA : ∀ k : Nat, k + 1 = m → ONED l G cy ad N k QA) (hB : ∀ k : Nat, k + 1 = m → TXTD l G cy ad N k QB) (hp : PP Mz s D a T) (hs : 0 ≤ s) (hk : (Mz.1 (12, 0, 0) 11).toInt + ((m : Nat) : Int) = 5) (hm : m ≤ 5) : WP DD l G cy ad yX12_one cX12_one 4 none ((N + d) + 9) 0 [(0, vR (12, 0, 0))] [] Mz (fun r M' => InvD M' ∧ FR (S_par) Mz M' ∧ (PP M' s (D + 1) a T ∧ (M'.1 (12, 0, 0) 11).toInt + ((m : Nat) : Int) = 5) ∧ SP_X12_one N m QA QB s D a T Mz M') := by
  have hFz : FR (S_par) Mz Mz := FR.self
  refine w_aload_n dX12_one_0 rfl 0 rfl ?_
  refine w_callV (as := []) (rest := []) (c_X12_here l G cy ad ((N + d) + 8) s D a T Mz hIz hp) kV_X12_here pnn_17 (Nat.le_of_ble_eq_true rfl) m_1575 rfl rfl rfl ic_12 rfl rfl (by decide) (Nat.le_of_ble_eq_true rfl) dX12_one_1 (fun r1_ M2_ q3_ => ?_)
  obtain ⟨hI5_, hF6_, h4_, hs8_⟩ := q3_
  have hF7_ := hFz.tr hF6_ (fun c k => (fun h => h.elim (fun h => (Or.inl ⟨h.1, h.2.1, h.2.2⟩)) (fun h => h.elim)))
  have kf9_ : (M2_.1 (12, 0, 0) 11).toInt + ((m : Nat) : Int) = 5 := by rw [(hF6_ (12, 0, 0) 11 (by simp [S_here]))]; exact hk
  have h10_ : PP M2_ s D a T := h4_.1
  have h11_ : HB M2_ r1_ := h4_.2
  refine w_istore_n (ls' := [(1, vI r1_), (0, vR (12, 0, 0))]) dX12_one_4 rfl (by decide) rfl ?_
  refine w_iload_n dX12_one_5 rfl 0 rfl ?_
  refine w_bipush (v := 45) dX12_one_6 (by decide) ?_
  refine w_icmp_eq (tgt := 23) dX12_one_8 (by decide) (rfl : r1_.toInt = r1_.toInt) li_45 (fun h12_ => ?_) (fun h12_ => ?_)
  · have h13_ : M2_.1 (12, 0, 0) 13 = 0 ∧ (M2_.1 (12, 0, 0) 9).toInt < T := HB_ok h11_ h10_ (lf_c_X12_one_0 r1_ h12_ )
    have kf14_ : M2_.1 (12, 0, 0) 13 = 0 := h13_.1
    have kf15_ : (M2_.1 (12, 0, 0) 9).toInt < T := h13_.2
    have kf16_ : (M2_.1 (12, 0, 0) 9).toInt ≤ 47 := PP_a48 hI5_ h10_ h13_.2
    refine w_aload_n dX12_one_23 rfl 1 rfl ?_
    refine w_iload_n dX12_one_24 rfl 0 rfl ?_
    refine w_callVv (as := [vI r1_]) (rest := []) (c_X12_opens l G cy ad (d + 5) N m QA QB r1_ s D a T M2_ hI5_ hA hB h10_ hs kf9_ hm kf15_ kf14_) kV_X12_opens pnn_17 (Nat.le_of_ble_eq_true rfl) m_1579 rfl rfl rfl ic_12 rfl rfl (by decide) (Nat.le_of_ble_eq_true rfl) dX12_one_25 (fun M17_ q18_ => ?_)
    obtain ⟨hI20_, hF21_, h19_, hs23_⟩ := q18_
    have hF22_ := hF7_.tr hF21_ (fun c k => (fun h => h.elim (fun h => (Or.inl ⟨h.1, h.2.1, h.2.2⟩)) (fun h => h.elim (fun h => (Or.inr (Or.inl ⟨h.1, h.2.1, h.2.2⟩))) (fun h => h.elim (fun h => (Or.inr (Or.inr (Or.inl ⟨h.1, h.2.1, h.2.2⟩)))) (fun h => h.elim (fun h => (Or.inr (Or.inr (Or.inr (Or.inl ⟨h.1, h.2.1, h.2.2⟩))))) (fun h => h.elim (fun h => (Or.inr (Or.inr (Or.inr (Or.inr (Or.inl ⟨h.1, h.2.1, h.2.2⟩)))))) (fun h => h.elim (fun h => (Or.inr (Or.inr (Or.inr (Or.inr (Or.inr (Or.inl ⟨h.1, h.2⟩))))))) (fun h => h.elim))))))))
    have h24_ : PP M17_ s (D + 1) a T := h19_.1
    have kf25_ : (M17_.1 (12, 0, 0) 11).toInt + ((m : Nat) : Int) = 5 := h19_.2
    refine w_goto (tgt := 213) dX12_one_28 (by decide) ?_
    exact w_vret rfl dX12_one_213 ⟨hI20_, hF22_, ⟨h24_, kf25_⟩, ⟨M2_, hI5_, hF6_, r1_, hs8_, h11_, (Or.inl ⟨h12_, M17_, hI20_, hF21_, hs23_, h24_, rfl⟩)⟩⟩
  · refine w_iload_n dX12_one_11 rfl 0 rfl ?_
    refine w_bipush (v := 40) dX12_one_12 (by decide) ?_
    refine w_icmp_eq (tgt := 23) dX12_one_14 (by decide) (rfl : r1_.toInt = r1_.toInt) li_40 (fun h26_ => ?_) (fun h26_ => ?_)
    · have h27_ : M2_.1 (12, 0, 0) 13 = 0 ∧ (M2_.1 (12, 0, 0) 9).toInt < T := HB_ok h11_ h10_ (lf_c_X12_one_1 r1_ h26_ )
      have kf28_ : M2_.1 (12, 0, 0) 13 = 0 := h27_.1
      have kf29_ : (M2_.1 (12, 0, 0) 9).toInt < T := h27_.2
      have kf30_ : (M2_.1 (12, 0, 0) 9).toInt ≤ 47 := PP_a48 hI5_ h10_ h27_.2
      refine w_aload_n dX12_one_23 rfl 1 rfl ?_
      refine w_iload_n dX12_one_24 rfl 0 rfl ?_
      refine w_callVv (as := [vI r1_]) (rest := []) (c_X12_opens l G cy ad (d + 5) N m QA QB r1_ s D a T M2_ hI5_ hA hB h10_ hs kf9_ hm kf29_ kf28_) kV_X12_opens pnn_17 (Nat.le_of_ble_eq_true rfl) m_1579 rfl rfl rfl ic_12 rfl rfl (by decide) (Nat.le_of_ble_eq_true rfl) dX12_one_25 (fun M31_ q32_ => ?_)
      obtain ⟨hI34_, hF35_, h33_, hs37_⟩ := q32_
      have hF36_ := hF7_.tr hF35_ (fun c k => (fun h => h.elim (fun h => (Or.inl ⟨h.1, h.2.1, h.2.2⟩)) (fun h => h.elim (fun h => (Or.inr (Or.inl ⟨h.1, h.2.1, h.2.2⟩))) (fun h => h.elim (fun h => (Or.inr (Or.inr (Or.inl ⟨h.1, h.2.1, h.2.2⟩)))) (fun h => h.elim (fun h => (Or.inr (Or.inr (Or.inr (Or.inl ⟨h.1, h.2.1, h.2.2⟩))))) (fun h => h.elim (fun h => (Or.inr (Or.inr (Or.inr (Or.inr (Or.inl ⟨h.1, h.2.1, h.2.2⟩)))))) (fun h => h.elim (fun h => (Or.inr (Or.inr (Or.inr (Or.inr (Or.inr (Or.inl ⟨h.1, h.2⟩))))))) (fun h => h.elim))))))))
      have h38_ : PP M31_ s (D + 1) a T := h33_.1
      have kf39_ : (M31_.1 (12, 0, 0) 11).toInt + ((m : Nat) : Int) = 5 := h33_.2
      refine w_goto (tgt := 213) dX12_one_28 (by decide) ?_
      exact w_vret rfl dX12_one_213 ⟨hI34_, hF36_, ⟨h38_, kf39_⟩, ⟨M2_, hI5_, hF6_, r1_, hs8_, h11_, (Or.inr ⟨h12_, (Or.inl ⟨h26_, M31_, hI34_, hF35_, hs37_, h38_, rfl⟩)⟩)⟩⟩
    · refine w_iload_n dX12_one_17 rfl 0 rfl ?_
      refine w_bipush (v := 91) dX12_one_18 (by decide) ?_
      refine w_icmp_ne (tgt := 31) dX12_one_20 (by decide) (rfl : r1_.toInt = r1_.toInt) li_91 (fun h40_ => ?_) (fun h40_ => ?_)
      · refine w_iload_n dX12_one_31 rfl 0 rfl ?_
        refine w_bipush (v := 48) dX12_one_32 (by decide) ?_
        refine w_bipush (v := 57) dX12_one_34 (by decide) ?_
        refine w_callS (as := [vI r1_, vI 48, vI 57]) (rest := []) (c_X12_within l G cy ad ((N + d) + 8) r1_ 48 57 M2_ hI5_) kS_X12_within pnn_17 (Nat.le_of_ble_eq_true rfl) m_1427 rfl rfl (by decide) (Nat.le_of_ble_eq_true rfl) dX12_one_36 (fun r41_ M42_ q43_ => ?_)
        obtain ⟨rfl, h44_, hs45_⟩ := q43_
        rcases h44_ with ⟨rfl, h44_⟩ | ⟨rfl, h44_⟩
        · simp only [li_48, li_57] at h44_
          refine w_if_eq (tgt := 143) dX12_one_39 (by decide) li_1 (fun h9 => (absurd h9 (by decide))) (fun h46_ => ?_)
          have h47_ : DG M2_ := HB_dg h11_ (lf_c_X12_one_2 r1_ h44_ )
          refine w_iconst (v := 0) dX12_one_42 (by decide) ?_
          refine w_istore_n (ls' := [(2, vI 0), (1, vI r1_), (0, vR (12, 0, 0))]) dX12_one_43 rfl (by decide) rfl ?_
          refine w_iconst (v := 0) dX12_one_44 (by decide) ?_
          refine w_istore_n (ls' := [(3, vI 0), (2, vI 0), (1, vI r1_), (0, vR (12, 0, 0))]) dX12_one_45 rfl (by decide) rfl ?_
          have lp48_ : ∀ (nn_46 : Nat) (M_46 : mM) (hI_46 : InvD M_46) (hF_46 : FR (S_par) Mz M_46) (v3_46 : Int32) (v2_46 : Int32) (hv0_46 : 0 ≤ v3_46.toInt ∧ v3_46.toInt ≤ 3) (hv1_46 : (v3_46.toInt = 0 ∧ v2_46.toInt = 0) ∨ (v3_46.toInt = 1 ∧ 0 ≤ v2_46.toInt ∧ v2_46.toInt ≤ 9) ∨ (v3_46.toInt = 2 ∧ 0 ≤ v2_46.toInt ∧ v2_46.toInt ≤ 99) ∨ (v3_46.toInt = 3 ∧ 0 ≤ v2_46.toInt ∧ v2_46.toInt ≤ 999)) (hv2_46 : v3_46.toInt = 0 → DG M_46) (hv3_46 : PP M_46 (s + v3_46.toInt) D a T) (kv0_46 : (M_46.1 (12, 0, 0) 11).toInt + ((m : Nat) : Int) = 5) (hL_46 : RCH (fun x_ y_ => ST_X12_one_46 s D a T Mz x_.1 x_.2.1 x_.2.2 y_.1 y_.2.1 y_.2.2) ((0 : Int32), (0 : Int32), M2_) (v3_46, v2_46, M_46)), (3 - v3_46.toInt).toNat < nn_46 → WP DD l G cy ad yX12_one cX12_one 4 none ((N + d) + 9) 46 [(3, vI v3_46), (2, vI v2_46), (1, vI r1_), (0, vR (12, 0, 0))] [] M_46 (fun r M' => InvD M' ∧ FR (S_par) Mz M' ∧ (PP M' s (D + 1) a T ∧ (M'.1 (12, 0, 0) 11).toInt + ((m : Nat) : Int) = 5) ∧ SP_X12_one N m QA QB s D a T Mz M') := by
            intro nn_46
            induction nn_46 with
            | zero => intro M_46 hI_46 hF_46 v3_46 v2_46 hv0_46 hv1_46 hv2_46 hv3_46 kv0_46 hL_46 hm_46; exact absurd hm_46 (Nat.not_lt_zero _)
            | succ nn_46 ih_46 =>
              intro M_46 hI_46 hF_46 v3_46 v2_46 hv0_46 hv1_46 hv2_46 hv3_46 kv0_46 hL_46 hm_46
              refine w_iload_n dX12_one_46 rfl 0 rfl ?_
              refine w_iconst (v := 3) dX12_one_47 (by decide) ?_
              refine w_icmp_ge (tgt := 125) dX12_one_48 (by decide) (rfl : v3_46.toInt = v3_46.toInt) li_3 (fun h49_ => ?_) (fun h49_ => ?_)
              · have h50_ : ¬ v3_46.toInt = 0 := (lf_c_X12_one_3 v3_46 h49_ )
                have h51_ : PP M_46 (s + 1) D a T := PP_mono hv3_46 (lf_c_X12_one_4 s v3_46 h49_ ) (Int.le_refl _)
                refine w_aload_n dX12_one_125 rfl 3 rfl ?_
                refine w_iload_n dX12_one_126 rfl 1 rfl ?_
                refine w_callVv (as := [vI v2_46]) (rest := []) (c_X12_codes l G cy ad ((N + d) + 8) v2_46 (s + 1) D a T (D + 1) M_46 hI_46 h51_ (lf_c_X12_opens_8 s hs ) (stp_n (lf_c_X12_one_6 v3_46 v2_46 hv1_46 h49_ ))) kV_X12_codes pnn_17 (Nat.le_of_ble_eq_true rfl) m_1583 rfl rfl rfl ic_12 rfl rfl (by decide) (Nat.le_of_ble_eq_true rfl) dX12_one_127 (fun M52_ q53_ => ?_)
                obtain ⟨hI55_, hF56_, h54_, hs58_⟩ := q53_
                have hF57_ := hF_46.tr hF56_ (fun c k => (fun h => h.elim (fun h => (Or.inr (Or.inr (Or.inr (Or.inr (Or.inl ⟨h.1, h.2.1, h.2.2⟩)))))) (fun h => h.elim (fun h => (Or.inr (Or.inr (Or.inr (Or.inr (Or.inr (Or.inl ⟨h.1, h.2⟩))))))) (fun h => h.elim))))
                have kf59_ : (M52_.1 (12, 0, 0) 11).toInt + ((m : Nat) : Int) = 5 := by rw [(hF56_ (12, 0, 0) 11 (by simp [S_codes]))]; exact kv0_46
                refine w_aload_n dX12_one_130 rfl 3 rfl ?_
                refine w_dup dX12_one_131 rfl ?_
                refine w_getI fl_RX12_203 rfl rfl ic_12 dX12_one_132 (fun z60_ e61_ => ?_)
                refine w_iconst (v := 1) dX12_one_135 (by decide) ?_
                refine w_iadd dX12_one_136 (fun z62_ h63_ => ?_)
                refine w_putI DD_nd fl_RX12_203 rfl rfl ic_12 dX12_one_137 (fun M64_ hM65_ => ?_)
                have hI66_ := hI55_.put hM65_ ⟨trivial, Or.inl (by decide)⟩
                have hF67_ := hF57_.put hM65_ (Or.inr (Or.inr (Or.inl ⟨rfl, rfl, rfl⟩)))
                have kf68_ : (M64_.1 (12, 0, 0) 11).toInt + ((m : Nat) : Int) = 5 := by rw [(show M64_.1 (12, 0, 0) 11 = M52_.1 (12, 0, 0) 11 by rw [hM65_, up_ne (by simp)])]; exact kf59_
                have kf69_ : PP M64_ ((s + 1) - 1) (D + 1) a T := PP_cong h54_ (show M64_.1 (12, 0, 0) 14 = M52_.1 (12, 0, 0) 14 by rw [hM65_, up_ne (by simp)]) (show M64_.1 (12, 0, 0) 9 = M52_.1 (12, 0, 0) 9 by rw [hM65_, up_ne (by simp)]) (show M64_.1 (50, 0, 0) 4 = M52_.1 (50, 0, 0) 4 by rw [hM65_, up_ne (by simp)]) (show M64_.1 (12, 0, 0) 13 = M52_.1 (12, 0, 0) 13 by rw [hM65_, up_ne (by simp)]) (show M64_.1 (57, 0, 0) = M52_.1 (57, 0, 0) by rw [hM65_]; exact up_other _ _ (by simp))
                refine w_goto (tgt := 213) dX12_one_140 (by decide) ?_
                exact w_vret rfl dX12_one_213 ⟨hI66_, hF67_, ⟨PP_mono kf69_ (lf_c_X12_opens_21 s ) (lf_c_X12_opens_41 a ), kf68_⟩, ⟨M2_, hI5_, hF6_, r1_, hs8_, h11_, (Or.inr ⟨h12_, (Or.inr ⟨h26_, (Or.inl ⟨h40_, (Or.inl ⟨hs45_, h44_, v3_46, hv0_46, v2_46, hv1_46, M_46, hv2_46, hL_46, hI_46, hF_46, (Or.inl ⟨h49_, h50_, M52_, hI55_, hF56_, hs58_, h54_, z60_, e61_, z62_, h63_, M64_, hM65_, rfl⟩)⟩)⟩)⟩)⟩)⟩⟩
              · refine w_aload_n dX12_one_51 rfl 3 rfl ?_
                refine w_getI fl_RX12_155 rfl rfl ic_12 dX12_one_52 (fun z70_ e71_ => ?_)
                have h72_ : 0 ≤ z70_.toInt ∧ z70_.toInt ≤ 48 := ofEq (P := fun v => 0 ≤ v.toInt ∧ v.toInt ≤ 48) e71_ (hI_46.1 (12, 0, 0) 9)
                refine w_aload_n dX12_one_55 rfl 3 rfl ?_
                refine w_getR (c' := (50, 0, 0)) fl_RX12_9 rfl rfl ic_12 dX12_one_56 rfl ?_
                refine w_iconst (v := 4) dX12_one_59 (by decide) ?_
                refine w_ialdL 4 rfl rfl ic_50 li_4 (by decide) dX12_one_60 (fun z73_ e74_ => ?_)
                have h75_ : 0 ≤ z73_.toInt ∧ z73_.toInt ≤ 48 := pn_4 hI_46 e74_
                refine w_icmp_ge (tgt := 125) dX12_one_61 (by decide) (rfl : z70_.toInt = z70_.toInt) (rfl : z73_.toInt = z73_.toInt) (fun h76_ => ?_) (fun h76_ => ?_)
                · have h77_ : ¬ v3_46.toInt = 0 := (dg_1 hv2_46 e71_ e74_ h76_)
                  have h78_ : PP M_46 (s + 1) D a T := PP_mono hv3_46 (lf_c_X12_one_9 s v3_46 hv0_46 h77_ ) (Int.le_refl _)
                  refine w_aload_n dX12_one_125 rfl 3 rfl ?_
                  refine w_iload_n dX12_one_126 rfl 1 rfl ?_
                  refine w_callVv (as := [vI v2_46]) (rest := []) (c_X12_codes l G cy ad ((N + d) + 8) v2_46 (s + 1) D a T (D + 1) M_46 hI_46 h78_ (lf_c_X12_opens_8 s hs ) (stp_n (lf_c_X12_one_11 v3_46 v2_46 hv1_46 ))) kV_X12_codes pnn_17 (Nat.le_of_ble_eq_true rfl) m_1583 rfl rfl rfl ic_12 rfl rfl (by decide) (Nat.le_of_ble_eq_true rfl) dX12_one_127 (fun M79_ q80_ => ?_)
                  obtain ⟨hI82_, hF83_, h81_, hs85_⟩ := q80_
                  have hF84_ := hF_46.tr hF83_ (fun c k => (fun h => h.elim (fun h => (Or.inr (Or.inr (Or.inr (Or.inr (Or.inl ⟨h.1, h.2.1, h.2.2⟩)))))) (fun h => h.elim (fun h => (Or.inr (Or.inr (Or.inr (Or.inr (Or.inr (Or.inl ⟨h.1, h.2⟩))))))) (fun h => h.elim))))
                  have kf86_ : (M79_.1 (12, 0, 0) 11).toInt + ((m : Nat) : Int) = 5 := by rw [(hF83_ (12, 0, 0) 11 (by simp [S_codes]))]; exact kv0_46
                  refine w_aload_n dX12_one_130 rfl 3 rfl ?_
                  refine w_dup dX12_one_131 rfl ?_
                  refine w_getI fl_RX12_203 rfl rfl ic_12 dX12_one_132 (fun z87_ e88_ => ?_)
                  refine w_iconst (v := 1) dX12_one_135 (by decide) ?_
                  refine w_iadd dX12_one_136 (fun z89_ h90_ => ?_)
                  refine w_putI DD_nd fl_RX12_203 rfl rfl ic_12 dX12_one_137 (fun M91_ hM92_ => ?_)
                  have hI93_ := hI82_.put hM92_ ⟨trivial, Or.inl (by decide)⟩
                  have hF94_ := hF84_.put hM92_ (Or.inr (Or.inr (Or.inl ⟨rfl, rfl, rfl⟩)))
                  have kf95_ : (M91_.1 (12, 0, 0) 11).toInt + ((m : Nat) : Int) = 5 := by rw [(show M91_.1 (12, 0, 0) 11 = M79_.1 (12, 0, 0) 11 by rw [hM92_, up_ne (by simp)])]; exact kf86_
                  have kf96_ : PP M91_ ((s + 1) - 1) (D + 1) a T := PP_cong h81_ (show M91_.1 (12, 0, 0) 14 = M79_.1 (12, 0, 0) 14 by rw [hM92_, up_ne (by simp)]) (show M91_.1 (12, 0, 0) 9 = M79_.1 (12, 0, 0) 9 by rw [hM92_, up_ne (by simp)]) (show M91_.1 (50, 0, 0) 4 = M79_.1 (50, 0, 0) 4 by rw [hM92_, up_ne (by simp)]) (show M91_.1 (12, 0, 0) 13 = M79_.1 (12, 0, 0) 13 by rw [hM92_, up_ne (by simp)]) (show M91_.1 (57, 0, 0) = M79_.1 (57, 0, 0) by rw [hM92_]; exact up_other _ _ (by simp))
                  refine w_goto (tgt := 213) dX12_one_140 (by decide) ?_
                  exact w_vret rfl dX12_one_213 ⟨hI93_, hF94_, ⟨PP_mono kf96_ (lf_c_X12_opens_21 s ) (lf_c_X12_opens_41 a ), kf95_⟩, ⟨M2_, hI5_, hF6_, r1_, hs8_, h11_, (Or.inr ⟨h12_, (Or.inr ⟨h26_, (Or.inl ⟨h40_, (Or.inl ⟨hs45_, h44_, v3_46, hv0_46, v2_46, hv1_46, M_46, hv2_46, hL_46, hI_46, hF_46, (Or.inr ⟨h49_, z70_, e71_, h72_, z73_, e74_, h75_, (Or.inl ⟨h76_, h77_, M79_, hI82_, hF83_, hs85_, h81_, z87_, e88_, z89_, h90_, M91_, hM92_, rfl⟩)⟩)⟩)⟩)⟩)⟩)⟩⟩
                · refine w_aload_n dX12_one_64 rfl 3 rfl ?_
                  refine w_getR (c' := (50, 0, 0)) fl_RX12_9 rfl rfl ic_12 dX12_one_65 rfl ?_
                  refine w_sipush (v := 273) dX12_one_68 (by decide) ?_
                  refine w_aload_n dX12_one_71 rfl 3 rfl ?_
                  refine w_getI fl_RX12_155 rfl rfl ic_12 dX12_one_72 (fun z97_ e98_ => ?_)
                  obtain rfl : z70_ = z97_ := e71_.trans e98_.symm
                  refine w_iaddB dX12_one_75 li_273 (rfl : z70_.toInt = z70_.toInt) (lf_c_X12_feed_1 z70_ h72_ ) (fun z99_ h100_ => ?_)
                  refine w_iald rfl rfl ic_50 (rfl : z99_.toInt = z99_.toInt) (lf_c_X12_feed_3 z70_ z99_ h72_ h100_ ) dX12_one_76 (fun j103_ h104_ z101_ e102_ => ?_)
                  refine w_bipush (v := 48) dX12_one_77 (by decide) ?_
                  refine w_bipush (v := 57) dX12_one_79 (by decide) ?_
                  refine w_callS (as := [vI z101_, vI 48, vI 57]) (rest := []) (c_X12_within l G cy ad ((N + d) + 8) z101_ 48 57 M_46 hI_46) kS_X12_within pnn_17 (Nat.le_of_ble_eq_true rfl) m_1427 rfl rfl (by decide) (Nat.le_of_ble_eq_true rfl) dX12_one_81 (fun r105_ M106_ q107_ => ?_)
                  obtain ⟨rfl, h108_, hs109_⟩ := q107_
                  rcases h108_ with ⟨rfl, h108_⟩ | ⟨rfl, h108_⟩
                  · simp only [li_48, li_57] at h108_
                    refine w_if_eq (tgt := 125) dX12_one_84 (by decide) li_1 (fun h9 => (absurd h9 (by decide))) (fun h110_ => ?_)
                    refine w_bipush (v := 10) dX12_one_87 (by decide) ?_
                    refine w_iload_n dX12_one_89 rfl 1 rfl ?_
                    refine w_imulB dX12_one_90 li_10 (rfl : v2_46.toInt = v2_46.toInt) (lf_c_X12_one_16 v3_46 v2_46 hv1_46 ) (fun z111_ h112_ => ?_)
                    refine w_aload_n dX12_one_91 rfl 3 rfl ?_
                    refine w_getR (c' := (50, 0, 0)) fl_RX12_9 rfl rfl ic_12 dX12_one_92 rfl ?_
                    refine w_sipush (v := 273) dX12_one_95 (by decide) ?_
                    refine w_aload_n dX12_one_98 rfl 3 rfl ?_
                    refine w_getI fl_RX12_155 rfl rfl ic_12 dX12_one_99 (fun z113_ e114_ => ?_)
                    obtain rfl : z70_ = z113_ := e71_.trans e114_.symm
                    refine w_iaddB dX12_one_102 li_273 (rfl : z70_.toInt = z70_.toInt) (lf_c_X12_feed_1 z70_ h72_ ) (fun z115_ h116_ => ?_)
                    refine w_iald rfl rfl ic_50 (rfl : z115_.toInt = z115_.toInt) (lf_c_X12_feed_3 z70_ z115_ h72_ h116_ ) dX12_one_103 (fun j119_ h120_ z117_ e118_ => ?_)
                    have h121_ : z117_.toInt = z101_.toInt := by rw [e118_, e102_, show j119_ = j103_ from (lf_c_X12_one_19 z70_ z99_ j103_ z115_ j119_ h100_ h104_ h116_ h120_ )]
                    refine w_iaddB dX12_one_104 (rfl : z111_.toInt = z111_.toInt) (rfl : z117_.toInt = z117_.toInt) (lf_c_X12_one_20 v3_46 v2_46 z101_ z111_ z117_ hv1_46 h108_ h112_ h121_ ) (fun z122_ h123_ => ?_)
                    refine w_bipush (v := 48) dX12_one_105 (by decide) ?_
                    refine w_isubB dX12_one_107 (rfl : z122_.toInt = z122_.toInt) li_48 (lf_c_X12_one_21 z101_ z111_ z117_ z122_ h108_ h121_ h123_ ) (fun z124_ h125_ => ?_)
                    refine w_istore_n (ls' := [(2, vI z124_), (3, vI v3_46), (1, vI r1_), (0, vR (12, 0, 0))]) dX12_one_108 rfl (by decide) rfl ?_
                    refine w_aload_n dX12_one_109 rfl 3 rfl ?_
                    refine w_dup dX12_one_110 rfl ?_
                    refine w_getI fl_RX12_155 rfl rfl ic_12 dX12_one_111 (fun z126_ e127_ => ?_)
                    obtain rfl : z70_ = z126_ := e71_.trans e127_.symm
                    refine w_iconst (v := 1) dX12_one_114 (by decide) ?_
                    refine w_iaddB dX12_one_115 (rfl : z70_.toInt = z70_.toInt) li_1 (lf_c_X12_feed_6 z70_ h72_ ) (fun z128_ h129_ => ?_)
                    refine w_putI DD_nd fl_RX12_155 rfl rfl ic_12 dX12_one_116 (fun M130_ hM131_ => ?_)
                    have hI132_ := hI_46.put hM131_ ⟨(lf_c_X12_here_16 z70_ z73_ z128_ h72_ h75_ h76_ h129_ ), Or.inl (by decide)⟩
                    have hF133_ := hF_46.put hM131_ (Or.inl ⟨rfl, rfl, rfl⟩)
                    have kf134_ : (M130_.1 (12, 0, 0) 11).toInt + ((m : Nat) : Int) = 5 := by rw [(show M130_.1 (12, 0, 0) 11 = M_46.1 (12, 0, 0) 11 by rw [hM131_, up_ne (by simp)])]; exact kv0_46
                    have h135_ : PP M130_ ((s + v3_46.toInt) + 1) D (a + 1) T := PP_at hv3_46 hM131_ (by rw [← e71_]; exact (lf_c_X12_given_25 z70_ z128_ h129_ )) (at_lt hv3_46 e71_ e74_ (lf_c_X12_here_5 z70_ z73_ h76_ ))
                    refine w_iincB (j := 1) (f := fun z136_ => [(3, vI z136_), (2, vI z124_), (1, vI r1_), (0, vR (12, 0, 0))]) dX12_one_119 rfl (by decide) (fun _ => rfl) (rfl : v3_46.toInt = v3_46.toInt) li_1 (lf_c_X12_one_26 v3_46 hv0_46 h49_ ) (fun z136_ h137_ => ?_)
                    refine w_goto (tgt := 46) dX12_one_122 (by decide) ?_
                    refine w_loc (ls' := [(3, vI z136_), (2, vI z124_), (1, vI r1_), (0, vR (12, 0, 0))]) [0, 1, 2, 3] rfl ?_
                    exact ih_46 M130_ hI132_ hF133_ z136_ z124_ (lf_c_X12_one_27 v3_46 z136_ hv0_46 h49_ h137_ ) (lf_c_X12_one_28 M130_ M_46 s D a T v3_46 v2_46 z70_ z73_ z99_ j103_ z101_ z111_ z115_ j119_ z117_ z122_ z124_ z128_ z136_ hs hv0_46 hv1_46 hv2_46 h49_ e71_ h72_ e74_ h75_ h76_ h100_ h104_ e102_ h108_ h112_ h116_ h120_ e118_ h121_ h123_ h125_ h129_ hM131_ h135_ h137_ ) (fun q9 => absurd q9 (lf_c_X12_one_29 v3_46 z136_ hv0_46 h137_ )) (PP_mono h135_ (lf_c_X12_one_30 s v3_46 z136_ h137_ ) (lf_c_X12_here_19 a )) kf134_ (RCH.tail hL_46 ⟨hv0_46, hv1_46, hv2_46, hI_46, hF_46, h49_, z70_, e71_, h72_, z73_, e74_, h75_, h76_, z99_, h100_, j103_, h104_, z101_, e102_, hs109_, h108_, z111_, h112_, z115_, h116_, j119_, h120_, z117_, e118_, h121_, z122_, h123_, z124_, h125_, z128_, h129_, M130_, hM131_, h135_, z136_, h137_, rfl, rfl, rfl⟩) (Nat.lt_of_lt_of_le (lf_c_X12_one_32 v3_46 z136_ h49_ h137_ ) (Nat.le_of_lt_succ hm_46))
                  · simp only [li_48, li_57] at h108_
                    refine w_if_eq (tgt := 125) dX12_one_84 (by decide) li_0 (fun h138_ => ?_) (fun h9 => (absurd h9 (by decide)))
                    have h139_ : ¬ v3_46.toInt = 0 := (dg_2 hv2_46 e71_ e102_ (lf_c_X12_here_14 z70_ z99_ j103_ h100_ h104_ ) h108_)
                    have h140_ : PP M_46 (s + 1) D a T := PP_mono hv3_46 (lf_c_X12_one_9 s v3_46 hv0_46 h139_ ) (Int.le_refl _)
                    refine w_aload_n dX12_one_125 rfl 3 rfl ?_
                    refine w_iload_n dX12_one_126 rfl 1 rfl ?_
                    refine w_callVv (as := [vI v2_46]) (rest := []) (c_X12_codes l G cy ad ((N + d) + 8) v2_46 (s + 1) D a T (D + 1) M_46 hI_46 h140_ (lf_c_X12_opens_8 s hs ) (stp_n (lf_c_X12_one_11 v3_46 v2_46 hv1_46 ))) kV_X12_codes pnn_17 (Nat.le_of_ble_eq_true rfl) m_1583 rfl rfl rfl ic_12 rfl rfl (by decide) (Nat.le_of_ble_eq_true rfl) dX12_one_127 (fun M141_ q142_ => ?_)
                    obtain ⟨hI144_, hF145_, h143_, hs147_⟩ := q142_
                    have hF146_ := hF_46.tr hF145_ (fun c k => (fun h => h.elim (fun h => (Or.inr (Or.inr (Or.inr (Or.inr (Or.inl ⟨h.1, h.2.1, h.2.2⟩)))))) (fun h => h.elim (fun h => (Or.inr (Or.inr (Or.inr (Or.inr (Or.inr (Or.inl ⟨h.1, h.2⟩))))))) (fun h => h.elim))))
                    have kf148_ : (M141_.1 (12, 0, 0) 11).toInt + ((m : Nat) : Int) = 5 := by rw [(hF145_ (12, 0, 0) 11 (by simp [S_codes]))]; exact kv0_46
                    refine w_aload_n dX12_one_130 rfl 3 rfl ?_
                    refine w_dup dX12_one_131 rfl ?_
                    refine w_getI fl_RX12_203 rfl rfl ic_12 dX12_one_132 (fun z149_ e150_ => ?_)
                    refine w_iconst (v := 1) dX12_one_135 (by decide) ?_
                    refine w_iadd dX12_one_136 (fun z151_ h152_ => ?_)
                    refine w_putI DD_nd fl_RX12_203 rfl rfl ic_12 dX12_one_137 (fun M153_ hM154_ => ?_)
                    have hI155_ := hI144_.put hM154_ ⟨trivial, Or.inl (by decide)⟩
                    have hF156_ := hF146_.put hM154_ (Or.inr (Or.inr (Or.inl ⟨rfl, rfl, rfl⟩)))
                    have kf157_ : (M153_.1 (12, 0, 0) 11).toInt + ((m : Nat) : Int) = 5 := by rw [(show M153_.1 (12, 0, 0) 11 = M141_.1 (12, 0, 0) 11 by rw [hM154_, up_ne (by simp)])]; exact kf148_
                    have kf158_ : PP M153_ ((s + 1) - 1) (D + 1) a T := PP_cong h143_ (show M153_.1 (12, 0, 0) 14 = M141_.1 (12, 0, 0) 14 by rw [hM154_, up_ne (by simp)]) (show M153_.1 (12, 0, 0) 9 = M141_.1 (12, 0, 0) 9 by rw [hM154_, up_ne (by simp)]) (show M153_.1 (50, 0, 0) 4 = M141_.1 (50, 0, 0) 4 by rw [hM154_, up_ne (by simp)]) (show M153_.1 (12, 0, 0) 13 = M141_.1 (12, 0, 0) 13 by rw [hM154_, up_ne (by simp)]) (show M153_.1 (57, 0, 0) = M141_.1 (57, 0, 0) by rw [hM154_]; exact up_other _ _ (by simp))
                    refine w_goto (tgt := 213) dX12_one_140 (by decide) ?_
                    exact w_vret rfl dX12_one_213 ⟨hI155_, hF156_, ⟨PP_mono kf158_ (lf_c_X12_opens_21 s ) (lf_c_X12_opens_41 a ), kf157_⟩, ⟨M2_, hI5_, hF6_, r1_, hs8_, h11_, (Or.inr ⟨h12_, (Or.inr ⟨h26_, (Or.inl ⟨h40_, (Or.inl ⟨hs45_, h44_, v3_46, hv0_46, v2_46, hv1_46, M_46, hv2_46, hL_46, hI_46, hF_46, (Or.inr ⟨h49_, z70_, e71_, h72_, z73_, e74_, h75_, (Or.inr ⟨h76_, z99_, h100_, j103_, h104_, z101_, e102_, hs109_, h108_, h139_, M141_, hI144_, hF145_, hs147_, h143_, z149_, e150_, z151_, h152_, M153_, hM154_, rfl⟩)⟩)⟩)⟩)⟩)⟩)⟩⟩
          exact lp48_ _ M2_ hI5_ hF7_ 0 0 (lf_c_X12_one_39 ) (lf_c_X12_one_40 ) (fun _ => h47_) (PP_mono h10_ (lf_c_X12_one_41 s ) (Int.le_refl _)) kf9_ RCH.refl (Nat.lt_succ_self _)
        · simp only [li_48, li_57] at h44_
          refine w_if_eq (tgt := 143) dX12_one_39 (by decide) li_0 (fun h159_ => ?_) (fun h9 => (absurd h9 (by decide)))
          refine w_iload_n dX12_one_143 rfl 0 rfl ?_
          refine w_if_ge (tgt := 151) dX12_one_144 (by decide) (rfl : r1_.toInt = r1_.toInt) (fun h160_ => ?_) (fun h160_ => ?_)
          · have h161_ : M2_.1 (12, 0, 0) 13 = 0 ∧ (M2_.1 (12, 0, 0) 9).toInt < T := HB_ok h11_ h10_ (lf_c_X12_one_42 r1_ h160_ )
            have kf162_ : M2_.1 (12, 0, 0) 13 = 0 := h161_.1
            have kf163_ : (M2_.1 (12, 0, 0) 9).toInt < T := h161_.2
            have kf164_ : (M2_.1 (12, 0, 0) 9).toInt ≤ 47 := PP_a48 hI5_ h10_ h161_.2
            refine w_aload_n dX12_one_151 rfl 1 rfl ?_
            refine w_iload_n dX12_one_152 rfl 0 rfl ?_
            refine w_callV (as := [vI r1_]) (rest := []) (c_X12_nameOf l G cy ad (N + d) r1_ M2_ hI5_) kV_X12_nameOf pnn_17 (Nat.le_of_ble_eq_true rfl) m_1595 rfl rfl rfl ic_12 rfl rfl (by decide) (Nat.le_of_ble_eq_true rfl) dX12_one_153 (fun r165_ M166_ q167_ => ?_)
            obtain ⟨rfl, h168_, hs169_⟩ := q167_
            refine w_istore_n (ls' := [(2, vI r165_), (1, vI r1_), (0, vR (12, 0, 0))]) dX12_one_156 rfl (by decide) rfl ?_
            refine w_aload_n dX12_one_157 rfl 2 rfl ?_
            refine w_aload_n dX12_one_158 rfl 2 rfl ?_
            refine w_getI fl_RX12_151 rfl rfl ic_12 dX12_one_159 (fun z170_ e171_ => ?_)
            have h172_ : 0 ≤ z170_.toInt ∧ z170_.toInt ≤ 1 := ofEq (P := fun v => 0 ≤ v.toInt ∧ v.toInt ≤ 1) e171_ (hI5_.1 (12, 0, 0) 13)
            have h173_ : z170_ = 0 := by rw [e171_]; exact kf162_
            refine w_if_ne (tgt := 169) dX12_one_162 (by decide) (rfl : z170_.toInt = z170_.toInt) (fun h174_ => ?_) (fun h174_ => ?_)
            · refine w_iconst (v := 1) dX12_one_169 (by decide) ?_
              refine w_goto (tgt := 174) dX12_one_170 (by decide) ?_
              refine w_putZ DD_nd fl_RX12_151 rfl rfl ic_12 ⟨by decide, by decide⟩ dX12_one_174 (fun M175_ hM176_ => ?_)
              have hI177_ := hI5_.put hM176_ ⟨⟨by decide, by decide⟩, Or.inl (by decide)⟩
              have hF178_ := hF7_.put hM176_ (Or.inr (Or.inr (Or.inr (Or.inl ⟨rfl, rfl, rfl⟩))))
              have kf179_ : (M175_.1 (12, 0, 0) 11).toInt + ((m : Nat) : Int) = 5 := by rw [(show M175_.1 (12, 0, 0) 11 = M2_.1 (12, 0, 0) 11 by rw [hM176_, up_ne (by simp)])]; exact kf9_
              have kf180_ : (M175_.1 (12, 0, 0) 9).toInt < T := by rw [(show M175_.1 (12, 0, 0) 9 = M2_.1 (12, 0, 0) 9 by rw [hM176_, up_ne (by simp)])]; exact kf163_
              have kf181_ : (M175_.1 (12, 0, 0) 9).toInt ≤ 47 := by rw [(show M175_.1 (12, 0, 0) 9 = M2_.1 (12, 0, 0) 9 by rw [hM176_, up_ne (by simp)])]; exact kf164_
              have h182_ : PP M175_ s D a T := PP_put1 h10_ hM176_
              have kf183_ : M175_.1 (12, 0, 0) 13 = 1 := up_s hM176_
              have kf184_ : (M175_.1 (12, 0, 0) 13).toInt = 1 := by rw [kf183_]; decide
              refine w_aload_n dX12_one_177 rfl 2 rfl ?_
              refine w_getI fl_RX12_151 rfl rfl ic_12 dX12_one_178 (fun z185_ e186_ => ?_)
              have h187_ : 0 ≤ z185_.toInt ∧ z185_.toInt ≤ 1 := ofEq (P := fun v => 0 ≤ v.toInt ∧ v.toInt ≤ 1) e186_ (hI177_.1 (12, 0, 0) 13)
              have h188_ : z185_ = 1 := by rw [e186_]; exact kf183_
              have h189_ : z185_.toInt = 1 := by rw [e186_]; exact kf184_
              refine w_if_ne (tgt := 213) dX12_one_181 (by decide) (rfl : z185_.toInt = z185_.toInt) (fun h190_ => ?_) (fun h9 => (lf_c_X2_changeAir_0 z185_ h189_ h9 ).elim)
              exact w_vret rfl dX12_one_213 ⟨hI177_, hF178_, ⟨PP_wr (PP_mono h182_ (lf_c_X12_opens_41 s ) (lf_c_X12_opens_41 a )) kf183_, kf179_⟩, ⟨M2_, hI5_, hF6_, r1_, hs8_, h11_, (Or.inr ⟨h12_, (Or.inr ⟨h26_, (Or.inl ⟨h40_, (Or.inr ⟨hs45_, h44_, (Or.inl ⟨h160_, r165_, hs169_, h168_, z170_, e171_, h172_, h173_, (Or.inl ⟨h174_, M175_, hM176_, h182_, z185_, e186_, h187_, h188_, h189_, h190_, rfl⟩)⟩)⟩)⟩)⟩)⟩)⟩⟩
            · refine w_iload_n dX12_one_165 rfl 0 rfl ?_
              refine w_if_ge (tgt := 173) dX12_one_166 (by decide) (rfl : r165_.toInt = r165_.toInt) (fun h191_ => ?_) (fun h191_ => ?_)
              · refine w_iconst (v := 0) dX12_one_173 (by decide) ?_
                refine w_putZ DD_nd fl_RX12_151 rfl rfl ic_12 ⟨by decide, by decide⟩ dX12_one_174 (fun M192_ hM193_ => ?_)
                have hI194_ := hI5_.put hM193_ ⟨⟨by decide, by decide⟩, Or.inl (by decide)⟩
                have hF195_ := hF7_.put hM193_ (Or.inr (Or.inr (Or.inr (Or.inl ⟨rfl, rfl, rfl⟩))))
                have kf196_ : (M192_.1 (12, 0, 0) 11).toInt + ((m : Nat) : Int) = 5 := by rw [(show M192_.1 (12, 0, 0) 11 = M2_.1 (12, 0, 0) 11 by rw [hM193_, up_ne (by simp)])]; exact kf9_
                have kf197_ : (M192_.1 (12, 0, 0) 9).toInt < T := by rw [(show M192_.1 (12, 0, 0) 9 = M2_.1 (12, 0, 0) 9 by rw [hM193_, up_ne (by simp)])]; exact kf163_
                have kf198_ : (M192_.1 (12, 0, 0) 9).toInt ≤ 47 := by rw [(show M192_.1 (12, 0, 0) 9 = M2_.1 (12, 0, 0) 9 by rw [hM193_, up_ne (by simp)])]; exact kf164_
                have h199_ : PP M192_ s D a T := PP_put0 h10_ hM193_ kf162_
                have kf200_ : M192_.1 (12, 0, 0) 13 = 0 := up_s hM193_
                have kf201_ : (M192_.1 (12, 0, 0) 13).toInt = 0 := by rw [kf200_]; decide
                refine w_aload_n dX12_one_177 rfl 2 rfl ?_
                refine w_getI fl_RX12_151 rfl rfl ic_12 dX12_one_178 (fun z202_ e203_ => ?_)
                have h204_ : 0 ≤ z202_.toInt ∧ z202_.toInt ≤ 1 := ofEq (P := fun v => 0 ≤ v.toInt ∧ v.toInt ≤ 1) e203_ (hI194_.1 (12, 0, 0) 13)
                have h205_ : z202_ = 0 := by rw [e203_]; exact kf200_
                have h206_ : z202_.toInt = 0 := by rw [e203_]; exact kf201_
                refine w_if_ne (tgt := 213) dX12_one_181 (by decide) (rfl : z202_.toInt = z202_.toInt) (fun h9 => (lf_c_X12_kind_4 z202_ h204_ h206_ h9 ).elim) (fun h207_ => ?_)
                refine w_aload_n dX12_one_184 rfl 2 rfl ?_
                refine w_sipush (v := 1000) dX12_one_185 (by decide) ?_
                refine w_iload_n dX12_one_188 rfl 0 rfl ?_
                refine w_iaddB dX12_one_189 li_1000 (rfl : r165_.toInt = r165_.toInt) (lf_c_X12_one_47 r165_ h168_ h191_ ) (fun z208_ h209_ => ?_)
                refine w_callVv (as := [vI z208_]) (rest := []) (c_X12_codes l G cy ad ((N + d) + 8) z208_ s D a T (D + 1) M192_ hI194_ h199_ hs (stp_n (lf_c_X12_one_48 r165_ z208_ h168_ h191_ h209_ ))) kV_X12_codes pnn_17 (Nat.le_of_ble_eq_true rfl) m_1583 rfl rfl rfl ic_12 rfl rfl (by decide) (Nat.le_of_ble_eq_true rfl) dX12_one_190 (fun M210_ q211_ => ?_)
                obtain ⟨hI213_, hF214_, h212_, hs216_⟩ := q211_
                have hF215_ := hF195_.tr hF214_ (fun c k => (fun h => h.elim (fun h => (Or.inr (Or.inr (Or.inr (Or.inr (Or.inl ⟨h.1, h.2.1, h.2.2⟩)))))) (fun h => h.elim (fun h => (Or.inr (Or.inr (Or.inr (Or.inr (Or.inr (Or.inl ⟨h.1, h.2⟩))))))) (fun h => h.elim))))
                have kf217_ : (M210_.1 (12, 0, 0) 11).toInt + ((m : Nat) : Int) = 5 := by rw [(hF214_ (12, 0, 0) 11 (by simp [S_codes]))]; exact kf196_
                have kf218_ : (M210_.1 (12, 0, 0) 9).toInt < T := by rw [(hF214_ (12, 0, 0) 9 (by simp [S_codes]))]; exact kf197_
                have kf219_ : (M210_.1 (12, 0, 0) 9).toInt ≤ 47 := by rw [(hF214_ (12, 0, 0) 9 (by simp [S_codes]))]; exact kf198_
                have kf220_ : M210_.1 (12, 0, 0) 13 = 0 := by rw [(hF214_ (12, 0, 0) 13 (by simp [S_codes]))]; exact kf200_
                have kf221_ : (M210_.1 (12, 0, 0) 13).toInt = 0 := by rw [(hF214_ (12, 0, 0) 13 (by simp [S_codes]))]; exact kf201_
                refine w_aload_n dX12_one_193 rfl 2 rfl ?_
                refine w_dup dX12_one_194 rfl ?_
                refine w_getI fl_RX12_203 rfl rfl ic_12 dX12_one_195 (fun z222_ e223_ => ?_)
                refine w_iconst (v := 1) dX12_one_198 (by decide) ?_
                refine w_iadd dX12_one_199 (fun z224_ h225_ => ?_)
                refine w_putI DD_nd fl_RX12_203 rfl rfl ic_12 dX12_one_200 (fun M226_ hM227_ => ?_)
                have hI228_ := hI213_.put hM227_ ⟨trivial, Or.inl (by decide)⟩
                have hF229_ := hF215_.put hM227_ (Or.inr (Or.inr (Or.inl ⟨rfl, rfl, rfl⟩)))
                have kf230_ : (M226_.1 (12, 0, 0) 11).toInt + ((m : Nat) : Int) = 5 := by rw [(show M226_.1 (12, 0, 0) 11 = M210_.1 (12, 0, 0) 11 by rw [hM227_, up_ne (by simp)])]; exact kf217_
                have kf231_ : (M226_.1 (12, 0, 0) 9).toInt < T := by rw [(show M226_.1 (12, 0, 0) 9 = M210_.1 (12, 0, 0) 9 by rw [hM227_, up_ne (by simp)])]; exact kf218_
                have kf232_ : (M226_.1 (12, 0, 0) 9).toInt ≤ 47 := by rw [(show M226_.1 (12, 0, 0) 9 = M210_.1 (12, 0, 0) 9 by rw [hM227_, up_ne (by simp)])]; exact kf219_
                have kf233_ : M226_.1 (12, 0, 0) 13 = 0 := by rw [(show M226_.1 (12, 0, 0) 13 = M210_.1 (12, 0, 0) 13 by rw [hM227_, up_ne (by simp)])]; exact kf220_
                have kf234_ : (M226_.1 (12, 0, 0) 13).toInt = 0 := by rw [(show M226_.1 (12, 0, 0) 13 = M210_.1 (12, 0, 0) 13 by rw [hM227_, up_ne (by simp)])]; exact kf221_
                have kf235_ : PP M226_ (s - 1) (D + 1) a T := PP_cong h212_ (show M226_.1 (12, 0, 0) 14 = M210_.1 (12, 0, 0) 14 by rw [hM227_, up_ne (by simp)]) (show M226_.1 (12, 0, 0) 9 = M210_.1 (12, 0, 0) 9 by rw [hM227_, up_ne (by simp)]) (show M226_.1 (50, 0, 0) 4 = M210_.1 (50, 0, 0) 4 by rw [hM227_, up_ne (by simp)]) (show M226_.1 (12, 0, 0) 13 = M210_.1 (12, 0, 0) 13 by rw [hM227_, up_ne (by simp)]) (show M226_.1 (57, 0, 0) = M210_.1 (57, 0, 0) by rw [hM227_]; exact up_other _ _ (by simp))
                refine w_aload_n dX12_one_203 rfl 2 rfl ?_
                refine w_dup dX12_one_204 rfl ?_
                refine w_getI fl_RX12_155 rfl rfl ic_12 dX12_one_205 (fun z236_ e237_ => ?_)
                have h238_ : 0 ≤ z236_.toInt ∧ z236_.toInt ≤ 48 := ofEq (P := fun v => 0 ≤ v.toInt ∧ v.toInt ≤ 48) e237_ (hI228_.1 (12, 0, 0) 9)
                have h239_ : z236_.toInt < T := by rw [e237_]; exact kf231_
                have h240_ : z236_.toInt ≤ 47 := by rw [e237_]; exact kf232_
                refine w_iconst (v := 1) dX12_one_208 (by decide) ?_
                refine w_iaddB dX12_one_209 (rfl : z236_.toInt = z236_.toInt) li_1 (lf_c_X12_takes_4 z236_ h238_ h240_ ) (fun z241_ h242_ => ?_)
                refine w_putI DD_nd fl_RX12_155 rfl rfl ic_12 dX12_one_210 (fun M243_ hM244_ => ?_)
                have hI245_ := hI228_.put hM244_ ⟨(lf_c_X12_takes_5 z236_ z241_ h238_ h240_ h242_ ), Or.inl (by decide)⟩
                have hF246_ := hF229_.put hM244_ (Or.inl ⟨rfl, rfl, rfl⟩)
                have kf247_ : (M243_.1 (12, 0, 0) 11).toInt + ((m : Nat) : Int) = 5 := by rw [(show M243_.1 (12, 0, 0) 11 = M226_.1 (12, 0, 0) 11 by rw [hM244_, up_ne (by simp)])]; exact kf230_
                have kf248_ : M243_.1 (12, 0, 0) 13 = 0 := by rw [(show M243_.1 (12, 0, 0) 13 = M226_.1 (12, 0, 0) 13 by rw [hM244_, up_ne (by simp)])]; exact kf233_
                have kf249_ : (M243_.1 (12, 0, 0) 13).toInt = 0 := by rw [(show M243_.1 (12, 0, 0) 13 = M226_.1 (12, 0, 0) 13 by rw [hM244_, up_ne (by simp)])]; exact kf234_
                have h250_ : PP M243_ ((s - 1) + 1) (D + 1) (a + 1) T := PP_at kf235_ hM244_ (by rw [← e237_]; exact (lf_c_X12_given_25 z236_ z241_ h242_ )) kf231_
                exact w_vret rfl dX12_one_213 ⟨hI245_, hF246_, ⟨PP_mono h250_ (lf_c_X12_one_52 s ) (lf_c_X12_here_19 a ), kf247_⟩, ⟨M2_, hI5_, hF6_, r1_, hs8_, h11_, (Or.inr ⟨h12_, (Or.inr ⟨h26_, (Or.inl ⟨h40_, (Or.inr ⟨hs45_, h44_, (Or.inl ⟨h160_, r165_, hs169_, h168_, z170_, e171_, h172_, h173_, (Or.inr ⟨h174_, (Or.inl ⟨h191_, M192_, hM193_, z202_, e203_, h204_, h205_, h206_, h207_, z208_, h209_, hI194_, M210_, hI213_, hF214_, hs216_, z222_, e223_, z224_, h225_, M226_, hM227_, z236_, e237_, h238_, h239_, h240_, z241_, h242_, M243_, hM244_, h250_, rfl⟩)⟩)⟩)⟩)⟩)⟩)⟩)⟩⟩
              · refine w_iconst (v := 1) dX12_one_169 (by decide) ?_
                refine w_goto (tgt := 174) dX12_one_170 (by decide) ?_
                refine w_putZ DD_nd fl_RX12_151 rfl rfl ic_12 ⟨by decide, by decide⟩ dX12_one_174 (fun M251_ hM252_ => ?_)
                have hI253_ := hI5_.put hM252_ ⟨⟨by decide, by decide⟩, Or.inl (by decide)⟩
                have hF254_ := hF7_.put hM252_ (Or.inr (Or.inr (Or.inr (Or.inl ⟨rfl, rfl, rfl⟩))))
                have kf255_ : (M251_.1 (12, 0, 0) 11).toInt + ((m : Nat) : Int) = 5 := by rw [(show M251_.1 (12, 0, 0) 11 = M2_.1 (12, 0, 0) 11 by rw [hM252_, up_ne (by simp)])]; exact kf9_
                have kf256_ : (M251_.1 (12, 0, 0) 9).toInt < T := by rw [(show M251_.1 (12, 0, 0) 9 = M2_.1 (12, 0, 0) 9 by rw [hM252_, up_ne (by simp)])]; exact kf163_
                have kf257_ : (M251_.1 (12, 0, 0) 9).toInt ≤ 47 := by rw [(show M251_.1 (12, 0, 0) 9 = M2_.1 (12, 0, 0) 9 by rw [hM252_, up_ne (by simp)])]; exact kf164_
                have h258_ : PP M251_ s D a T := PP_put1 h10_ hM252_
                have kf259_ : M251_.1 (12, 0, 0) 13 = 1 := up_s hM252_
                have kf260_ : (M251_.1 (12, 0, 0) 13).toInt = 1 := by rw [kf259_]; decide
                refine w_aload_n dX12_one_177 rfl 2 rfl ?_
                refine w_getI fl_RX12_151 rfl rfl ic_12 dX12_one_178 (fun z261_ e262_ => ?_)
                have h263_ : 0 ≤ z261_.toInt ∧ z261_.toInt ≤ 1 := ofEq (P := fun v => 0 ≤ v.toInt ∧ v.toInt ≤ 1) e262_ (hI253_.1 (12, 0, 0) 13)
                have h264_ : z261_ = 1 := by rw [e262_]; exact kf259_
                have h265_ : z261_.toInt = 1 := by rw [e262_]; exact kf260_
                refine w_if_ne (tgt := 213) dX12_one_181 (by decide) (rfl : z261_.toInt = z261_.toInt) (fun h266_ => ?_) (fun h9 => (lf_c_X2_changeAir_0 z261_ h265_ h9 ).elim)
                exact w_vret rfl dX12_one_213 ⟨hI253_, hF254_, ⟨PP_wr (PP_mono h258_ (lf_c_X12_opens_41 s ) (lf_c_X12_opens_41 a )) kf259_, kf255_⟩, ⟨M2_, hI5_, hF6_, r1_, hs8_, h11_, (Or.inr ⟨h12_, (Or.inr ⟨h26_, (Or.inl ⟨h40_, (Or.inr ⟨hs45_, h44_, (Or.inl ⟨h160_, r165_, hs169_, h168_, z170_, e171_, h172_, h173_, (Or.inr ⟨h174_, (Or.inr ⟨h191_, M251_, hM252_, h258_, z261_, e262_, h263_, h264_, h265_, h266_, rfl⟩)⟩)⟩)⟩)⟩)⟩)⟩)⟩⟩
          · refine w_iconst (v := (-1)) dX12_one_147 (by decide) ?_
            refine w_goto (tgt := 156) dX12_one_148 (by decide) ?_
            refine w_istore_n (ls' := [(2, vI (-1)), (1, vI r1_), (0, vR (12, 0, 0))]) dX12_one_156 rfl (by decide) rfl ?_
            refine w_aload_n dX12_one_157 rfl 2 rfl ?_
            refine w_aload_n dX12_one_158 rfl 2 rfl ?_
            refine w_getI fl_RX12_151 rfl rfl ic_12 dX12_one_159 (fun z267_ e268_ => ?_)
            have h269_ : 0 ≤ z267_.toInt ∧ z267_.toInt ≤ 1 := ofEq (P := fun v => 0 ≤ v.toInt ∧ v.toInt ≤ 1) e268_ (hI5_.1 (12, 0, 0) 13)
            refine w_if_ne (tgt := 169) dX12_one_162 (by decide) (rfl : z267_.toInt = z267_.toInt) (fun h270_ => ?_) (fun h270_ => ?_)
            · refine w_iconst (v := 1) dX12_one_169 (by decide) ?_
              refine w_goto (tgt := 174) dX12_one_170 (by decide) ?_
              refine w_putZ DD_nd fl_RX12_151 rfl rfl ic_12 ⟨by decide, by decide⟩ dX12_one_174 (fun M271_ hM272_ => ?_)
              have hI273_ := hI5_.put hM272_ ⟨⟨by decide, by decide⟩, Or.inl (by decide)⟩
              have hF274_ := hF7_.put hM272_ (Or.inr (Or.inr (Or.inr (Or.inl ⟨rfl, rfl, rfl⟩))))
              have kf275_ : (M271_.1 (12, 0, 0) 11).toInt + ((m : Nat) : Int) = 5 := by rw [(show M271_.1 (12, 0, 0) 11 = M2_.1 (12, 0, 0) 11 by rw [hM272_, up_ne (by simp)])]; exact kf9_
              have h276_ : PP M271_ s D a T := PP_put1 h10_ hM272_
              have kf277_ : M271_.1 (12, 0, 0) 13 = 1 := up_s hM272_
              have kf278_ : (M271_.1 (12, 0, 0) 13).toInt = 1 := by rw [kf277_]; decide
              refine w_aload_n dX12_one_177 rfl 2 rfl ?_
              refine w_getI fl_RX12_151 rfl rfl ic_12 dX12_one_178 (fun z279_ e280_ => ?_)
              have h281_ : 0 ≤ z279_.toInt ∧ z279_.toInt ≤ 1 := ofEq (P := fun v => 0 ≤ v.toInt ∧ v.toInt ≤ 1) e280_ (hI273_.1 (12, 0, 0) 13)
              have h282_ : z279_ = 1 := by rw [e280_]; exact kf277_
              have h283_ : z279_.toInt = 1 := by rw [e280_]; exact kf278_
              refine w_if_ne (tgt := 213) dX12_one_181 (by decide) (rfl : z279_.toInt = z279_.toInt) (fun h284_ => ?_) (fun h9 => (lf_c_X2_changeAir_0 z279_ h283_ h9 ).elim)
              exact w_vret rfl dX12_one_213 ⟨hI273_, hF274_, ⟨PP_wr (PP_mono h276_ (lf_c_X12_opens_41 s ) (lf_c_X12_opens_41 a )) kf277_, kf275_⟩, ⟨M2_, hI5_, hF6_, r1_, hs8_, h11_, (Or.inr ⟨h12_, (Or.inr ⟨h26_, (Or.inl ⟨h40_, (Or.inr ⟨hs45_, h44_, (Or.inr ⟨h160_, z267_, e268_, h269_, (Or.inl ⟨h270_, M271_, hM272_, h276_, z279_, e280_, h281_, h282_, h283_, h284_, rfl⟩)⟩)⟩)⟩)⟩)⟩)⟩⟩
            · refine w_iload_n dX12_one_165 rfl 0 rfl ?_
              refine w_if_ge (tgt := 173) dX12_one_166 (by decide) li_m1 (fun h9 => (absurd h9 (by decide))) (fun h285_ => ?_)
              refine w_iconst (v := 1) dX12_one_169 (by decide) ?_
              refine w_goto (tgt := 174) dX12_one_170 (by decide) ?_
              refine w_putZ DD_nd fl_RX12_151 rfl rfl ic_12 ⟨by decide, by decide⟩ dX12_one_174 (fun M286_ hM287_ => ?_)
              have hI288_ := hI5_.put hM287_ ⟨⟨by decide, by decide⟩, Or.inl (by decide)⟩
              have hF289_ := hF7_.put hM287_ (Or.inr (Or.inr (Or.inr (Or.inl ⟨rfl, rfl, rfl⟩))))
              have kf290_ : (M286_.1 (12, 0, 0) 11).toInt + ((m : Nat) : Int) = 5 := by rw [(show M286_.1 (12, 0, 0) 11 = M2_.1 (12, 0, 0) 11 by rw [hM287_, up_ne (by simp)])]; exact kf9_
              have h291_ : PP M286_ s D a T := PP_put1 h10_ hM287_
              have kf292_ : M286_.1 (12, 0, 0) 13 = 1 := up_s hM287_
              have kf293_ : (M286_.1 (12, 0, 0) 13).toInt = 1 := by rw [kf292_]; decide
              refine w_aload_n dX12_one_177 rfl 2 rfl ?_
              refine w_getI fl_RX12_151 rfl rfl ic_12 dX12_one_178 (fun z294_ e295_ => ?_)
              have h296_ : 0 ≤ z294_.toInt ∧ z294_.toInt ≤ 1 := ofEq (P := fun v => 0 ≤ v.toInt ∧ v.toInt ≤ 1) e295_ (hI288_.1 (12, 0, 0) 13)
              have h297_ : z294_ = 1 := by rw [e295_]; exact kf292_
              have h298_ : z294_.toInt = 1 := by rw [e295_]; exact kf293_
              refine w_if_ne (tgt := 213) dX12_one_181 (by decide) (rfl : z294_.toInt = z294_.toInt) (fun h299_ => ?_) (fun h9 => (lf_c_X2_changeAir_0 z294_ h298_ h9 ).elim)
              exact w_vret rfl dX12_one_213 ⟨hI288_, hF289_, ⟨PP_wr (PP_mono h291_ (lf_c_X12_opens_41 s ) (lf_c_X12_opens_41 a )) kf292_, kf290_⟩, ⟨M2_, hI5_, hF6_, r1_, hs8_, h11_, (Or.inr ⟨h12_, (Or.inr ⟨h26_, (Or.inl ⟨h40_, (Or.inr ⟨hs45_, h44_, (Or.inr ⟨h160_, z267_, e268_, h269_, (Or.inr ⟨h270_, M286_, hM287_, h291_, z294_, e295_, h296_, h297_, h298_, h299_, rfl⟩)⟩)⟩)⟩)⟩)⟩)⟩⟩
      · have h300_ : M2_.1 (12, 0, 0) 13 = 0 ∧ (M2_.1 (12, 0, 0) 9).toInt < T := HB_ok h11_ h10_ (lf_c_X12_one_63 r1_ h40_ )
        have kf301_ : M2_.1 (12, 0, 0) 13 = 0 := h300_.1
        have kf302_ : (M2_.1 (12, 0, 0) 9).toInt < T := h300_.2
        have kf303_ : (M2_.1 (12, 0, 0) 9).toInt ≤ 47 := PP_a48 hI5_ h10_ h300_.2
        refine w_aload_n dX12_one_23 rfl 1 rfl ?_
        refine w_iload_n dX12_one_24 rfl 0 rfl ?_
        refine w_callVv (as := [vI r1_]) (rest := []) (c_X12_opens l G cy ad (d + 5) N m QA QB r1_ s D a T M2_ hI5_ hA hB h10_ hs kf9_ hm kf302_ kf301_) kV_X12_opens pnn_17 (Nat.le_of_ble_eq_true rfl) m_1579 rfl rfl rfl ic_12 rfl rfl (by decide) (Nat.le_of_ble_eq_true rfl) dX12_one_25 (fun M304_ q305_ => ?_)
        obtain ⟨hI307_, hF308_, h306_, hs310_⟩ := q305_
        have hF309_ := hF7_.tr hF308_ (fun c k => (fun h => h.elim (fun h => (Or.inl ⟨h.1, h.2.1, h.2.2⟩)) (fun h => h.elim (fun h => (Or.inr (Or.inl ⟨h.1, h.2.1, h.2.2⟩))) (fun h => h.elim (fun h => (Or.inr (Or.inr (Or.inl ⟨h.1, h.2.1, h.2.2⟩)))) (fun h => h.elim (fun h => (Or.inr (Or.inr (Or.inr (Or.inl ⟨h.1, h.2.1, h.2.2⟩))))) (fun h => h.elim (fun h => (Or.inr (Or.inr (Or.inr (Or.inr (Or.inl ⟨h.1, h.2.1, h.2.2⟩)))))) (fun h => h.elim (fun h => (Or.inr (Or.inr (Or.inr (Or.inr (Or.inr (Or.inl ⟨h.1, h.2⟩))))))) (fun h => h.elim))))))))
        have h311_ : PP M304_ s (D + 1) a T := h306_.1
        have kf312_ : (M304_.1 (12, 0, 0) 11).toInt + ((m : Nat) : Int) = 5 := h306_.2
        refine w_goto (tgt := 213) dX12_one_28 (by decide) ?_
        exact w_vret rfl dX12_one_213 ⟨hI307_, hF309_, ⟨h311_, kf312_⟩, ⟨M2_, hI5_, hF6_, r1_, hs8_, h11_, (Or.inr ⟨h12_, (Or.inr ⟨h26_, (Or.inr ⟨h40_, M304_, hI307_, hF308_, hs310_, h311_, rfl⟩)⟩)⟩)⟩⟩
def ST_X12_term_51 (N : Nat) (m : Nat) (QA : mM → mM → Prop) (QB : mM → mM → Prop) (s : Int) (D : Nat) (T : Int) (Mz : mM) (v1_51 : Int32) (M_51 : mM) (v1_51y : Int32) (M_51y : mM) : Prop := (v1_51.toInt = 0 ∨ (2005 ≤ v1_51.toInt ∧ v1_51.toInt ≤ 2007)) ∧ (InvD M_51) ∧ (FR (S_par) Mz M_51) ∧ (0 ≤ isX v1_51 ∧ isX v1_51 ≤ 1) ∧ (0 < v1_51.toInt) ∧ ∃ M27_ : mM, (InvD M27_) ∧ (FR (S_par) M_51 M27_) ∧ (SP_X12_one N m QA QB (s + 1) (D + 1) ((M_51.1 (12, 0, 0) 9).toInt) T M_51 M27_) ∧ ∃ M36_ : mM, (InvD M36_) ∧ (FR (S_codes) M27_ M36_) ∧ (SP_X12_codes v1_51 (s + 1) ((D + 1) + 1) ((M_51.1 (12, 0, 0) 9).toInt) T (D + 1) M27_ M36_) ∧ ∃ M45_ : mM, (InvD M45_) ∧ (FR (S_here) M36_ M45_) ∧ (((SP_X12_takes 42 ((s + 1) - 1) (D + 1) ((M_51.1 (12, 0, 0) 9).toInt) T M36_ (1 : Int32) M45_) ∧ (PP M45_ (((s + 1) - 1) + 1) (D + 1) ((M_51.1 (12, 0, 0) 9).toInt + 1) T) ∧ v1_51y = 2005 ∧ M_51y = M45_) ∨ ((SP_X12_takes 42 ((s + 1) - 1) (D + 1) ((M_51.1 (12, 0, 0) 9).toInt) T M36_ (0 : Int32) M45_) ∧ ∃ M58_ : mM, (InvD M58_) ∧ (FR (S_here) M45_ M58_) ∧ (((SP_X12_takes 47 ((s + 1) - 1) (D + 1) ((M_51.1 (12, 0, 0) 9).toInt) T M45_ (1 : Int32) M58_) ∧ (PP M58_ (((s + 1) - 1) + 1) (D + 1) ((M_51.1 (12, 0, 0) 9).toInt + 1) T) ∧ v1_51y = 2006 ∧ M_51y = M58_) ∨ ((SP_X12_takes 47 ((s + 1) - 1) (D + 1) ((M_51.1 (12, 0, 0) 9).toInt) T M45_ (0 : Int32) M58_) ∧ ∃ M71_ : mM, (InvD M71_) ∧ (FR (S_here) M58_ M71_) ∧ (((SP_X12_takes 37 ((s + 1) - 1) (D + 1) ((M_51.1 (12, 0, 0) 9).toInt) T M58_ (1 : Int32) M71_) ∧ (PP M71_ (((s + 1) - 1) + 1) (D + 1) ((M_51.1 (12, 0, 0) 9).toInt + 1) T) ∧ v1_51y = 2007 ∧ M_51y = M71_) ∨ ((SP_X12_takes 37 ((s + 1) - 1) (D + 1) ((M_51.1 (12, 0, 0) 9).toInt) T M58_ (0 : Int32) M71_) ∧ (PP M71_ ((s + 1) - 1) (D + 1) (M_51.1 (12, 0, 0) 9).toInt T) ∧ v1_51y = 0 ∧ M_51y = M71_))))))
def ST_X12_term_51b (N : Nat) (m : Nat) (QA : mM → mM → Prop) (QB : mM → mM → Prop) (s : Int) (D : Nat) (T : Int) (Mz : mM) (v1_51 : Int32) (M_51 : mM) (v1_51y : Int32) (M_51y : mM) : Prop := (v1_51.toInt = 0 ∨ (2005 ≤ v1_51.toInt ∧ v1_51.toInt ≤ 2007)) ∧ (InvD M_51) ∧ (FR (S_par) Mz M_51) ∧ (0 ≤ isX v1_51 ∧ isX v1_51 ≤ 1) ∧ (0 < v1_51.toInt) ∧ ∃ M101_ : mM, (InvD M101_) ∧ (FR (S_par) M_51 M101_) ∧ (SP_X12_one N m QA QB (s + 1) (D + 1) ((M_51.1 (12, 0, 0) 9).toInt) T M_51 M101_) ∧ ∃ M110_ : mM, (InvD M110_) ∧ (FR (S_codes) M101_ M110_) ∧ (SP_X12_codes v1_51 (s + 1) ((D + 1) + 1) ((M_51.1 (12, 0, 0) 9).toInt) T (D + 1) M101_ M110_) ∧ ∃ M119_ : mM, (InvD M119_) ∧ (FR (S_here) M110_ M119_) ∧ (((SP_X12_takes 42 ((s + 1) - 1) (D + 1) ((M_51.1 (12, 0, 0) 9).toInt) T M110_ (1 : Int32) M119_) ∧ (PP M119_ (((s + 1) - 1) + 1) (D + 1) ((M_51.1 (12, 0, 0) 9).toInt + 1) T) ∧ v1_51y = 2005 ∧ M_51y = M119_) ∨ ((SP_X12_takes 42 ((s + 1) - 1) (D + 1) ((M_51.1 (12, 0, 0) 9).toInt) T M110_ (0 : Int32) M119_) ∧ ∃ M132_ : mM, (InvD M132_) ∧ (FR (S_here) M119_ M132_) ∧ (((SP_X12_takes 47 ((s + 1) - 1) (D + 1) ((M_51.1 (12, 0, 0) 9).toInt) T M119_ (1 : Int32) M132_) ∧ (PP M132_ (((s + 1) - 1) + 1) (D + 1) ((M_51.1 (12, 0, 0) 9).toInt + 1) T) ∧ v1_51y = 2006 ∧ M_51y = M132_) ∨ ((SP_X12_takes 47 ((s + 1) - 1) (D + 1) ((M_51.1 (12, 0, 0) 9).toInt) T M119_ (0 : Int32) M132_) ∧ ∃ M145_ : mM, (InvD M145_) ∧ (FR (S_here) M132_ M145_) ∧ (((SP_X12_takes 37 ((s + 1) - 1) (D + 1) ((M_51.1 (12, 0, 0) 9).toInt) T M132_ (1 : Int32) M145_) ∧ (PP M145_ (((s + 1) - 1) + 1) (D + 1) ((M_51.1 (12, 0, 0) 9).toInt + 1) T) ∧ v1_51y = 2007 ∧ M_51y = M145_) ∨ ((SP_X12_takes 37 ((s + 1) - 1) (D + 1) ((M_51.1 (12, 0, 0) 9).toInt) T M132_ (0 : Int32) M145_) ∧ (PP M145_ ((s + 1) - 1) (D + 1) (M_51.1 (12, 0, 0) 9).toInt T) ∧ v1_51y = 0 ∧ M_51y = M145_))))))
def ST_X12_term_51c (N : Nat) (m : Nat) (QA : mM → mM → Prop) (QB : mM → mM → Prop) (s : Int) (D : Nat) (T : Int) (Mz : mM) (v1_51 : Int32) (M_51 : mM) (v1_51y : Int32) (M_51y : mM) : Prop := (v1_51.toInt = 0 ∨ (2005 ≤ v1_51.toInt ∧ v1_51.toInt ≤ 2007)) ∧ (InvD M_51) ∧ (FR (S_par) Mz M_51) ∧ (0 ≤ isX v1_51 ∧ isX v1_51 ≤ 1) ∧ (0 < v1_51.toInt) ∧ ∃ M175_ : mM, (InvD M175_) ∧ (FR (S_par) M_51 M175_) ∧ (SP_X12_one N m QA QB (s + 1) (D + 1) ((M_51.1 (12, 0, 0) 9).toInt) T M_51 M175_) ∧ ∃ M184_ : mM, (InvD M184_) ∧ (FR (S_codes) M175_ M184_) ∧ (SP_X12_codes v1_51 (s + 1) ((D + 1) + 1) ((M_51.1 (12, 0, 0) 9).toInt) T (D + 1) M175_ M184_) ∧ ∃ M193_ : mM, (InvD M193_) ∧ (FR (S_here) M184_ M193_) ∧ (((SP_X12_takes 42 ((s + 1) - 1) (D + 1) ((M_51.1 (12, 0, 0) 9).toInt) T M184_ (1 : Int32) M193_) ∧ (PP M193_ (((s + 1) - 1) + 1) (D + 1) ((M_51.1 (12, 0, 0) 9).toInt + 1) T) ∧ v1_51y = 2005 ∧ M_51y = M193_) ∨ ((SP_X12_takes 42 ((s + 1) - 1) (D + 1) ((M_51.1 (12, 0, 0) 9).toInt) T M184_ (0 : Int32) M193_) ∧ ∃ M206_ : mM, (InvD M206_) ∧ (FR (S_here) M193_ M206_) ∧ (((SP_X12_takes 47 ((s + 1) - 1) (D + 1) ((M_51.1 (12, 0, 0) 9).toInt) T M193_ (1 : Int32) M206_) ∧ (PP M206_ (((s + 1) - 1) + 1) (D + 1) ((M_51.1 (12, 0, 0) 9).toInt + 1) T) ∧ v1_51y = 2006 ∧ M_51y = M206_) ∨ ((SP_X12_takes 47 ((s + 1) - 1) (D + 1) ((M_51.1 (12, 0, 0) 9).toInt) T M193_ (0 : Int32) M206_) ∧ ∃ M219_ : mM, (InvD M219_) ∧ (FR (S_here) M206_ M219_) ∧ (((SP_X12_takes 37 ((s + 1) - 1) (D + 1) ((M_51.1 (12, 0, 0) 9).toInt) T M206_ (1 : Int32) M219_) ∧ (PP M219_ (((s + 1) - 1) + 1) (D + 1) ((M_51.1 (12, 0, 0) 9).toInt + 1) T) ∧ v1_51y = 2007 ∧ M_51y = M219_) ∨ ((SP_X12_takes 37 ((s + 1) - 1) (D + 1) ((M_51.1 (12, 0, 0) 9).toInt) T M206_ (0 : Int32) M219_) ∧ (PP M219_ ((s + 1) - 1) (D + 1) (M_51.1 (12, 0, 0) 9).toInt T) ∧ v1_51y = 0 ∧ M_51y = M219_))))))
def ST_X12_term_51d (N : Nat) (m : Nat) (QA : mM → mM → Prop) (QB : mM → mM → Prop) (s : Int) (D : Nat) (T : Int) (Mz : mM) (v1_51 : Int32) (M_51 : mM) (v1_51y : Int32) (M_51y : mM) : Prop := (v1_51.toInt = 0 ∨ (2005 ≤ v1_51.toInt ∧ v1_51.toInt ≤ 2007)) ∧ (InvD M_51) ∧ (FR (S_par) Mz M_51) ∧ (0 ≤ isX v1_51 ∧ isX v1_51 ≤ 1) ∧ (0 < v1_51.toInt) ∧ ∃ M237_ : mM, (InvD M237_) ∧ (FR (S_par) M_51 M237_) ∧ (SP_X12_one N m QA QB (s + 1) (D + 1) ((M_51.1 (12, 0, 0) 9).toInt) T M_51 M237_) ∧ ∃ M246_ : mM, (InvD M246_) ∧ (FR (S_codes) M237_ M246_) ∧ (SP_X12_codes v1_51 (s + 1) ((D + 1) + 1) ((M_51.1 (12, 0, 0) 9).toInt) T (D + 1) M237_ M246_) ∧ ∃ M255_ : mM, (InvD M255_) ∧ (FR (S_here) M246_ M255_) ∧ (((SP_X12_takes 42 ((s + 1) - 1) (D + 1) ((M_51.1 (12, 0, 0) 9).toInt) T M246_ (1 : Int32) M255_) ∧ (PP M255_ (((s + 1) - 1) + 1) (D + 1) ((M_51.1 (12, 0, 0) 9).toInt + 1) T) ∧ v1_51y = 2005 ∧ M_51y = M255_) ∨ ((SP_X12_takes 42 ((s + 1) - 1) (D + 1) ((M_51.1 (12, 0, 0) 9).toInt) T M246_ (0 : Int32) M255_) ∧ ∃ M268_ : mM, (InvD M268_) ∧ (FR (S_here) M255_ M268_) ∧ (((SP_X12_takes 47 ((s + 1) - 1) (D + 1) ((M_51.1 (12, 0, 0) 9).toInt) T M255_ (1 : Int32) M268_) ∧ (PP M268_ (((s + 1) - 1) + 1) (D + 1) ((M_51.1 (12, 0, 0) 9).toInt + 1) T) ∧ v1_51y = 2006 ∧ M_51y = M268_) ∨ ((SP_X12_takes 47 ((s + 1) - 1) (D + 1) ((M_51.1 (12, 0, 0) 9).toInt) T M255_ (0 : Int32) M268_) ∧ ∃ M281_ : mM, (InvD M281_) ∧ (FR (S_here) M268_ M281_) ∧ (((SP_X12_takes 37 ((s + 1) - 1) (D + 1) ((M_51.1 (12, 0, 0) 9).toInt) T M268_ (1 : Int32) M281_) ∧ (PP M281_ (((s + 1) - 1) + 1) (D + 1) ((M_51.1 (12, 0, 0) 9).toInt + 1) T) ∧ v1_51y = 2007 ∧ M_51y = M281_) ∨ ((SP_X12_takes 37 ((s + 1) - 1) (D + 1) ((M_51.1 (12, 0, 0) 9).toInt) T M268_ (0 : Int32) M281_) ∧ (PP M281_ ((s + 1) - 1) (D + 1) (M_51.1 (12, 0, 0) 9).toInt T) ∧ v1_51y = 0 ∧ M_51y = M281_))))))
def SP_X12_term (N : Nat) (m : Nat) (QA : mM → mM → Prop) (QB : mM → mM → Prop) (s : Int) (D : Nat) (a : Int) (T : Int) (Mz : mM) (M_ : mM) : Prop := ∃ M1_ : mM, (InvD M1_) ∧ (FR (S_par) Mz M1_) ∧ (SP_X12_one N m QA QB s D a T Mz M1_) ∧ ∃ M11_ : mM, (InvD M11_) ∧ (FR (S_here) M1_ M11_) ∧ (((SP_X12_takes 42 s (D + 1) a T M1_ (1 : Int32) M11_) ∧ ∃ v1_51 : Int32, (v1_51.toInt = 0 ∨ (2005 ≤ v1_51.toInt ∧ v1_51.toInt ≤ 2007)) ∧ ∃ M_51 : mM, (RCH (fun x_ y_ => ST_X12_term_51 N m QA QB s D T Mz x_.1 x_.2 y_.1 y_.2) ((2005 : Int32), M11_) (v1_51, M_51)) ∧ (InvD M_51) ∧ (FR (S_par) Mz M_51) ∧ (PP M_51 (s + isX v1_51) (D + 1) a T) ∧ (0 ≤ isX v1_51 ∧ isX v1_51 ≤ 1) ∧ (v1_51.toInt ≤ 0) ∧ M_ = M_51) ∨ ((SP_X12_takes 42 s (D + 1) a T M1_ (0 : Int32) M11_) ∧ ∃ M85_ : mM, (InvD M85_) ∧ (FR (S_here) M11_ M85_) ∧ (((SP_X12_takes 47 s (D + 1) a T M11_ (1 : Int32) M85_) ∧ ∃ v1_51 : Int32, (v1_51.toInt = 0 ∨ (2005 ≤ v1_51.toInt ∧ v1_51.toInt ≤ 2007)) ∧ ∃ M_51 : mM, (RCH (fun x_ y_ => ST_X12_term_51b N m QA QB s D T Mz x_.1 x_.2 y_.1 y_.2) ((2006 : Int32), M85_) (v1_51, M_51)) ∧ (InvD M_51) ∧ (FR (S_par) Mz M_51) ∧ (PP M_51 (s + isX v1_51) (D + 1) a T) ∧ (0 ≤ isX v1_51 ∧ isX v1_51 ≤ 1) ∧ (v1_51.toInt ≤ 0) ∧ M_ = M_51) ∨ ((SP_X12_takes 47 s (D + 1) a T M11_ (0 : Int32) M85_) ∧ ∃ M159_ : mM, (InvD M159_) ∧ (FR (S_here) M85_ M159_) ∧ (((SP_X12_takes 37 s (D + 1) a T M85_ (1 : Int32) M159_) ∧ ∃ v1_51 : Int32, (v1_51.toInt = 0 ∨ (2005 ≤ v1_51.toInt ∧ v1_51.toInt ≤ 2007)) ∧ ∃ M_51 : mM, (RCH (fun x_ y_ => ST_X12_term_51c N m QA QB s D T Mz x_.1 x_.2 y_.1 y_.2) ((2007 : Int32), M159_) (v1_51, M_51)) ∧ (InvD M_51) ∧ (FR (S_par) Mz M_51) ∧ (PP M_51 (s + isX v1_51) (D + 1) a T) ∧ (0 ≤ isX v1_51 ∧ isX v1_51 ≤ 1) ∧ (v1_51.toInt ≤ 0) ∧ M_ = M_51) ∨ ((SP_X12_takes 37 s (D + 1) a T M85_ (0 : Int32) M159_) ∧ ∃ v1_51 : Int32, (v1_51.toInt = 0 ∨ (2005 ≤ v1_51.toInt ∧ v1_51.toInt ≤ 2007)) ∧ ∃ M_51 : mM, (RCH (fun x_ y_ => ST_X12_term_51d N m QA QB s D T Mz x_.1 x_.2 y_.1 y_.2) ((0 : Int32), M159_) (v1_51, M_51)) ∧ (InvD M_51) ∧ (FR (S_par) Mz M_51) ∧ (PP M_51 (s + isX v1_51) (D + 1) a T) ∧ (0 ≤ isX v1_51 ∧ isX v1_51 ≤ 1) ∧ (v1_51.toInt ≤ 0) ∧ M_ = M_51))))))
theorem lf_c_X12_term_0 (M_51 : mM) (s : Int) (D : Nat) (a : Int) (T : Int) (v1_51 : Int32) (hs : 0 ≤ s) (hv0_51 : v1_51.toInt = 0 ∨ (2005 ≤ v1_51.toInt ∧ v1_51.toInt ≤ 2007)) (hv1_51 : PP M_51 (s + isX v1_51) (D + 1) a T) (h23_ : 0 ≤ isX v1_51 ∧ isX v1_51 ≤ 1) (h24_ : v1_51.toInt ≤ 0) : s ≤ (s + isX v1_51) := by have r_v1_51 := rngI v1_51; omega
theorem lf_c_X12_term_2 (v1_51 : Int32) (h24_ : 0 < v1_51.toInt) : 0 < v1_51.toInt := by omega
theorem lf_c_X12_term_5 (v1_51 : Int32) (hv0_51 : v1_51.toInt = 0 ∨ (2005 ≤ v1_51.toInt ∧ v1_51.toInt ≤ 2007)) (h24_ : 0 < v1_51.toInt) : 2000 ≤ v1_51.toInt ∧ v1_51.toInt < 2008 := by omega
theorem lf_c_X12_term_6 : (2005 : Int32).toInt = 0 ∨ (2005 ≤ (2005 : Int32).toInt ∧ (2005 : Int32).toInt ≤ 2007) := by have q0 := li_2005; omega
theorem lf_c_X12_term_7 (M45_ : mM) (M_51 : mM) (s : Int) (D : Nat) (T : Int) (hs : 0 ≤ s) (h53_ : PP M45_ (((s + 1) - 1) + 1) (D + 1) ((M_51.1 (12, 0, 0) 9).toInt + 1) T) : (s + isX (2005 : Int32)) ≤ (((s + 1) - 1) + 1) := by have h9 := isX_p (v := (2005 : Int32)) (by decide); omega
theorem lf_c_X12_term_8 (M_51 : mM) (a : Int) (kf25_ : a ≤ (M_51.1 (12, 0, 0) 9).toInt) (kf25_ : a ≤ (M_51.1 (12, 0, 0) 9).toInt) : a ≤ ((M_51.1 (12, 0, 0) 9).toInt + 1) := by omega
theorem lf_c_X12_term_9 (M11_ : mM) (M1_ : mM) (M27_ : mM) (M36_ : mM) (M45_ : mM) (M_51 : mM) (Mz : mM) (m : Nat) (s : Int) (D : Nat) (a : Int) (T : Int) (hs : 0 ≤ s) (hk : (Mz.1 (12, 0, 0) 11).toInt + ((m : Nat) : Int) = 5) (hm : m ≤ 5) (kf9_ : (M1_.1 (12, 0, 0) 11).toInt + ((m : Nat) : Int) = 5) (kf18_ : (M11_.1 (12, 0, 0) 11).toInt + ((m : Nat) : Int) = 5) (kf20_ : M11_.1 (12, 0, 0) 13 = 0) (kv0_51 : (M_51.1 (12, 0, 0) 11).toInt + ((m : Nat) : Int) = 5) (kf25_ : a ≤ (M_51.1 (12, 0, 0) 9).toInt) (kf25_ : a ≤ (M_51.1 (12, 0, 0) 9).toInt) (kf35_ : (M27_.1 (12, 0, 0) 11).toInt + ((m : Nat) : Int) = 5) (kf43_ : (M36_.1 (12, 0, 0) 11).toInt + ((m : Nat) : Int) = 5) (kf52_ : (M45_.1 (12, 0, 0) 11).toInt + ((m : Nat) : Int) = 5) (h53_ : PP M45_ (((s + 1) - 1) + 1) (D + 1) ((M_51.1 (12, 0, 0) 9).toInt + 1) T) (kf54_ : M45_.1 (12, 0, 0) 13 = 0) : (M_51.1 (12, 0, 0) 9).toInt + isX (2005 : Int32) ≤ ((M_51.1 (12, 0, 0) 9).toInt + 1) := by have h9 := isX_p (v := (2005 : Int32)) (by decide); omega
theorem lf_c_X12_term_11 : (2006 : Int32).toInt = 0 ∨ (2005 ≤ (2006 : Int32).toInt ∧ (2006 : Int32).toInt ≤ 2007) := by have q0 := li_2006; omega
theorem lf_c_X12_term_12 (M58_ : mM) (M_51 : mM) (s : Int) (D : Nat) (T : Int) (hs : 0 ≤ s) (h66_ : PP M58_ (((s + 1) - 1) + 1) (D + 1) ((M_51.1 (12, 0, 0) 9).toInt + 1) T) : (s + isX (2006 : Int32)) ≤ (((s + 1) - 1) + 1) := by have h9 := isX_p (v := (2006 : Int32)) (by decide); omega
theorem lf_c_X12_term_14 (M11_ : mM) (M1_ : mM) (M27_ : mM) (M36_ : mM) (M45_ : mM) (M58_ : mM) (M_51 : mM) (Mz : mM) (m : Nat) (s : Int) (D : Nat) (a : Int) (T : Int) (hs : 0 ≤ s) (hk : (Mz.1 (12, 0, 0) 11).toInt + ((m : Nat) : Int) = 5) (hm : m ≤ 5) (kf9_ : (M1_.1 (12, 0, 0) 11).toInt + ((m : Nat) : Int) = 5) (kf18_ : (M11_.1 (12, 0, 0) 11).toInt + ((m : Nat) : Int) = 5) (kf20_ : M11_.1 (12, 0, 0) 13 = 0) (kv0_51 : (M_51.1 (12, 0, 0) 11).toInt + ((m : Nat) : Int) = 5) (kf25_ : a ≤ (M_51.1 (12, 0, 0) 9).toInt) (kf25_ : a ≤ (M_51.1 (12, 0, 0) 9).toInt) (kf35_ : (M27_.1 (12, 0, 0) 11).toInt + ((m : Nat) : Int) = 5) (kf43_ : (M36_.1 (12, 0, 0) 11).toInt + ((m : Nat) : Int) = 5) (kf52_ : (M45_.1 (12, 0, 0) 11).toInt + ((m : Nat) : Int) = 5) (kf65_ : (M58_.1 (12, 0, 0) 11).toInt + ((m : Nat) : Int) = 5) (h66_ : PP M58_ (((s + 1) - 1) + 1) (D + 1) ((M_51.1 (12, 0, 0) 9).toInt + 1) T) (kf67_ : M58_.1 (12, 0, 0) 13 = 0) : (M_51.1 (12, 0, 0) 9).toInt + isX (2006 : Int32) ≤ ((M_51.1 (12, 0, 0) 9).toInt + 1) := by have h9 := isX_p (v := (2006 : Int32)) (by decide); omega
theorem lf_c_X12_term_16 : (2007 : Int32).toInt = 0 ∨ (2005 ≤ (2007 : Int32).toInt ∧ (2007 : Int32).toInt ≤ 2007) := by have q0 := li_2007; omega
theorem lf_c_X12_term_17 (M71_ : mM) (M_51 : mM) (s : Int) (D : Nat) (T : Int) (hs : 0 ≤ s) (h79_ : PP M71_ (((s + 1) - 1) + 1) (D + 1) ((M_51.1 (12, 0, 0) 9).toInt + 1) T) : (s + isX (2007 : Int32)) ≤ (((s + 1) - 1) + 1) := by have h9 := isX_p (v := (2007 : Int32)) (by decide); omega
theorem lf_c_X12_term_19 (M11_ : mM) (M1_ : mM) (M27_ : mM) (M36_ : mM) (M45_ : mM) (M58_ : mM) (M71_ : mM) (M_51 : mM) (Mz : mM) (m : Nat) (s : Int) (D : Nat) (a : Int) (T : Int) (hs : 0 ≤ s) (hk : (Mz.1 (12, 0, 0) 11).toInt + ((m : Nat) : Int) = 5) (hm : m ≤ 5) (kf9_ : (M1_.1 (12, 0, 0) 11).toInt + ((m : Nat) : Int) = 5) (kf18_ : (M11_.1 (12, 0, 0) 11).toInt + ((m : Nat) : Int) = 5) (kf20_ : M11_.1 (12, 0, 0) 13 = 0) (kv0_51 : (M_51.1 (12, 0, 0) 11).toInt + ((m : Nat) : Int) = 5) (kf25_ : a ≤ (M_51.1 (12, 0, 0) 9).toInt) (kf25_ : a ≤ (M_51.1 (12, 0, 0) 9).toInt) (kf35_ : (M27_.1 (12, 0, 0) 11).toInt + ((m : Nat) : Int) = 5) (kf43_ : (M36_.1 (12, 0, 0) 11).toInt + ((m : Nat) : Int) = 5) (kf52_ : (M45_.1 (12, 0, 0) 11).toInt + ((m : Nat) : Int) = 5) (kf65_ : (M58_.1 (12, 0, 0) 11).toInt + ((m : Nat) : Int) = 5) (kf78_ : (M71_.1 (12, 0, 0) 11).toInt + ((m : Nat) : Int) = 5) (h79_ : PP M71_ (((s + 1) - 1) + 1) (D + 1) ((M_51.1 (12, 0, 0) 9).toInt + 1) T) (kf80_ : M71_.1 (12, 0, 0) 13 = 0) : (M_51.1 (12, 0, 0) 9).toInt + isX (2007 : Int32) ≤ ((M_51.1 (12, 0, 0) 9).toInt + 1) := by have h9 := isX_p (v := (2007 : Int32)) (by decide); omega
theorem lf_c_X12_term_21 : (0 : Int32).toInt = 0 ∨ (2005 ≤ (0 : Int32).toInt ∧ (0 : Int32).toInt ≤ 2007) := by have q0 := li_0; omega
theorem lf_c_X12_term_22 (M71_ : mM) (M_51 : mM) (s : Int) (D : Nat) (T : Int) (hs : 0 ≤ s) (h73_ : PP M71_ ((s + 1) - 1) (D + 1) (M_51.1 (12, 0, 0) 9).toInt T) : (s + isX (0 : Int32)) ≤ ((s + 1) - 1) := by have h9 := isX_0 (v := (0 : Int32)) (by decide); omega
theorem lf_c_X12_term_23 (M_51 : mM) (a : Int) (kf25_ : a ≤ (M_51.1 (12, 0, 0) 9).toInt) (kf25_ : a ≤ (M_51.1 (12, 0, 0) 9).toInt) : a ≤ (M_51.1 (12, 0, 0) 9).toInt := by omega
theorem lf_c_X12_term_24 (M11_ : mM) (M1_ : mM) (M27_ : mM) (M36_ : mM) (M45_ : mM) (M58_ : mM) (M71_ : mM) (M_51 : mM) (Mz : mM) (m : Nat) (s : Int) (D : Nat) (a : Int) (T : Int) (hs : 0 ≤ s) (hk : (Mz.1 (12, 0, 0) 11).toInt + ((m : Nat) : Int) = 5) (hm : m ≤ 5) (kf9_ : (M1_.1 (12, 0, 0) 11).toInt + ((m : Nat) : Int) = 5) (kf18_ : (M11_.1 (12, 0, 0) 11).toInt + ((m : Nat) : Int) = 5) (kf20_ : M11_.1 (12, 0, 0) 13 = 0) (kv0_51 : (M_51.1 (12, 0, 0) 11).toInt + ((m : Nat) : Int) = 5) (kf25_ : a ≤ (M_51.1 (12, 0, 0) 9).toInt) (kf25_ : a ≤ (M_51.1 (12, 0, 0) 9).toInt) (kf35_ : (M27_.1 (12, 0, 0) 11).toInt + ((m : Nat) : Int) = 5) (kf43_ : (M36_.1 (12, 0, 0) 11).toInt + ((m : Nat) : Int) = 5) (kf52_ : (M45_.1 (12, 0, 0) 11).toInt + ((m : Nat) : Int) = 5) (kf65_ : (M58_.1 (12, 0, 0) 11).toInt + ((m : Nat) : Int) = 5) (kf78_ : (M71_.1 (12, 0, 0) 11).toInt + ((m : Nat) : Int) = 5) (h73_ : PP M71_ ((s + 1) - 1) (D + 1) (M_51.1 (12, 0, 0) 9).toInt T) : (M_51.1 (12, 0, 0) 9).toInt + isX (0 : Int32) ≤ (M_51.1 (12, 0, 0) 9).toInt := by have h9 := isX_0 (v := (0 : Int32)) (by decide); omega
theorem lf_c_X12_term_27 (M11_ : mM) (s : Int) (D : Nat) (a : Int) (T : Int) (hs : 0 ≤ s) (h19_ : PP M11_ (s + 1) (D + 1) (a + 1) T) : (s + isX (2005 : Int32)) ≤ (s + 1) := by have h9 := isX_p (v := (2005 : Int32)) (by decide); omega
theorem lf_c_X12_term_38 (M101_ : mM) (M110_ : mM) (M119_ : mM) (M11_ : mM) (M1_ : mM) (M85_ : mM) (M_51 : mM) (Mz : mM) (m : Nat) (s : Int) (D : Nat) (a : Int) (T : Int) (hs : 0 ≤ s) (hk : (Mz.1 (12, 0, 0) 11).toInt + ((m : Nat) : Int) = 5) (hm : m ≤ 5) (kf9_ : (M1_.1 (12, 0, 0) 11).toInt + ((m : Nat) : Int) = 5) (kf18_ : (M11_.1 (12, 0, 0) 11).toInt + ((m : Nat) : Int) = 5) (kf92_ : (M85_.1 (12, 0, 0) 11).toInt + ((m : Nat) : Int) = 5) (kf94_ : M85_.1 (12, 0, 0) 13 = 0) (kv0_51 : (M_51.1 (12, 0, 0) 11).toInt + ((m : Nat) : Int) = 5) (kf99_ : a ≤ (M_51.1 (12, 0, 0) 9).toInt) (kf99_ : a ≤ (M_51.1 (12, 0, 0) 9).toInt) (kf109_ : (M101_.1 (12, 0, 0) 11).toInt + ((m : Nat) : Int) = 5) (kf117_ : (M110_.1 (12, 0, 0) 11).toInt + ((m : Nat) : Int) = 5) (kf126_ : (M119_.1 (12, 0, 0) 11).toInt + ((m : Nat) : Int) = 5) (h127_ : PP M119_ (((s + 1) - 1) + 1) (D + 1) ((M_51.1 (12, 0, 0) 9).toInt + 1) T) (kf128_ : M119_.1 (12, 0, 0) 13 = 0) : (M_51.1 (12, 0, 0) 9).toInt + isX (2005 : Int32) ≤ ((M_51.1 (12, 0, 0) 9).toInt + 1) := by have h9 := isX_p (v := (2005 : Int32)) (by decide); omega
theorem lf_c_X12_term_43 (M101_ : mM) (M110_ : mM) (M119_ : mM) (M11_ : mM) (M132_ : mM) (M1_ : mM) (M85_ : mM) (M_51 : mM) (Mz : mM) (m : Nat) (s : Int) (D : Nat) (a : Int) (T : Int) (hs : 0 ≤ s) (hk : (Mz.1 (12, 0, 0) 11).toInt + ((m : Nat) : Int) = 5) (hm : m ≤ 5) (kf9_ : (M1_.1 (12, 0, 0) 11).toInt + ((m : Nat) : Int) = 5) (kf18_ : (M11_.1 (12, 0, 0) 11).toInt + ((m : Nat) : Int) = 5) (kf92_ : (M85_.1 (12, 0, 0) 11).toInt + ((m : Nat) : Int) = 5) (kf94_ : M85_.1 (12, 0, 0) 13 = 0) (kv0_51 : (M_51.1 (12, 0, 0) 11).toInt + ((m : Nat) : Int) = 5) (kf99_ : a ≤ (M_51.1 (12, 0, 0) 9).toInt) (kf99_ : a ≤ (M_51.1 (12, 0, 0) 9).toInt) (kf109_ : (M101_.1 (12, 0, 0) 11).toInt + ((m : Nat) : Int) = 5) (kf117_ : (M110_.1 (12, 0, 0) 11).toInt + ((m : Nat) : Int) = 5) (kf126_ : (M119_.1 (12, 0, 0) 11).toInt + ((m : Nat) : Int) = 5) (kf139_ : (M132_.1 (12, 0, 0) 11).toInt + ((m : Nat) : Int) = 5) (h140_ : PP M132_ (((s + 1) - 1) + 1) (D + 1) ((M_51.1 (12, 0, 0) 9).toInt + 1) T) (kf141_ : M132_.1 (12, 0, 0) 13 = 0) : (M_51.1 (12, 0, 0) 9).toInt + isX (2006 : Int32) ≤ ((M_51.1 (12, 0, 0) 9).toInt + 1) := by have h9 := isX_p (v := (2006 : Int32)) (by decide); omega
theorem lf_c_X12_term_48 (M101_ : mM) (M110_ : mM) (M119_ : mM) (M11_ : mM) (M132_ : mM) (M145_ : mM) (M1_ : mM) (M85_ : mM) (M_51 : mM) (Mz : mM) (m : Nat) (s : Int) (D : Nat) (a : Int) (T : Int) (hs : 0 ≤ s) (hk : (Mz.1 (12, 0, 0) 11).toInt + ((m : Nat) : Int) = 5) (hm : m ≤ 5) (kf9_ : (M1_.1 (12, 0, 0) 11).toInt + ((m : Nat) : Int) = 5) (kf18_ : (M11_.1 (12, 0, 0) 11).toInt + ((m : Nat) : Int) = 5) (kf92_ : (M85_.1 (12, 0, 0) 11).toInt + ((m : Nat) : Int) = 5) (kf94_ : M85_.1 (12, 0, 0) 13 = 0) (kv0_51 : (M_51.1 (12, 0, 0) 11).toInt + ((m : Nat) : Int) = 5) (kf99_ : a ≤ (M_51.1 (12, 0, 0) 9).toInt) (kf99_ : a ≤ (M_51.1 (12, 0, 0) 9).toInt) (kf109_ : (M101_.1 (12, 0, 0) 11).toInt + ((m : Nat) : Int) = 5) (kf117_ : (M110_.1 (12, 0, 0) 11).toInt + ((m : Nat) : Int) = 5) (kf126_ : (M119_.1 (12, 0, 0) 11).toInt + ((m : Nat) : Int) = 5) (kf139_ : (M132_.1 (12, 0, 0) 11).toInt + ((m : Nat) : Int) = 5) (kf152_ : (M145_.1 (12, 0, 0) 11).toInt + ((m : Nat) : Int) = 5) (h153_ : PP M145_ (((s + 1) - 1) + 1) (D + 1) ((M_51.1 (12, 0, 0) 9).toInt + 1) T) (kf154_ : M145_.1 (12, 0, 0) 13 = 0) : (M_51.1 (12, 0, 0) 9).toInt + isX (2007 : Int32) ≤ ((M_51.1 (12, 0, 0) 9).toInt + 1) := by have h9 := isX_p (v := (2007 : Int32)) (by decide); omega
theorem lf_c_X12_term_53 (M101_ : mM) (M110_ : mM) (M119_ : mM) (M11_ : mM) (M132_ : mM) (M145_ : mM) (M1_ : mM) (M85_ : mM) (M_51 : mM) (Mz : mM) (m : Nat) (s : Int) (D : Nat) (a : Int) (T : Int) (hs : 0 ≤ s) (hk : (Mz.1 (12, 0, 0) 11).toInt + ((m : Nat) : Int) = 5) (hm : m ≤ 5) (kf9_ : (M1_.1 (12, 0, 0) 11).toInt + ((m : Nat) : Int) = 5) (kf18_ : (M11_.1 (12, 0, 0) 11).toInt + ((m : Nat) : Int) = 5) (kf92_ : (M85_.1 (12, 0, 0) 11).toInt + ((m : Nat) : Int) = 5) (kf94_ : M85_.1 (12, 0, 0) 13 = 0) (kv0_51 : (M_51.1 (12, 0, 0) 11).toInt + ((m : Nat) : Int) = 5) (kf99_ : a ≤ (M_51.1 (12, 0, 0) 9).toInt) (kf99_ : a ≤ (M_51.1 (12, 0, 0) 9).toInt) (kf109_ : (M101_.1 (12, 0, 0) 11).toInt + ((m : Nat) : Int) = 5) (kf117_ : (M110_.1 (12, 0, 0) 11).toInt + ((m : Nat) : Int) = 5) (kf126_ : (M119_.1 (12, 0, 0) 11).toInt + ((m : Nat) : Int) = 5) (kf139_ : (M132_.1 (12, 0, 0) 11).toInt + ((m : Nat) : Int) = 5) (kf152_ : (M145_.1 (12, 0, 0) 11).toInt + ((m : Nat) : Int) = 5) (h147_ : PP M145_ ((s + 1) - 1) (D + 1) (M_51.1 (12, 0, 0) 9).toInt T) : (M_51.1 (12, 0, 0) 9).toInt + isX (0 : Int32) ≤ (M_51.1 (12, 0, 0) 9).toInt := by have h9 := isX_0 (v := (0 : Int32)) (by decide); omega
theorem lf_c_X12_term_56 (M85_ : mM) (s : Int) (D : Nat) (a : Int) (T : Int) (hs : 0 ≤ s) (h93_ : PP M85_ (s + 1) (D + 1) (a + 1) T) : (s + isX (2006 : Int32)) ≤ (s + 1) := by have h9 := isX_p (v := (2006 : Int32)) (by decide); omega
theorem lf_c_X12_term_67 (M11_ : mM) (M159_ : mM) (M175_ : mM) (M184_ : mM) (M193_ : mM) (M1_ : mM) (M85_ : mM) (M_51 : mM) (Mz : mM) (m : Nat) (s : Int) (D : Nat) (a : Int) (T : Int) (hs : 0 ≤ s) (hk : (Mz.1 (12, 0, 0) 11).toInt + ((m : Nat) : Int) = 5) (hm : m ≤ 5) (kf9_ : (M1_.1 (12, 0, 0) 11).toInt + ((m : Nat) : Int) = 5) (kf18_ : (M11_.1 (12, 0, 0) 11).toInt + ((m : Nat) : Int) = 5) (kf92_ : (M85_.1 (12, 0, 0) 11).toInt + ((m : Nat) : Int) = 5) (kf166_ : (M159_.1 (12, 0, 0) 11).toInt + ((m : Nat) : Int) = 5) (kf168_ : M159_.1 (12, 0, 0) 13 = 0) (kv0_51 : (M_51.1 (12, 0, 0) 11).toInt + ((m : Nat) : Int) = 5) (kf173_ : a ≤ (M_51.1 (12, 0, 0) 9).toInt) (kf173_ : a ≤ (M_51.1 (12, 0, 0) 9).toInt) (kf183_ : (M175_.1 (12, 0, 0) 11).toInt + ((m : Nat) : Int) = 5) (kf191_ : (M184_.1 (12, 0, 0) 11).toInt + ((m : Nat) : Int) = 5) (kf200_ : (M193_.1 (12, 0, 0) 11).toInt + ((m : Nat) : Int) = 5) (h201_ : PP M193_ (((s + 1) - 1) + 1) (D + 1) ((M_51.1 (12, 0, 0) 9).toInt + 1) T) (kf202_ : M193_.1 (12, 0, 0) 13 = 0) : (M_51.1 (12, 0, 0) 9).toInt + isX (2005 : Int32) ≤ ((M_51.1 (12, 0, 0) 9).toInt + 1) := by have h9 := isX_p (v := (2005 : Int32)) (by decide); omega
theorem lf_c_X12_term_72 (M11_ : mM) (M159_ : mM) (M175_ : mM) (M184_ : mM) (M193_ : mM) (M1_ : mM) (M206_ : mM) (M85_ : mM) (M_51 : mM) (Mz : mM) (m : Nat) (s : Int) (D : Nat) (a : Int) (T : Int) (hs : 0 ≤ s) (hk : (Mz.1 (12, 0, 0) 11).toInt + ((m : Nat) : Int) = 5) (hm : m ≤ 5) (kf9_ : (M1_.1 (12, 0, 0) 11).toInt + ((m : Nat) : Int) = 5) (kf18_ : (M11_.1 (12, 0, 0) 11).toInt + ((m : Nat) : Int) = 5) (kf92_ : (M85_.1 (12, 0, 0) 11).toInt + ((m : Nat) : Int) = 5) (kf166_ : (M159_.1 (12, 0, 0) 11).toInt + ((m : Nat) : Int) = 5) (kf168_ : M159_.1 (12, 0, 0) 13 = 0) (kv0_51 : (M_51.1 (12, 0, 0) 11).toInt + ((m : Nat) : Int) = 5) (kf173_ : a ≤ (M_51.1 (12, 0, 0) 9).toInt) (kf173_ : a ≤ (M_51.1 (12, 0, 0) 9).toInt) (kf183_ : (M175_.1 (12, 0, 0) 11).toInt + ((m : Nat) : Int) = 5) (kf191_ : (M184_.1 (12, 0, 0) 11).toInt + ((m : Nat) : Int) = 5) (kf200_ : (M193_.1 (12, 0, 0) 11).toInt + ((m : Nat) : Int) = 5) (kf213_ : (M206_.1 (12, 0, 0) 11).toInt + ((m : Nat) : Int) = 5) (h214_ : PP M206_ (((s + 1) - 1) + 1) (D + 1) ((M_51.1 (12, 0, 0) 9).toInt + 1) T) (kf215_ : M206_.1 (12, 0, 0) 13 = 0) : (M_51.1 (12, 0, 0) 9).toInt + isX (2006 : Int32) ≤ ((M_51.1 (12, 0, 0) 9).toInt + 1) := by have h9 := isX_p (v := (2006 : Int32)) (by decide); omega
theorem lf_c_X12_term_77 (M11_ : mM) (M159_ : mM) (M175_ : mM) (M184_ : mM) (M193_ : mM) (M1_ : mM) (M206_ : mM) (M219_ : mM) (M85_ : mM) (M_51 : mM) (Mz : mM) (m : Nat) (s : Int) (D : Nat) (a : Int) (T : Int) (hs : 0 ≤ s) (hk : (Mz.1 (12, 0, 0) 11).toInt + ((m : Nat) : Int) = 5) (hm : m ≤ 5) (kf9_ : (M1_.1 (12, 0, 0) 11).toInt + ((m : Nat) : Int) = 5) (kf18_ : (M11_.1 (12, 0, 0) 11).toInt + ((m : Nat) : Int) = 5) (kf92_ : (M85_.1 (12, 0, 0) 11).toInt + ((m : Nat) : Int) = 5) (kf166_ : (M159_.1 (12, 0, 0) 11).toInt + ((m : Nat) : Int) = 5) (kf168_ : M159_.1 (12, 0, 0) 13 = 0) (kv0_51 : (M_51.1 (12, 0, 0) 11).toInt + ((m : Nat) : Int) = 5) (kf173_ : a ≤ (M_51.1 (12, 0, 0) 9).toInt) (kf173_ : a ≤ (M_51.1 (12, 0, 0) 9).toInt) (kf183_ : (M175_.1 (12, 0, 0) 11).toInt + ((m : Nat) : Int) = 5) (kf191_ : (M184_.1 (12, 0, 0) 11).toInt + ((m : Nat) : Int) = 5) (kf200_ : (M193_.1 (12, 0, 0) 11).toInt + ((m : Nat) : Int) = 5) (kf213_ : (M206_.1 (12, 0, 0) 11).toInt + ((m : Nat) : Int) = 5) (kf226_ : (M219_.1 (12, 0, 0) 11).toInt + ((m : Nat) : Int) = 5) (h227_ : PP M219_ (((s + 1) - 1) + 1) (D + 1) ((M_51.1 (12, 0, 0) 9).toInt + 1) T) (kf228_ : M219_.1 (12, 0, 0) 13 = 0) : (M_51.1 (12, 0, 0) 9).toInt + isX (2007 : Int32) ≤ ((M_51.1 (12, 0, 0) 9).toInt + 1) := by have h9 := isX_p (v := (2007 : Int32)) (by decide); omega
theorem lf_c_X12_term_82 (M11_ : mM) (M159_ : mM) (M175_ : mM) (M184_ : mM) (M193_ : mM) (M1_ : mM) (M206_ : mM) (M219_ : mM) (M85_ : mM) (M_51 : mM) (Mz : mM) (m : Nat) (s : Int) (D : Nat) (a : Int) (T : Int) (hs : 0 ≤ s) (hk : (Mz.1 (12, 0, 0) 11).toInt + ((m : Nat) : Int) = 5) (hm : m ≤ 5) (kf9_ : (M1_.1 (12, 0, 0) 11).toInt + ((m : Nat) : Int) = 5) (kf18_ : (M11_.1 (12, 0, 0) 11).toInt + ((m : Nat) : Int) = 5) (kf92_ : (M85_.1 (12, 0, 0) 11).toInt + ((m : Nat) : Int) = 5) (kf166_ : (M159_.1 (12, 0, 0) 11).toInt + ((m : Nat) : Int) = 5) (kf168_ : M159_.1 (12, 0, 0) 13 = 0) (kv0_51 : (M_51.1 (12, 0, 0) 11).toInt + ((m : Nat) : Int) = 5) (kf173_ : a ≤ (M_51.1 (12, 0, 0) 9).toInt) (kf173_ : a ≤ (M_51.1 (12, 0, 0) 9).toInt) (kf183_ : (M175_.1 (12, 0, 0) 11).toInt + ((m : Nat) : Int) = 5) (kf191_ : (M184_.1 (12, 0, 0) 11).toInt + ((m : Nat) : Int) = 5) (kf200_ : (M193_.1 (12, 0, 0) 11).toInt + ((m : Nat) : Int) = 5) (kf213_ : (M206_.1 (12, 0, 0) 11).toInt + ((m : Nat) : Int) = 5) (kf226_ : (M219_.1 (12, 0, 0) 11).toInt + ((m : Nat) : Int) = 5) (h221_ : PP M219_ ((s + 1) - 1) (D + 1) (M_51.1 (12, 0, 0) 9).toInt T) : (M_51.1 (12, 0, 0) 9).toInt + isX (0 : Int32) ≤ (M_51.1 (12, 0, 0) 9).toInt := by have h9 := isX_0 (v := (0 : Int32)) (by decide); omega
theorem lf_c_X12_term_85 (M159_ : mM) (s : Int) (D : Nat) (a : Int) (T : Int) (hs : 0 ≤ s) (h167_ : PP M159_ (s + 1) (D + 1) (a + 1) T) : (s + isX (2007 : Int32)) ≤ (s + 1) := by have h9 := isX_p (v := (2007 : Int32)) (by decide); omega
theorem lf_c_X12_term_96 (M11_ : mM) (M159_ : mM) (M1_ : mM) (M237_ : mM) (M246_ : mM) (M255_ : mM) (M85_ : mM) (M_51 : mM) (Mz : mM) (m : Nat) (s : Int) (D : Nat) (a : Int) (T : Int) (hs : 0 ≤ s) (hk : (Mz.1 (12, 0, 0) 11).toInt + ((m : Nat) : Int) = 5) (hm : m ≤ 5) (kf9_ : (M1_.1 (12, 0, 0) 11).toInt + ((m : Nat) : Int) = 5) (kf18_ : (M11_.1 (12, 0, 0) 11).toInt + ((m : Nat) : Int) = 5) (kf92_ : (M85_.1 (12, 0, 0) 11).toInt + ((m : Nat) : Int) = 5) (kf166_ : (M159_.1 (12, 0, 0) 11).toInt + ((m : Nat) : Int) = 5) (kv0_51 : (M_51.1 (12, 0, 0) 11).toInt + ((m : Nat) : Int) = 5) (kf235_ : a ≤ (M_51.1 (12, 0, 0) 9).toInt) (kf235_ : a ≤ (M_51.1 (12, 0, 0) 9).toInt) (kf245_ : (M237_.1 (12, 0, 0) 11).toInt + ((m : Nat) : Int) = 5) (kf253_ : (M246_.1 (12, 0, 0) 11).toInt + ((m : Nat) : Int) = 5) (kf262_ : (M255_.1 (12, 0, 0) 11).toInt + ((m : Nat) : Int) = 5) (h263_ : PP M255_ (((s + 1) - 1) + 1) (D + 1) ((M_51.1 (12, 0, 0) 9).toInt + 1) T) (kf264_ : M255_.1 (12, 0, 0) 13 = 0) : (M_51.1 (12, 0, 0) 9).toInt + isX (2005 : Int32) ≤ ((M_51.1 (12, 0, 0) 9).toInt + 1) := by have h9 := isX_p (v := (2005 : Int32)) (by decide); omega
theorem lf_c_X12_term_101 (M11_ : mM) (M159_ : mM) (M1_ : mM) (M237_ : mM) (M246_ : mM) (M255_ : mM) (M268_ : mM) (M85_ : mM) (M_51 : mM) (Mz : mM) (m : Nat) (s : Int) (D : Nat) (a : Int) (T : Int) (hs : 0 ≤ s) (hk : (Mz.1 (12, 0, 0) 11).toInt + ((m : Nat) : Int) = 5) (hm : m ≤ 5) (kf9_ : (M1_.1 (12, 0, 0) 11).toInt + ((m : Nat) : Int) = 5) (kf18_ : (M11_.1 (12, 0, 0) 11).toInt + ((m : Nat) : Int) = 5) (kf92_ : (M85_.1 (12, 0, 0) 11).toInt + ((m : Nat) : Int) = 5) (kf166_ : (M159_.1 (12, 0, 0) 11).toInt + ((m : Nat) : Int) = 5) (kv0_51 : (M_51.1 (12, 0, 0) 11).toInt + ((m : Nat) : Int) = 5) (kf235_ : a ≤ (M_51.1 (12, 0, 0) 9).toInt) (kf235_ : a ≤ (M_51.1 (12, 0, 0) 9).toInt) (kf245_ : (M237_.1 (12, 0, 0) 11).toInt + ((m : Nat) : Int) = 5) (kf253_ : (M246_.1 (12, 0, 0) 11).toInt + ((m : Nat) : Int) = 5) (kf262_ : (M255_.1 (12, 0, 0) 11).toInt + ((m : Nat) : Int) = 5) (kf275_ : (M268_.1 (12, 0, 0) 11).toInt + ((m : Nat) : Int) = 5) (h276_ : PP M268_ (((s + 1) - 1) + 1) (D + 1) ((M_51.1 (12, 0, 0) 9).toInt + 1) T) (kf277_ : M268_.1 (12, 0, 0) 13 = 0) : (M_51.1 (12, 0, 0) 9).toInt + isX (2006 : Int32) ≤ ((M_51.1 (12, 0, 0) 9).toInt + 1) := by have h9 := isX_p (v := (2006 : Int32)) (by decide); omega
theorem lf_c_X12_term_106 (M11_ : mM) (M159_ : mM) (M1_ : mM) (M237_ : mM) (M246_ : mM) (M255_ : mM) (M268_ : mM) (M281_ : mM) (M85_ : mM) (M_51 : mM) (Mz : mM) (m : Nat) (s : Int) (D : Nat) (a : Int) (T : Int) (hs : 0 ≤ s) (hk : (Mz.1 (12, 0, 0) 11).toInt + ((m : Nat) : Int) = 5) (hm : m ≤ 5) (kf9_ : (M1_.1 (12, 0, 0) 11).toInt + ((m : Nat) : Int) = 5) (kf18_ : (M11_.1 (12, 0, 0) 11).toInt + ((m : Nat) : Int) = 5) (kf92_ : (M85_.1 (12, 0, 0) 11).toInt + ((m : Nat) : Int) = 5) (kf166_ : (M159_.1 (12, 0, 0) 11).toInt + ((m : Nat) : Int) = 5) (kv0_51 : (M_51.1 (12, 0, 0) 11).toInt + ((m : Nat) : Int) = 5) (kf235_ : a ≤ (M_51.1 (12, 0, 0) 9).toInt) (kf235_ : a ≤ (M_51.1 (12, 0, 0) 9).toInt) (kf245_ : (M237_.1 (12, 0, 0) 11).toInt + ((m : Nat) : Int) = 5) (kf253_ : (M246_.1 (12, 0, 0) 11).toInt + ((m : Nat) : Int) = 5) (kf262_ : (M255_.1 (12, 0, 0) 11).toInt + ((m : Nat) : Int) = 5) (kf275_ : (M268_.1 (12, 0, 0) 11).toInt + ((m : Nat) : Int) = 5) (kf288_ : (M281_.1 (12, 0, 0) 11).toInt + ((m : Nat) : Int) = 5) (h289_ : PP M281_ (((s + 1) - 1) + 1) (D + 1) ((M_51.1 (12, 0, 0) 9).toInt + 1) T) (kf290_ : M281_.1 (12, 0, 0) 13 = 0) : (M_51.1 (12, 0, 0) 9).toInt + isX (2007 : Int32) ≤ ((M_51.1 (12, 0, 0) 9).toInt + 1) := by have h9 := isX_p (v := (2007 : Int32)) (by decide); omega
theorem lf_c_X12_term_111 (M11_ : mM) (M159_ : mM) (M1_ : mM) (M237_ : mM) (M246_ : mM) (M255_ : mM) (M268_ : mM) (M281_ : mM) (M85_ : mM) (M_51 : mM) (Mz : mM) (m : Nat) (s : Int) (D : Nat) (a : Int) (T : Int) (hs : 0 ≤ s) (hk : (Mz.1 (12, 0, 0) 11).toInt + ((m : Nat) : Int) = 5) (hm : m ≤ 5) (kf9_ : (M1_.1 (12, 0, 0) 11).toInt + ((m : Nat) : Int) = 5) (kf18_ : (M11_.1 (12, 0, 0) 11).toInt + ((m : Nat) : Int) = 5) (kf92_ : (M85_.1 (12, 0, 0) 11).toInt + ((m : Nat) : Int) = 5) (kf166_ : (M159_.1 (12, 0, 0) 11).toInt + ((m : Nat) : Int) = 5) (kv0_51 : (M_51.1 (12, 0, 0) 11).toInt + ((m : Nat) : Int) = 5) (kf235_ : a ≤ (M_51.1 (12, 0, 0) 9).toInt) (kf235_ : a ≤ (M_51.1 (12, 0, 0) 9).toInt) (kf245_ : (M237_.1 (12, 0, 0) 11).toInt + ((m : Nat) : Int) = 5) (kf253_ : (M246_.1 (12, 0, 0) 11).toInt + ((m : Nat) : Int) = 5) (kf262_ : (M255_.1 (12, 0, 0) 11).toInt + ((m : Nat) : Int) = 5) (kf275_ : (M268_.1 (12, 0, 0) 11).toInt + ((m : Nat) : Int) = 5) (kf288_ : (M281_.1 (12, 0, 0) 11).toInt + ((m : Nat) : Int) = 5) (h283_ : PP M281_ ((s + 1) - 1) (D + 1) (M_51.1 (12, 0, 0) 9).toInt T) : (M_51.1 (12, 0, 0) 9).toInt + isX (0 : Int32) ≤ (M_51.1 (12, 0, 0) 9).toInt := by have h9 := isX_0 (v := (0 : Int32)) (by decide); omega
theorem lf_c_X12_term_114 (M159_ : mM) (s : Int) (D : Nat) (a : Int) (T : Int) (hs : 0 ≤ s) (h161_ : PP M159_ s (D + 1) a T) : (s + isX (0 : Int32)) ≤ s := by have h9 := isX_0 (v := (0 : Int32)) (by decide); omega
set_option maxHeartbeats 4000000 in
set_option maxRecDepth 100000 in
theorem c_X12_term (l : Launch) (G : va_G) (cy : Nat → ClassId) (ad : rf → Nat) (d : Nat) (N : Nat) (m : Nat) (QA : mM → mM → Prop) (QB : mM → mM → Prop) (s : Int) (D : Nat) (a : Int) (T : Int) (Mz : mM) (hIz : InvD Mz) (hA : ∀ k : Nat, k + 1 = m → ONED l G cy ad N k QA) (hB : ∀ k : Nat, k + 1 = m → TXTD l G cy ad N k QB) (hp : PP Mz s D a T) (hs : 0 ≤ s) (hk : (Mz.1 (12, 0, 0) 11).toInt + ((m : Nat) : Int) = 5) (hm : m ≤ 5) : WP DD l G cy ad yX12_term cX12_term 2 none ((N + d) + 10) 0 [(0, vR (12, 0, 0))] [] Mz (fun r M' => InvD M' ∧ FR (S_par) Mz M' ∧ (PP M' s (D + 1) a T ∧ (M'.1 (12, 0, 0) 11).toInt + ((m : Nat) : Int) = 5) ∧ SP_X12_term N m QA QB s D a T Mz M') := by
  have hFz : FR (S_par) Mz Mz := FR.self
  refine w_aload_n dX12_term_0 rfl 0 rfl ?_
  refine w_callVv (as := []) (rest := []) (c_X12_one l G cy ad d N m QA QB s D a T Mz hIz hA hB hp hs hk hm) kV_X12_one pnn_17 (Nat.le_of_ble_eq_true rfl) m_1571 rfl rfl rfl ic_12 rfl rfl (by decide) (Nat.le_of_ble_eq_true rfl) dX12_term_1 (fun M1_ q2_ => ?_)
  obtain ⟨hI4_, hF5_, h3_, hs7_⟩ := q2_
  have hF6_ := hFz.tr hF5_ (fun c k => (fun h => h.elim (fun h => (Or.inl ⟨h.1, h.2.1, h.2.2⟩)) (fun h => h.elim (fun h => (Or.inr (Or.inl ⟨h.1, h.2.1, h.2.2⟩))) (fun h => h.elim (fun h => (Or.inr (Or.inr (Or.inl ⟨h.1, h.2.1, h.2.2⟩)))) (fun h => h.elim (fun h => (Or.inr (Or.inr (Or.inr (Or.inl ⟨h.1, h.2.1, h.2.2⟩))))) (fun h => h.elim (fun h => (Or.inr (Or.inr (Or.inr (Or.inr (Or.inl ⟨h.1, h.2.1, h.2.2⟩)))))) (fun h => h.elim (fun h => (Or.inr (Or.inr (Or.inr (Or.inr (Or.inr (Or.inl ⟨h.1, h.2⟩))))))) (fun h => h.elim))))))))
  have h8_ : PP M1_ s (D + 1) a T := h3_.1
  have kf9_ : (M1_.1 (12, 0, 0) 11).toInt + ((m : Nat) : Int) = 5 := h3_.2
  refine w_aload_n dX12_term_4 rfl 0 rfl ?_
  refine w_bipush (v := 42) dX12_term_5 (by decide) ?_
  refine w_callV (as := [vI 42]) (rest := []) (c_X12_takes l G cy ad ((N + d) + 8) 42 s (D + 1) a T M1_ hI4_ h8_ (by first | decide | (unfold vF; omega) | (unfold vRw; omega))) kV_X12_takes pnn_17 (Nat.le_of_ble_eq_true rfl) m_1591 rfl rfl rfl ic_12 rfl rfl (by decide) (Nat.le_of_ble_eq_true rfl) dX12_term_7 (fun r10_ M11_ q12_ => ?_)
  obtain ⟨hI14_, hF15_, h13_, hs17_⟩ := q12_
  have hF16_ := hF6_.tr hF15_ (fun c k => (fun h => h.elim (fun h => (Or.inl ⟨h.1, h.2.1, h.2.2⟩)) (fun h => h.elim)))
  have kf18_ : (M11_.1 (12, 0, 0) 11).toInt + ((m : Nat) : Int) = 5 := by rw [(hF15_ (12, 0, 0) 11 (by simp [S_here]))]; exact kf9_
  rcases h13_ with ⟨rfl, h13_⟩ | ⟨rfl, h13_⟩
  · have h19_ : PP M11_ (s + 1) (D + 1) (a + 1) T := h13_.1
    have kf20_ : M11_.1 (12, 0, 0) 13 = 0 := h13_.2
    refine w_if_eq (tgt := 19) dX12_term_10 (by decide) li_1 (fun h9 => (absurd h9 (by decide))) (fun h21_ => ?_)
    refine w_sipush (v := 2005) dX12_term_13 (by decide) ?_
    refine w_goto (tgt := 50) dX12_term_16 (by decide) ?_
    refine w_istore_n (ls' := [(1, vI 2005), (0, vR (12, 0, 0))]) dX12_term_50 rfl (by decide) rfl ?_
    have lp22_ : ∀ (nn_51 : Nat) (M_51 : mM) (hI_51 : InvD M_51) (hF_51 : FR (S_par) Mz M_51) (v1_51 : Int32) (hv0_51 : v1_51.toInt = 0 ∨ (2005 ≤ v1_51.toInt ∧ v1_51.toInt ≤ 2007)) (hv1_51 : PP M_51 (s + isX v1_51) (D + 1) a T) (kv0_51 : (M_51.1 (12, 0, 0) 11).toInt + ((m : Nat) : Int) = 5) (hL_51 : RCH (fun x_ y_ => ST_X12_term_51 N m QA QB s D T Mz x_.1 x_.2 y_.1 y_.2) ((2005 : Int32), M11_) (v1_51, M_51)), (2 * (T - (M_51.1 (12, 0, 0) 9).toInt) + isX v1_51).toNat < nn_51 → WP DD l G cy ad yX12_term cX12_term 2 none ((N + d) + 10) 51 [(1, vI v1_51), (0, vR (12, 0, 0))] [] M_51 (fun r M' => InvD M' ∧ FR (S_par) Mz M' ∧ (PP M' s (D + 1) a T ∧ (M'.1 (12, 0, 0) 11).toInt + ((m : Nat) : Int) = 5) ∧ SP_X12_term N m QA QB s D a T Mz M') := by
      intro nn_51
      induction nn_51 with
      | zero => intro M_51 hI_51 hF_51 v1_51 hv0_51 hv1_51 kv0_51 hL_51 hm_51; exact absurd hm_51 (Nat.not_lt_zero _)
      | succ nn_51 ih_51 =>
        intro M_51 hI_51 hF_51 v1_51 hv0_51 hv1_51 kv0_51 hL_51 hm_51
        have h23_ : 0 ≤ isX v1_51 ∧ isX v1_51 ≤ 1 := isX_b v1_51
        refine w_iload_n dX12_term_51 rfl 0 rfl ?_
        refine w_if_le (tgt := 114) dX12_term_52 (by decide) (rfl : v1_51.toInt = v1_51.toInt) (fun h24_ => ?_) (fun h24_ => ?_)
        · exact w_vret rfl dX12_term_114 ⟨hI_51, hF_51, ⟨PP_mono hv1_51 (lf_c_X12_term_0 M_51 s D a T v1_51 hs hv0_51 hv1_51 h23_ h24_ ) (lf_c_X12_opens_41 a ), kv0_51⟩, ⟨M1_, hI4_, hF5_, hs7_, M11_, hI14_, hF15_, (Or.inl ⟨hs17_, v1_51, hv0_51, M_51, hL_51, hI_51, hF_51, hv1_51, h23_, h24_, rfl⟩)⟩⟩
        · have kf25_ : a ≤ (M_51.1 (12, 0, 0) 9).toInt := hv1_51.2.1
          have h26_ : PP M_51 (s + 1) (D + 1) (M_51.1 (12, 0, 0) 9).toInt T := PP_self (PP_mono hv1_51 (by rw [isX_p (lf_c_X12_term_2 v1_51 h24_ )]; exact Int.le_refl _) (Int.le_refl _))
          refine w_aload_n dX12_term_55 rfl 1 rfl ?_
          refine w_callVv (as := []) (rest := []) (c_X12_one l G cy ad d N m QA QB (s + 1) (D + 1) ((M_51.1 (12, 0, 0) 9).toInt) T M_51 hI_51 hA hB h26_ (lf_c_X12_opens_8 s hs ) kv0_51 hm) kV_X12_one pnn_17 (Nat.le_of_ble_eq_true rfl) m_1571 rfl rfl rfl ic_12 rfl rfl (by decide) (Nat.le_of_ble_eq_true rfl) dX12_term_56 (fun M27_ q28_ => ?_)
          obtain ⟨hI30_, hF31_, h29_, hs33_⟩ := q28_
          have hF32_ := hF_51.tr hF31_ (fun c k => (fun h => h.elim (fun h => (Or.inl ⟨h.1, h.2.1, h.2.2⟩)) (fun h => h.elim (fun h => (Or.inr (Or.inl ⟨h.1, h.2.1, h.2.2⟩))) (fun h => h.elim (fun h => (Or.inr (Or.inr (Or.inl ⟨h.1, h.2.1, h.2.2⟩)))) (fun h => h.elim (fun h => (Or.inr (Or.inr (Or.inr (Or.inl ⟨h.1, h.2.1, h.2.2⟩))))) (fun h => h.elim (fun h => (Or.inr (Or.inr (Or.inr (Or.inr (Or.inl ⟨h.1, h.2.1, h.2.2⟩)))))) (fun h => h.elim (fun h => (Or.inr (Or.inr (Or.inr (Or.inr (Or.inr (Or.inl ⟨h.1, h.2⟩))))))) (fun h => h.elim))))))))
          have h34_ : PP M27_ (s + 1) ((D + 1) + 1) (M_51.1 (12, 0, 0) 9).toInt T := h29_.1
          have kf35_ : (M27_.1 (12, 0, 0) 11).toInt + ((m : Nat) : Int) = 5 := h29_.2
          refine w_aload_n dX12_term_59 rfl 1 rfl ?_
          refine w_iload_n dX12_term_60 rfl 0 rfl ?_
          refine w_callVv (as := [vI v1_51]) (rest := []) (c_X12_codes l G cy ad ((N + d) + 9) v1_51 (s + 1) ((D + 1) + 1) ((M_51.1 (12, 0, 0) 9).toInt) T (D + 1) M27_ hI30_ h34_ (lf_c_X12_opens_8 s hs ) (stp_op (lf_c_X12_term_5 v1_51 hv0_51 h24_ ))) kV_X12_codes pnn_17 (Nat.le_of_ble_eq_true rfl) m_1583 rfl rfl rfl ic_12 rfl rfl (by decide) (Nat.le_of_ble_eq_true rfl) dX12_term_61 (fun M36_ q37_ => ?_)
          obtain ⟨hI39_, hF40_, h38_, hs42_⟩ := q37_
          have hF41_ := hF32_.tr hF40_ (fun c k => (fun h => h.elim (fun h => (Or.inr (Or.inr (Or.inr (Or.inr (Or.inl ⟨h.1, h.2.1, h.2.2⟩)))))) (fun h => h.elim (fun h => (Or.inr (Or.inr (Or.inr (Or.inr (Or.inr (Or.inl ⟨h.1, h.2⟩))))))) (fun h => h.elim))))
          have kf43_ : (M36_.1 (12, 0, 0) 11).toInt + ((m : Nat) : Int) = 5 := by rw [(hF40_ (12, 0, 0) 11 (by simp [S_codes]))]; exact kf35_
          refine w_aload_n dX12_term_64 rfl 1 rfl ?_
          refine w_bipush (v := 42) dX12_term_65 (by decide) ?_
          refine w_callV (as := [vI 42]) (rest := []) (c_X12_takes l G cy ad ((N + d) + 8) 42 ((s + 1) - 1) (D + 1) ((M_51.1 (12, 0, 0) 9).toInt) T M36_ hI39_ h38_ (by first | decide | (unfold vF; omega) | (unfold vRw; omega))) kV_X12_takes pnn_17 (Nat.le_of_ble_eq_true rfl) m_1591 rfl rfl rfl ic_12 rfl rfl (by decide) (Nat.le_of_ble_eq_true rfl) dX12_term_67 (fun r44_ M45_ q46_ => ?_)
          obtain ⟨hI48_, hF49_, h47_, hs51_⟩ := q46_
          have hF50_ := hF41_.tr hF49_ (fun c k => (fun h => h.elim (fun h => (Or.inl ⟨h.1, h.2.1, h.2.2⟩)) (fun h => h.elim)))
          have kf52_ : (M45_.1 (12, 0, 0) 11).toInt + ((m : Nat) : Int) = 5 := by rw [(hF49_ (12, 0, 0) 11 (by simp [S_here]))]; exact kf43_
          rcases h47_ with ⟨rfl, h47_⟩ | ⟨rfl, h47_⟩
          · have h53_ : PP M45_ (((s + 1) - 1) + 1) (D + 1) ((M_51.1 (12, 0, 0) 9).toInt + 1) T := h47_.1
            have kf54_ : M45_.1 (12, 0, 0) 13 = 0 := h47_.2
            refine w_if_eq (tgt := 79) dX12_term_70 (by decide) li_1 (fun h9 => (absurd h9 (by decide))) (fun h55_ => ?_)
            refine w_sipush (v := 2005) dX12_term_73 (by decide) ?_
            refine w_goto (tgt := 110) dX12_term_76 (by decide) ?_
            refine w_istore_n (ls' := [(1, vI 2005), (0, vR (12, 0, 0))]) dX12_term_110 rfl (by decide) rfl ?_
            refine w_goto (tgt := 51) dX12_term_111 (by decide) ?_
            refine w_loc (ls' := [(1, vI 2005), (0, vR (12, 0, 0))]) [0, 1] rfl ?_
            exact ih_51 M45_ hI48_ hF50_ 2005 (lf_c_X12_term_6 ) (PP_mono h53_ (lf_c_X12_term_7 M45_ M_51 s D T hs h53_ ) (lf_c_X12_term_8 M_51 a kf25_ kf25_ )) kf52_ (RCH.tail hL_51 ⟨hv0_51, hI_51, hF_51, h23_, h24_, M27_, hI30_, hF31_, hs33_, M36_, hI39_, hF40_, hs42_, M45_, hI48_, hF49_, (Or.inl ⟨hs51_, h53_, rfl, rfl⟩)⟩) (Nat.lt_of_lt_of_le (PP_meas (A := (M_51.1 (12, 0, 0) 9).toInt) (x := v1_51) (x' := (2005 : Int32)) (PP_mono h53_ (Int.le_refl _) (lf_c_X12_term_9 M11_ M1_ M27_ M36_ M45_ M_51 Mz m s D a T hs hk hm kf9_ kf18_ kf20_ kv0_51 kf25_ kf25_ kf35_ kf43_ kf52_ h53_ kf54_ )) rfl (lf_c_X12_term_2 v1_51 h24_ )) (Nat.le_of_lt_succ hm_51))
          · refine w_if_eq (tgt := 79) dX12_term_70 (by decide) li_0 (fun h56_ => ?_) (fun h9 => (absurd h9 (by decide)))
            refine w_aload_n dX12_term_79 rfl 1 rfl ?_
            refine w_bipush (v := 47) dX12_term_80 (by decide) ?_
            refine w_callV (as := [vI 47]) (rest := []) (c_X12_takes l G cy ad ((N + d) + 8) 47 ((s + 1) - 1) (D + 1) ((M_51.1 (12, 0, 0) 9).toInt) T M45_ hI48_ h47_ (by first | decide | (unfold vF; omega) | (unfold vRw; omega))) kV_X12_takes pnn_17 (Nat.le_of_ble_eq_true rfl) m_1591 rfl rfl rfl ic_12 rfl rfl (by decide) (Nat.le_of_ble_eq_true rfl) dX12_term_82 (fun r57_ M58_ q59_ => ?_)
            obtain ⟨hI61_, hF62_, h60_, hs64_⟩ := q59_
            have hF63_ := hF50_.tr hF62_ (fun c k => (fun h => h.elim (fun h => (Or.inl ⟨h.1, h.2.1, h.2.2⟩)) (fun h => h.elim)))
            have kf65_ : (M58_.1 (12, 0, 0) 11).toInt + ((m : Nat) : Int) = 5 := by rw [(hF62_ (12, 0, 0) 11 (by simp [S_here]))]; exact kf52_
            rcases h60_ with ⟨rfl, h60_⟩ | ⟨rfl, h60_⟩
            · have h66_ : PP M58_ (((s + 1) - 1) + 1) (D + 1) ((M_51.1 (12, 0, 0) 9).toInt + 1) T := h60_.1
              have kf67_ : M58_.1 (12, 0, 0) 13 = 0 := h60_.2
              refine w_if_eq (tgt := 94) dX12_term_85 (by decide) li_1 (fun h9 => (absurd h9 (by decide))) (fun h68_ => ?_)
              refine w_sipush (v := 2006) dX12_term_88 (by decide) ?_
              refine w_goto (tgt := 110) dX12_term_91 (by decide) ?_
              refine w_istore_n (ls' := [(1, vI 2006), (0, vR (12, 0, 0))]) dX12_term_110 rfl (by decide) rfl ?_
              refine w_goto (tgt := 51) dX12_term_111 (by decide) ?_
              refine w_loc (ls' := [(1, vI 2006), (0, vR (12, 0, 0))]) [0, 1] rfl ?_
              exact ih_51 M58_ hI61_ hF63_ 2006 (lf_c_X12_term_11 ) (PP_mono h66_ (lf_c_X12_term_12 M58_ M_51 s D T hs h66_ ) (lf_c_X12_term_8 M_51 a kf25_ kf25_ )) kf65_ (RCH.tail hL_51 ⟨hv0_51, hI_51, hF_51, h23_, h24_, M27_, hI30_, hF31_, hs33_, M36_, hI39_, hF40_, hs42_, M45_, hI48_, hF49_, (Or.inr ⟨hs51_, M58_, hI61_, hF62_, (Or.inl ⟨hs64_, h66_, rfl, rfl⟩)⟩)⟩) (Nat.lt_of_lt_of_le (PP_meas (A := (M_51.1 (12, 0, 0) 9).toInt) (x := v1_51) (x' := (2006 : Int32)) (PP_mono h66_ (Int.le_refl _) (lf_c_X12_term_14 M11_ M1_ M27_ M36_ M45_ M58_ M_51 Mz m s D a T hs hk hm kf9_ kf18_ kf20_ kv0_51 kf25_ kf25_ kf35_ kf43_ kf52_ kf65_ h66_ kf67_ )) rfl (lf_c_X12_term_2 v1_51 h24_ )) (Nat.le_of_lt_succ hm_51))
            · refine w_if_eq (tgt := 94) dX12_term_85 (by decide) li_0 (fun h69_ => ?_) (fun h9 => (absurd h9 (by decide)))
              refine w_aload_n dX12_term_94 rfl 1 rfl ?_
              refine w_bipush (v := 37) dX12_term_95 (by decide) ?_
              refine w_callV (as := [vI 37]) (rest := []) (c_X12_takes l G cy ad ((N + d) + 8) 37 ((s + 1) - 1) (D + 1) ((M_51.1 (12, 0, 0) 9).toInt) T M58_ hI61_ h60_ (by first | decide | (unfold vF; omega) | (unfold vRw; omega))) kV_X12_takes pnn_17 (Nat.le_of_ble_eq_true rfl) m_1591 rfl rfl rfl ic_12 rfl rfl (by decide) (Nat.le_of_ble_eq_true rfl) dX12_term_97 (fun r70_ M71_ q72_ => ?_)
              obtain ⟨hI74_, hF75_, h73_, hs77_⟩ := q72_
              have hF76_ := hF63_.tr hF75_ (fun c k => (fun h => h.elim (fun h => (Or.inl ⟨h.1, h.2.1, h.2.2⟩)) (fun h => h.elim)))
              have kf78_ : (M71_.1 (12, 0, 0) 11).toInt + ((m : Nat) : Int) = 5 := by rw [(hF75_ (12, 0, 0) 11 (by simp [S_here]))]; exact kf65_
              rcases h73_ with ⟨rfl, h73_⟩ | ⟨rfl, h73_⟩
              · have h79_ : PP M71_ (((s + 1) - 1) + 1) (D + 1) ((M_51.1 (12, 0, 0) 9).toInt + 1) T := h73_.1
                have kf80_ : M71_.1 (12, 0, 0) 13 = 0 := h73_.2
                refine w_if_eq (tgt := 109) dX12_term_100 (by decide) li_1 (fun h9 => (absurd h9 (by decide))) (fun h81_ => ?_)
                refine w_sipush (v := 2007) dX12_term_103 (by decide) ?_
                refine w_goto (tgt := 110) dX12_term_106 (by decide) ?_
                refine w_istore_n (ls' := [(1, vI 2007), (0, vR (12, 0, 0))]) dX12_term_110 rfl (by decide) rfl ?_
                refine w_goto (tgt := 51) dX12_term_111 (by decide) ?_
                refine w_loc (ls' := [(1, vI 2007), (0, vR (12, 0, 0))]) [0, 1] rfl ?_
                exact ih_51 M71_ hI74_ hF76_ 2007 (lf_c_X12_term_16 ) (PP_mono h79_ (lf_c_X12_term_17 M71_ M_51 s D T hs h79_ ) (lf_c_X12_term_8 M_51 a kf25_ kf25_ )) kf78_ (RCH.tail hL_51 ⟨hv0_51, hI_51, hF_51, h23_, h24_, M27_, hI30_, hF31_, hs33_, M36_, hI39_, hF40_, hs42_, M45_, hI48_, hF49_, (Or.inr ⟨hs51_, M58_, hI61_, hF62_, (Or.inr ⟨hs64_, M71_, hI74_, hF75_, (Or.inl ⟨hs77_, h79_, rfl, rfl⟩)⟩)⟩)⟩) (Nat.lt_of_lt_of_le (PP_meas (A := (M_51.1 (12, 0, 0) 9).toInt) (x := v1_51) (x' := (2007 : Int32)) (PP_mono h79_ (Int.le_refl _) (lf_c_X12_term_19 M11_ M1_ M27_ M36_ M45_ M58_ M71_ M_51 Mz m s D a T hs hk hm kf9_ kf18_ kf20_ kv0_51 kf25_ kf25_ kf35_ kf43_ kf52_ kf65_ kf78_ h79_ kf80_ )) rfl (lf_c_X12_term_2 v1_51 h24_ )) (Nat.le_of_lt_succ hm_51))
              · refine w_if_eq (tgt := 109) dX12_term_100 (by decide) li_0 (fun h82_ => ?_) (fun h9 => (absurd h9 (by decide)))
                refine w_iconst (v := 0) dX12_term_109 (by decide) ?_
                refine w_istore_n (ls' := [(1, vI 0), (0, vR (12, 0, 0))]) dX12_term_110 rfl (by decide) rfl ?_
                refine w_goto (tgt := 51) dX12_term_111 (by decide) ?_
                refine w_loc (ls' := [(1, vI 0), (0, vR (12, 0, 0))]) [0, 1] rfl ?_
                exact ih_51 M71_ hI74_ hF76_ 0 (lf_c_X12_term_21 ) (PP_mono h73_ (lf_c_X12_term_22 M71_ M_51 s D T hs h73_ ) (lf_c_X12_term_23 M_51 a kf25_ kf25_ )) kf78_ (RCH.tail hL_51 ⟨hv0_51, hI_51, hF_51, h23_, h24_, M27_, hI30_, hF31_, hs33_, M36_, hI39_, hF40_, hs42_, M45_, hI48_, hF49_, (Or.inr ⟨hs51_, M58_, hI61_, hF62_, (Or.inr ⟨hs64_, M71_, hI74_, hF75_, (Or.inr ⟨hs77_, h73_, rfl, rfl⟩)⟩)⟩)⟩) (Nat.lt_of_lt_of_le (PP_meas (A := (M_51.1 (12, 0, 0) 9).toInt) (x := v1_51) (x' := (0 : Int32)) (PP_mono h73_ (Int.le_refl _) (lf_c_X12_term_24 M11_ M1_ M27_ M36_ M45_ M58_ M71_ M_51 Mz m s D a T hs hk hm kf9_ kf18_ kf20_ kv0_51 kf25_ kf25_ kf35_ kf43_ kf52_ kf65_ kf78_ h73_ )) rfl (lf_c_X12_term_2 v1_51 h24_ )) (Nat.le_of_lt_succ hm_51))
    exact lp22_ _ M11_ hI14_ hF16_ 2005 (lf_c_X12_term_6 ) (PP_mono h19_ (lf_c_X12_term_27 M11_ s D a T hs h19_ ) (lf_c_X12_here_19 a )) kf18_ RCH.refl (Nat.lt_succ_self _)
  · refine w_if_eq (tgt := 19) dX12_term_10 (by decide) li_0 (fun h83_ => ?_) (fun h9 => (absurd h9 (by decide)))
    refine w_aload_n dX12_term_19 rfl 0 rfl ?_
    refine w_bipush (v := 47) dX12_term_20 (by decide) ?_
    refine w_callV (as := [vI 47]) (rest := []) (c_X12_takes l G cy ad ((N + d) + 8) 47 s (D + 1) a T M11_ hI14_ h13_ (by first | decide | (unfold vF; omega) | (unfold vRw; omega))) kV_X12_takes pnn_17 (Nat.le_of_ble_eq_true rfl) m_1591 rfl rfl rfl ic_12 rfl rfl (by decide) (Nat.le_of_ble_eq_true rfl) dX12_term_22 (fun r84_ M85_ q86_ => ?_)
    obtain ⟨hI88_, hF89_, h87_, hs91_⟩ := q86_
    have hF90_ := hF16_.tr hF89_ (fun c k => (fun h => h.elim (fun h => (Or.inl ⟨h.1, h.2.1, h.2.2⟩)) (fun h => h.elim)))
    have kf92_ : (M85_.1 (12, 0, 0) 11).toInt + ((m : Nat) : Int) = 5 := by rw [(hF89_ (12, 0, 0) 11 (by simp [S_here]))]; exact kf18_
    rcases h87_ with ⟨rfl, h87_⟩ | ⟨rfl, h87_⟩
    · have h93_ : PP M85_ (s + 1) (D + 1) (a + 1) T := h87_.1
      have kf94_ : M85_.1 (12, 0, 0) 13 = 0 := h87_.2
      refine w_if_eq (tgt := 34) dX12_term_25 (by decide) li_1 (fun h9 => (absurd h9 (by decide))) (fun h95_ => ?_)
      refine w_sipush (v := 2006) dX12_term_28 (by decide) ?_
      refine w_goto (tgt := 50) dX12_term_31 (by decide) ?_
      refine w_istore_n (ls' := [(1, vI 2006), (0, vR (12, 0, 0))]) dX12_term_50 rfl (by decide) rfl ?_
      have lp96_ : ∀ (nn_51 : Nat) (M_51 : mM) (hI_51 : InvD M_51) (hF_51 : FR (S_par) Mz M_51) (v1_51 : Int32) (hv0_51 : v1_51.toInt = 0 ∨ (2005 ≤ v1_51.toInt ∧ v1_51.toInt ≤ 2007)) (hv1_51 : PP M_51 (s + isX v1_51) (D + 1) a T) (kv0_51 : (M_51.1 (12, 0, 0) 11).toInt + ((m : Nat) : Int) = 5) (hL_51 : RCH (fun x_ y_ => ST_X12_term_51b N m QA QB s D T Mz x_.1 x_.2 y_.1 y_.2) ((2006 : Int32), M85_) (v1_51, M_51)), (2 * (T - (M_51.1 (12, 0, 0) 9).toInt) + isX v1_51).toNat < nn_51 → WP DD l G cy ad yX12_term cX12_term 2 none ((N + d) + 10) 51 [(1, vI v1_51), (0, vR (12, 0, 0))] [] M_51 (fun r M' => InvD M' ∧ FR (S_par) Mz M' ∧ (PP M' s (D + 1) a T ∧ (M'.1 (12, 0, 0) 11).toInt + ((m : Nat) : Int) = 5) ∧ SP_X12_term N m QA QB s D a T Mz M') := by
        intro nn_51
        induction nn_51 with
        | zero => intro M_51 hI_51 hF_51 v1_51 hv0_51 hv1_51 kv0_51 hL_51 hm_51; exact absurd hm_51 (Nat.not_lt_zero _)
        | succ nn_51 ih_51 =>
          intro M_51 hI_51 hF_51 v1_51 hv0_51 hv1_51 kv0_51 hL_51 hm_51
          have h97_ : 0 ≤ isX v1_51 ∧ isX v1_51 ≤ 1 := isX_b v1_51
          refine w_iload_n dX12_term_51 rfl 0 rfl ?_
          refine w_if_le (tgt := 114) dX12_term_52 (by decide) (rfl : v1_51.toInt = v1_51.toInt) (fun h98_ => ?_) (fun h98_ => ?_)
          · exact w_vret rfl dX12_term_114 ⟨hI_51, hF_51, ⟨PP_mono hv1_51 (lf_c_X12_term_0 M_51 s D a T v1_51 hs hv0_51 hv1_51 h97_ h98_ ) (lf_c_X12_opens_41 a ), kv0_51⟩, ⟨M1_, hI4_, hF5_, hs7_, M11_, hI14_, hF15_, (Or.inr ⟨hs17_, M85_, hI88_, hF89_, (Or.inl ⟨hs91_, v1_51, hv0_51, M_51, hL_51, hI_51, hF_51, hv1_51, h97_, h98_, rfl⟩)⟩)⟩⟩
          · have kf99_ : a ≤ (M_51.1 (12, 0, 0) 9).toInt := hv1_51.2.1
            have h100_ : PP M_51 (s + 1) (D + 1) (M_51.1 (12, 0, 0) 9).toInt T := PP_self (PP_mono hv1_51 (by rw [isX_p (lf_c_X12_term_2 v1_51 h98_ )]; exact Int.le_refl _) (Int.le_refl _))
            refine w_aload_n dX12_term_55 rfl 1 rfl ?_
            refine w_callVv (as := []) (rest := []) (c_X12_one l G cy ad d N m QA QB (s + 1) (D + 1) ((M_51.1 (12, 0, 0) 9).toInt) T M_51 hI_51 hA hB h100_ (lf_c_X12_opens_8 s hs ) kv0_51 hm) kV_X12_one pnn_17 (Nat.le_of_ble_eq_true rfl) m_1571 rfl rfl rfl ic_12 rfl rfl (by decide) (Nat.le_of_ble_eq_true rfl) dX12_term_56 (fun M101_ q102_ => ?_)
            obtain ⟨hI104_, hF105_, h103_, hs107_⟩ := q102_
            have hF106_ := hF_51.tr hF105_ (fun c k => (fun h => h.elim (fun h => (Or.inl ⟨h.1, h.2.1, h.2.2⟩)) (fun h => h.elim (fun h => (Or.inr (Or.inl ⟨h.1, h.2.1, h.2.2⟩))) (fun h => h.elim (fun h => (Or.inr (Or.inr (Or.inl ⟨h.1, h.2.1, h.2.2⟩)))) (fun h => h.elim (fun h => (Or.inr (Or.inr (Or.inr (Or.inl ⟨h.1, h.2.1, h.2.2⟩))))) (fun h => h.elim (fun h => (Or.inr (Or.inr (Or.inr (Or.inr (Or.inl ⟨h.1, h.2.1, h.2.2⟩)))))) (fun h => h.elim (fun h => (Or.inr (Or.inr (Or.inr (Or.inr (Or.inr (Or.inl ⟨h.1, h.2⟩))))))) (fun h => h.elim))))))))
            have h108_ : PP M101_ (s + 1) ((D + 1) + 1) (M_51.1 (12, 0, 0) 9).toInt T := h103_.1
            have kf109_ : (M101_.1 (12, 0, 0) 11).toInt + ((m : Nat) : Int) = 5 := h103_.2
            refine w_aload_n dX12_term_59 rfl 1 rfl ?_
            refine w_iload_n dX12_term_60 rfl 0 rfl ?_
            refine w_callVv (as := [vI v1_51]) (rest := []) (c_X12_codes l G cy ad ((N + d) + 9) v1_51 (s + 1) ((D + 1) + 1) ((M_51.1 (12, 0, 0) 9).toInt) T (D + 1) M101_ hI104_ h108_ (lf_c_X12_opens_8 s hs ) (stp_op (lf_c_X12_term_5 v1_51 hv0_51 h98_ ))) kV_X12_codes pnn_17 (Nat.le_of_ble_eq_true rfl) m_1583 rfl rfl rfl ic_12 rfl rfl (by decide) (Nat.le_of_ble_eq_true rfl) dX12_term_61 (fun M110_ q111_ => ?_)
            obtain ⟨hI113_, hF114_, h112_, hs116_⟩ := q111_
            have hF115_ := hF106_.tr hF114_ (fun c k => (fun h => h.elim (fun h => (Or.inr (Or.inr (Or.inr (Or.inr (Or.inl ⟨h.1, h.2.1, h.2.2⟩)))))) (fun h => h.elim (fun h => (Or.inr (Or.inr (Or.inr (Or.inr (Or.inr (Or.inl ⟨h.1, h.2⟩))))))) (fun h => h.elim))))
            have kf117_ : (M110_.1 (12, 0, 0) 11).toInt + ((m : Nat) : Int) = 5 := by rw [(hF114_ (12, 0, 0) 11 (by simp [S_codes]))]; exact kf109_
            refine w_aload_n dX12_term_64 rfl 1 rfl ?_
            refine w_bipush (v := 42) dX12_term_65 (by decide) ?_
            refine w_callV (as := [vI 42]) (rest := []) (c_X12_takes l G cy ad ((N + d) + 8) 42 ((s + 1) - 1) (D + 1) ((M_51.1 (12, 0, 0) 9).toInt) T M110_ hI113_ h112_ (by first | decide | (unfold vF; omega) | (unfold vRw; omega))) kV_X12_takes pnn_17 (Nat.le_of_ble_eq_true rfl) m_1591 rfl rfl rfl ic_12 rfl rfl (by decide) (Nat.le_of_ble_eq_true rfl) dX12_term_67 (fun r118_ M119_ q120_ => ?_)
            obtain ⟨hI122_, hF123_, h121_, hs125_⟩ := q120_
            have hF124_ := hF115_.tr hF123_ (fun c k => (fun h => h.elim (fun h => (Or.inl ⟨h.1, h.2.1, h.2.2⟩)) (fun h => h.elim)))
            have kf126_ : (M119_.1 (12, 0, 0) 11).toInt + ((m : Nat) : Int) = 5 := by rw [(hF123_ (12, 0, 0) 11 (by simp [S_here]))]; exact kf117_
            rcases h121_ with ⟨rfl, h121_⟩ | ⟨rfl, h121_⟩
            · have h127_ : PP M119_ (((s + 1) - 1) + 1) (D + 1) ((M_51.1 (12, 0, 0) 9).toInt + 1) T := h121_.1
              have kf128_ : M119_.1 (12, 0, 0) 13 = 0 := h121_.2
              refine w_if_eq (tgt := 79) dX12_term_70 (by decide) li_1 (fun h9 => (absurd h9 (by decide))) (fun h129_ => ?_)
              refine w_sipush (v := 2005) dX12_term_73 (by decide) ?_
              refine w_goto (tgt := 110) dX12_term_76 (by decide) ?_
              refine w_istore_n (ls' := [(1, vI 2005), (0, vR (12, 0, 0))]) dX12_term_110 rfl (by decide) rfl ?_
              refine w_goto (tgt := 51) dX12_term_111 (by decide) ?_
              refine w_loc (ls' := [(1, vI 2005), (0, vR (12, 0, 0))]) [0, 1] rfl ?_
              exact ih_51 M119_ hI122_ hF124_ 2005 (lf_c_X12_term_6 ) (PP_mono h127_ (lf_c_X12_term_7 M119_ M_51 s D T hs h127_ ) (lf_c_X12_term_8 M_51 a kf99_ kf99_ )) kf126_ (RCH.tail hL_51 ⟨hv0_51, hI_51, hF_51, h97_, h98_, M101_, hI104_, hF105_, hs107_, M110_, hI113_, hF114_, hs116_, M119_, hI122_, hF123_, (Or.inl ⟨hs125_, h127_, rfl, rfl⟩)⟩) (Nat.lt_of_lt_of_le (PP_meas (A := (M_51.1 (12, 0, 0) 9).toInt) (x := v1_51) (x' := (2005 : Int32)) (PP_mono h127_ (Int.le_refl _) (lf_c_X12_term_38 M101_ M110_ M119_ M11_ M1_ M85_ M_51 Mz m s D a T hs hk hm kf9_ kf18_ kf92_ kf94_ kv0_51 kf99_ kf99_ kf109_ kf117_ kf126_ h127_ kf128_ )) rfl (lf_c_X12_term_2 v1_51 h98_ )) (Nat.le_of_lt_succ hm_51))
            · refine w_if_eq (tgt := 79) dX12_term_70 (by decide) li_0 (fun h130_ => ?_) (fun h9 => (absurd h9 (by decide)))
              refine w_aload_n dX12_term_79 rfl 1 rfl ?_
              refine w_bipush (v := 47) dX12_term_80 (by decide) ?_
              refine w_callV (as := [vI 47]) (rest := []) (c_X12_takes l G cy ad ((N + d) + 8) 47 ((s + 1) - 1) (D + 1) ((M_51.1 (12, 0, 0) 9).toInt) T M119_ hI122_ h121_ (by first | decide | (unfold vF; omega) | (unfold vRw; omega))) kV_X12_takes pnn_17 (Nat.le_of_ble_eq_true rfl) m_1591 rfl rfl rfl ic_12 rfl rfl (by decide) (Nat.le_of_ble_eq_true rfl) dX12_term_82 (fun r131_ M132_ q133_ => ?_)
              obtain ⟨hI135_, hF136_, h134_, hs138_⟩ := q133_
              have hF137_ := hF124_.tr hF136_ (fun c k => (fun h => h.elim (fun h => (Or.inl ⟨h.1, h.2.1, h.2.2⟩)) (fun h => h.elim)))
              have kf139_ : (M132_.1 (12, 0, 0) 11).toInt + ((m : Nat) : Int) = 5 := by rw [(hF136_ (12, 0, 0) 11 (by simp [S_here]))]; exact kf126_
              rcases h134_ with ⟨rfl, h134_⟩ | ⟨rfl, h134_⟩
              · have h140_ : PP M132_ (((s + 1) - 1) + 1) (D + 1) ((M_51.1 (12, 0, 0) 9).toInt + 1) T := h134_.1
                have kf141_ : M132_.1 (12, 0, 0) 13 = 0 := h134_.2
                refine w_if_eq (tgt := 94) dX12_term_85 (by decide) li_1 (fun h9 => (absurd h9 (by decide))) (fun h142_ => ?_)
                refine w_sipush (v := 2006) dX12_term_88 (by decide) ?_
                refine w_goto (tgt := 110) dX12_term_91 (by decide) ?_
                refine w_istore_n (ls' := [(1, vI 2006), (0, vR (12, 0, 0))]) dX12_term_110 rfl (by decide) rfl ?_
                refine w_goto (tgt := 51) dX12_term_111 (by decide) ?_
                refine w_loc (ls' := [(1, vI 2006), (0, vR (12, 0, 0))]) [0, 1] rfl ?_
                exact ih_51 M132_ hI135_ hF137_ 2006 (lf_c_X12_term_11 ) (PP_mono h140_ (lf_c_X12_term_12 M132_ M_51 s D T hs h140_ ) (lf_c_X12_term_8 M_51 a kf99_ kf99_ )) kf139_ (RCH.tail hL_51 ⟨hv0_51, hI_51, hF_51, h97_, h98_, M101_, hI104_, hF105_, hs107_, M110_, hI113_, hF114_, hs116_, M119_, hI122_, hF123_, (Or.inr ⟨hs125_, M132_, hI135_, hF136_, (Or.inl ⟨hs138_, h140_, rfl, rfl⟩)⟩)⟩) (Nat.lt_of_lt_of_le (PP_meas (A := (M_51.1 (12, 0, 0) 9).toInt) (x := v1_51) (x' := (2006 : Int32)) (PP_mono h140_ (Int.le_refl _) (lf_c_X12_term_43 M101_ M110_ M119_ M11_ M132_ M1_ M85_ M_51 Mz m s D a T hs hk hm kf9_ kf18_ kf92_ kf94_ kv0_51 kf99_ kf99_ kf109_ kf117_ kf126_ kf139_ h140_ kf141_ )) rfl (lf_c_X12_term_2 v1_51 h98_ )) (Nat.le_of_lt_succ hm_51))
              · refine w_if_eq (tgt := 94) dX12_term_85 (by decide) li_0 (fun h143_ => ?_) (fun h9 => (absurd h9 (by decide)))
                refine w_aload_n dX12_term_94 rfl 1 rfl ?_
                refine w_bipush (v := 37) dX12_term_95 (by decide) ?_
                refine w_callV (as := [vI 37]) (rest := []) (c_X12_takes l G cy ad ((N + d) + 8) 37 ((s + 1) - 1) (D + 1) ((M_51.1 (12, 0, 0) 9).toInt) T M132_ hI135_ h134_ (by first | decide | (unfold vF; omega) | (unfold vRw; omega))) kV_X12_takes pnn_17 (Nat.le_of_ble_eq_true rfl) m_1591 rfl rfl rfl ic_12 rfl rfl (by decide) (Nat.le_of_ble_eq_true rfl) dX12_term_97 (fun r144_ M145_ q146_ => ?_)
                obtain ⟨hI148_, hF149_, h147_, hs151_⟩ := q146_
                have hF150_ := hF137_.tr hF149_ (fun c k => (fun h => h.elim (fun h => (Or.inl ⟨h.1, h.2.1, h.2.2⟩)) (fun h => h.elim)))
                have kf152_ : (M145_.1 (12, 0, 0) 11).toInt + ((m : Nat) : Int) = 5 := by rw [(hF149_ (12, 0, 0) 11 (by simp [S_here]))]; exact kf139_
                rcases h147_ with ⟨rfl, h147_⟩ | ⟨rfl, h147_⟩
                · have h153_ : PP M145_ (((s + 1) - 1) + 1) (D + 1) ((M_51.1 (12, 0, 0) 9).toInt + 1) T := h147_.1
                  have kf154_ : M145_.1 (12, 0, 0) 13 = 0 := h147_.2
                  refine w_if_eq (tgt := 109) dX12_term_100 (by decide) li_1 (fun h9 => (absurd h9 (by decide))) (fun h155_ => ?_)
                  refine w_sipush (v := 2007) dX12_term_103 (by decide) ?_
                  refine w_goto (tgt := 110) dX12_term_106 (by decide) ?_
                  refine w_istore_n (ls' := [(1, vI 2007), (0, vR (12, 0, 0))]) dX12_term_110 rfl (by decide) rfl ?_
                  refine w_goto (tgt := 51) dX12_term_111 (by decide) ?_
                  refine w_loc (ls' := [(1, vI 2007), (0, vR (12, 0, 0))]) [0, 1] rfl ?_
                  exact ih_51 M145_ hI148_ hF150_ 2007 (lf_c_X12_term_16 ) (PP_mono h153_ (lf_c_X12_term_17 M145_ M_51 s D T hs h153_ ) (lf_c_X12_term_8 M_51 a kf99_ kf99_ )) kf152_ (RCH.tail hL_51 ⟨hv0_51, hI_51, hF_51, h97_, h98_, M101_, hI104_, hF105_, hs107_, M110_, hI113_, hF114_, hs116_, M119_, hI122_, hF123_, (Or.inr ⟨hs125_, M132_, hI135_, hF136_, (Or.inr ⟨hs138_, M145_, hI148_, hF149_, (Or.inl ⟨hs151_, h153_, rfl, rfl⟩)⟩)⟩)⟩) (Nat.lt_of_lt_of_le (PP_meas (A := (M_51.1 (12, 0, 0) 9).toInt) (x := v1_51) (x' := (2007 : Int32)) (PP_mono h153_ (Int.le_refl _) (lf_c_X12_term_48 M101_ M110_ M119_ M11_ M132_ M145_ M1_ M85_ M_51 Mz m s D a T hs hk hm kf9_ kf18_ kf92_ kf94_ kv0_51 kf99_ kf99_ kf109_ kf117_ kf126_ kf139_ kf152_ h153_ kf154_ )) rfl (lf_c_X12_term_2 v1_51 h98_ )) (Nat.le_of_lt_succ hm_51))
                · refine w_if_eq (tgt := 109) dX12_term_100 (by decide) li_0 (fun h156_ => ?_) (fun h9 => (absurd h9 (by decide)))
                  refine w_iconst (v := 0) dX12_term_109 (by decide) ?_
                  refine w_istore_n (ls' := [(1, vI 0), (0, vR (12, 0, 0))]) dX12_term_110 rfl (by decide) rfl ?_
                  refine w_goto (tgt := 51) dX12_term_111 (by decide) ?_
                  refine w_loc (ls' := [(1, vI 0), (0, vR (12, 0, 0))]) [0, 1] rfl ?_
                  exact ih_51 M145_ hI148_ hF150_ 0 (lf_c_X12_term_21 ) (PP_mono h147_ (lf_c_X12_term_22 M145_ M_51 s D T hs h147_ ) (lf_c_X12_term_23 M_51 a kf99_ kf99_ )) kf152_ (RCH.tail hL_51 ⟨hv0_51, hI_51, hF_51, h97_, h98_, M101_, hI104_, hF105_, hs107_, M110_, hI113_, hF114_, hs116_, M119_, hI122_, hF123_, (Or.inr ⟨hs125_, M132_, hI135_, hF136_, (Or.inr ⟨hs138_, M145_, hI148_, hF149_, (Or.inr ⟨hs151_, h147_, rfl, rfl⟩)⟩)⟩)⟩) (Nat.lt_of_lt_of_le (PP_meas (A := (M_51.1 (12, 0, 0) 9).toInt) (x := v1_51) (x' := (0 : Int32)) (PP_mono h147_ (Int.le_refl _) (lf_c_X12_term_53 M101_ M110_ M119_ M11_ M132_ M145_ M1_ M85_ M_51 Mz m s D a T hs hk hm kf9_ kf18_ kf92_ kf94_ kv0_51 kf99_ kf99_ kf109_ kf117_ kf126_ kf139_ kf152_ h147_ )) rfl (lf_c_X12_term_2 v1_51 h98_ )) (Nat.le_of_lt_succ hm_51))
      exact lp96_ _ M85_ hI88_ hF90_ 2006 (lf_c_X12_term_11 ) (PP_mono h93_ (lf_c_X12_term_56 M85_ s D a T hs h93_ ) (lf_c_X12_here_19 a )) kf92_ RCH.refl (Nat.lt_succ_self _)
    · refine w_if_eq (tgt := 34) dX12_term_25 (by decide) li_0 (fun h157_ => ?_) (fun h9 => (absurd h9 (by decide)))
      refine w_aload_n dX12_term_34 rfl 0 rfl ?_
      refine w_bipush (v := 37) dX12_term_35 (by decide) ?_
      refine w_callV (as := [vI 37]) (rest := []) (c_X12_takes l G cy ad ((N + d) + 8) 37 s (D + 1) a T M85_ hI88_ h87_ (by first | decide | (unfold vF; omega) | (unfold vRw; omega))) kV_X12_takes pnn_17 (Nat.le_of_ble_eq_true rfl) m_1591 rfl rfl rfl ic_12 rfl rfl (by decide) (Nat.le_of_ble_eq_true rfl) dX12_term_37 (fun r158_ M159_ q160_ => ?_)
      obtain ⟨hI162_, hF163_, h161_, hs165_⟩ := q160_
      have hF164_ := hF90_.tr hF163_ (fun c k => (fun h => h.elim (fun h => (Or.inl ⟨h.1, h.2.1, h.2.2⟩)) (fun h => h.elim)))
      have kf166_ : (M159_.1 (12, 0, 0) 11).toInt + ((m : Nat) : Int) = 5 := by rw [(hF163_ (12, 0, 0) 11 (by simp [S_here]))]; exact kf92_
      rcases h161_ with ⟨rfl, h161_⟩ | ⟨rfl, h161_⟩
      · have h167_ : PP M159_ (s + 1) (D + 1) (a + 1) T := h161_.1
        have kf168_ : M159_.1 (12, 0, 0) 13 = 0 := h161_.2
        refine w_if_eq (tgt := 49) dX12_term_40 (by decide) li_1 (fun h9 => (absurd h9 (by decide))) (fun h169_ => ?_)
        refine w_sipush (v := 2007) dX12_term_43 (by decide) ?_
        refine w_goto (tgt := 50) dX12_term_46 (by decide) ?_
        refine w_istore_n (ls' := [(1, vI 2007), (0, vR (12, 0, 0))]) dX12_term_50 rfl (by decide) rfl ?_
        have lp170_ : ∀ (nn_51 : Nat) (M_51 : mM) (hI_51 : InvD M_51) (hF_51 : FR (S_par) Mz M_51) (v1_51 : Int32) (hv0_51 : v1_51.toInt = 0 ∨ (2005 ≤ v1_51.toInt ∧ v1_51.toInt ≤ 2007)) (hv1_51 : PP M_51 (s + isX v1_51) (D + 1) a T) (kv0_51 : (M_51.1 (12, 0, 0) 11).toInt + ((m : Nat) : Int) = 5) (hL_51 : RCH (fun x_ y_ => ST_X12_term_51c N m QA QB s D T Mz x_.1 x_.2 y_.1 y_.2) ((2007 : Int32), M159_) (v1_51, M_51)), (2 * (T - (M_51.1 (12, 0, 0) 9).toInt) + isX v1_51).toNat < nn_51 → WP DD l G cy ad yX12_term cX12_term 2 none ((N + d) + 10) 51 [(1, vI v1_51), (0, vR (12, 0, 0))] [] M_51 (fun r M' => InvD M' ∧ FR (S_par) Mz M' ∧ (PP M' s (D + 1) a T ∧ (M'.1 (12, 0, 0) 11).toInt + ((m : Nat) : Int) = 5) ∧ SP_X12_term N m QA QB s D a T Mz M') := by
          intro nn_51
          induction nn_51 with
          | zero => intro M_51 hI_51 hF_51 v1_51 hv0_51 hv1_51 kv0_51 hL_51 hm_51; exact absurd hm_51 (Nat.not_lt_zero _)
          | succ nn_51 ih_51 =>
            intro M_51 hI_51 hF_51 v1_51 hv0_51 hv1_51 kv0_51 hL_51 hm_51
            have h171_ : 0 ≤ isX v1_51 ∧ isX v1_51 ≤ 1 := isX_b v1_51
            refine w_iload_n dX12_term_51 rfl 0 rfl ?_
            refine w_if_le (tgt := 114) dX12_term_52 (by decide) (rfl : v1_51.toInt = v1_51.toInt) (fun h172_ => ?_) (fun h172_ => ?_)
            · exact w_vret rfl dX12_term_114 ⟨hI_51, hF_51, ⟨PP_mono hv1_51 (lf_c_X12_term_0 M_51 s D a T v1_51 hs hv0_51 hv1_51 h171_ h172_ ) (lf_c_X12_opens_41 a ), kv0_51⟩, ⟨M1_, hI4_, hF5_, hs7_, M11_, hI14_, hF15_, (Or.inr ⟨hs17_, M85_, hI88_, hF89_, (Or.inr ⟨hs91_, M159_, hI162_, hF163_, (Or.inl ⟨hs165_, v1_51, hv0_51, M_51, hL_51, hI_51, hF_51, hv1_51, h171_, h172_, rfl⟩)⟩)⟩)⟩⟩
            · have kf173_ : a ≤ (M_51.1 (12, 0, 0) 9).toInt := hv1_51.2.1
              have h174_ : PP M_51 (s + 1) (D + 1) (M_51.1 (12, 0, 0) 9).toInt T := PP_self (PP_mono hv1_51 (by rw [isX_p (lf_c_X12_term_2 v1_51 h172_ )]; exact Int.le_refl _) (Int.le_refl _))
              refine w_aload_n dX12_term_55 rfl 1 rfl ?_
              refine w_callVv (as := []) (rest := []) (c_X12_one l G cy ad d N m QA QB (s + 1) (D + 1) ((M_51.1 (12, 0, 0) 9).toInt) T M_51 hI_51 hA hB h174_ (lf_c_X12_opens_8 s hs ) kv0_51 hm) kV_X12_one pnn_17 (Nat.le_of_ble_eq_true rfl) m_1571 rfl rfl rfl ic_12 rfl rfl (by decide) (Nat.le_of_ble_eq_true rfl) dX12_term_56 (fun M175_ q176_ => ?_)
              obtain ⟨hI178_, hF179_, h177_, hs181_⟩ := q176_
              have hF180_ := hF_51.tr hF179_ (fun c k => (fun h => h.elim (fun h => (Or.inl ⟨h.1, h.2.1, h.2.2⟩)) (fun h => h.elim (fun h => (Or.inr (Or.inl ⟨h.1, h.2.1, h.2.2⟩))) (fun h => h.elim (fun h => (Or.inr (Or.inr (Or.inl ⟨h.1, h.2.1, h.2.2⟩)))) (fun h => h.elim (fun h => (Or.inr (Or.inr (Or.inr (Or.inl ⟨h.1, h.2.1, h.2.2⟩))))) (fun h => h.elim (fun h => (Or.inr (Or.inr (Or.inr (Or.inr (Or.inl ⟨h.1, h.2.1, h.2.2⟩)))))) (fun h => h.elim (fun h => (Or.inr (Or.inr (Or.inr (Or.inr (Or.inr (Or.inl ⟨h.1, h.2⟩))))))) (fun h => h.elim))))))))
              have h182_ : PP M175_ (s + 1) ((D + 1) + 1) (M_51.1 (12, 0, 0) 9).toInt T := h177_.1
              have kf183_ : (M175_.1 (12, 0, 0) 11).toInt + ((m : Nat) : Int) = 5 := h177_.2
              refine w_aload_n dX12_term_59 rfl 1 rfl ?_
              refine w_iload_n dX12_term_60 rfl 0 rfl ?_
              refine w_callVv (as := [vI v1_51]) (rest := []) (c_X12_codes l G cy ad ((N + d) + 9) v1_51 (s + 1) ((D + 1) + 1) ((M_51.1 (12, 0, 0) 9).toInt) T (D + 1) M175_ hI178_ h182_ (lf_c_X12_opens_8 s hs ) (stp_op (lf_c_X12_term_5 v1_51 hv0_51 h172_ ))) kV_X12_codes pnn_17 (Nat.le_of_ble_eq_true rfl) m_1583 rfl rfl rfl ic_12 rfl rfl (by decide) (Nat.le_of_ble_eq_true rfl) dX12_term_61 (fun M184_ q185_ => ?_)
              obtain ⟨hI187_, hF188_, h186_, hs190_⟩ := q185_
              have hF189_ := hF180_.tr hF188_ (fun c k => (fun h => h.elim (fun h => (Or.inr (Or.inr (Or.inr (Or.inr (Or.inl ⟨h.1, h.2.1, h.2.2⟩)))))) (fun h => h.elim (fun h => (Or.inr (Or.inr (Or.inr (Or.inr (Or.inr (Or.inl ⟨h.1, h.2⟩))))))) (fun h => h.elim))))
              have kf191_ : (M184_.1 (12, 0, 0) 11).toInt + ((m : Nat) : Int) = 5 := by rw [(hF188_ (12, 0, 0) 11 (by simp [S_codes]))]; exact kf183_
              refine w_aload_n dX12_term_64 rfl 1 rfl ?_
              refine w_bipush (v := 42) dX12_term_65 (by decide) ?_
              refine w_callV (as := [vI 42]) (rest := []) (c_X12_takes l G cy ad ((N + d) + 8) 42 ((s + 1) - 1) (D + 1) ((M_51.1 (12, 0, 0) 9).toInt) T M184_ hI187_ h186_ (by first | decide | (unfold vF; omega) | (unfold vRw; omega))) kV_X12_takes pnn_17 (Nat.le_of_ble_eq_true rfl) m_1591 rfl rfl rfl ic_12 rfl rfl (by decide) (Nat.le_of_ble_eq_true rfl) dX12_term_67 (fun r192_ M193_ q194_ => ?_)
              obtain ⟨hI196_, hF197_, h195_, hs199_⟩ := q194_
              have hF198_ := hF189_.tr hF197_ (fun c k => (fun h => h.elim (fun h => (Or.inl ⟨h.1, h.2.1, h.2.2⟩)) (fun h => h.elim)))
              have kf200_ : (M193_.1 (12, 0, 0) 11).toInt + ((m : Nat) : Int) = 5 := by rw [(hF197_ (12, 0, 0) 11 (by simp [S_here]))]; exact kf191_
              rcases h195_ with ⟨rfl, h195_⟩ | ⟨rfl, h195_⟩
              · have h201_ : PP M193_ (((s + 1) - 1) + 1) (D + 1) ((M_51.1 (12, 0, 0) 9).toInt + 1) T := h195_.1
                have kf202_ : M193_.1 (12, 0, 0) 13 = 0 := h195_.2
                refine w_if_eq (tgt := 79) dX12_term_70 (by decide) li_1 (fun h9 => (absurd h9 (by decide))) (fun h203_ => ?_)
                refine w_sipush (v := 2005) dX12_term_73 (by decide) ?_
                refine w_goto (tgt := 110) dX12_term_76 (by decide) ?_
                refine w_istore_n (ls' := [(1, vI 2005), (0, vR (12, 0, 0))]) dX12_term_110 rfl (by decide) rfl ?_
                refine w_goto (tgt := 51) dX12_term_111 (by decide) ?_
                refine w_loc (ls' := [(1, vI 2005), (0, vR (12, 0, 0))]) [0, 1] rfl ?_
                exact ih_51 M193_ hI196_ hF198_ 2005 (lf_c_X12_term_6 ) (PP_mono h201_ (lf_c_X12_term_7 M193_ M_51 s D T hs h201_ ) (lf_c_X12_term_8 M_51 a kf173_ kf173_ )) kf200_ (RCH.tail hL_51 ⟨hv0_51, hI_51, hF_51, h171_, h172_, M175_, hI178_, hF179_, hs181_, M184_, hI187_, hF188_, hs190_, M193_, hI196_, hF197_, (Or.inl ⟨hs199_, h201_, rfl, rfl⟩)⟩) (Nat.lt_of_lt_of_le (PP_meas (A := (M_51.1 (12, 0, 0) 9).toInt) (x := v1_51) (x' := (2005 : Int32)) (PP_mono h201_ (Int.le_refl _) (lf_c_X12_term_67 M11_ M159_ M175_ M184_ M193_ M1_ M85_ M_51 Mz m s D a T hs hk hm kf9_ kf18_ kf92_ kf166_ kf168_ kv0_51 kf173_ kf173_ kf183_ kf191_ kf200_ h201_ kf202_ )) rfl (lf_c_X12_term_2 v1_51 h172_ )) (Nat.le_of_lt_succ hm_51))
              · refine w_if_eq (tgt := 79) dX12_term_70 (by decide) li_0 (fun h204_ => ?_) (fun h9 => (absurd h9 (by decide)))
                refine w_aload_n dX12_term_79 rfl 1 rfl ?_
                refine w_bipush (v := 47) dX12_term_80 (by decide) ?_
                refine w_callV (as := [vI 47]) (rest := []) (c_X12_takes l G cy ad ((N + d) + 8) 47 ((s + 1) - 1) (D + 1) ((M_51.1 (12, 0, 0) 9).toInt) T M193_ hI196_ h195_ (by first | decide | (unfold vF; omega) | (unfold vRw; omega))) kV_X12_takes pnn_17 (Nat.le_of_ble_eq_true rfl) m_1591 rfl rfl rfl ic_12 rfl rfl (by decide) (Nat.le_of_ble_eq_true rfl) dX12_term_82 (fun r205_ M206_ q207_ => ?_)
                obtain ⟨hI209_, hF210_, h208_, hs212_⟩ := q207_
                have hF211_ := hF198_.tr hF210_ (fun c k => (fun h => h.elim (fun h => (Or.inl ⟨h.1, h.2.1, h.2.2⟩)) (fun h => h.elim)))
                have kf213_ : (M206_.1 (12, 0, 0) 11).toInt + ((m : Nat) : Int) = 5 := by rw [(hF210_ (12, 0, 0) 11 (by simp [S_here]))]; exact kf200_
                rcases h208_ with ⟨rfl, h208_⟩ | ⟨rfl, h208_⟩
                · have h214_ : PP M206_ (((s + 1) - 1) + 1) (D + 1) ((M_51.1 (12, 0, 0) 9).toInt + 1) T := h208_.1
                  have kf215_ : M206_.1 (12, 0, 0) 13 = 0 := h208_.2
                  refine w_if_eq (tgt := 94) dX12_term_85 (by decide) li_1 (fun h9 => (absurd h9 (by decide))) (fun h216_ => ?_)
                  refine w_sipush (v := 2006) dX12_term_88 (by decide) ?_
                  refine w_goto (tgt := 110) dX12_term_91 (by decide) ?_
                  refine w_istore_n (ls' := [(1, vI 2006), (0, vR (12, 0, 0))]) dX12_term_110 rfl (by decide) rfl ?_
                  refine w_goto (tgt := 51) dX12_term_111 (by decide) ?_
                  refine w_loc (ls' := [(1, vI 2006), (0, vR (12, 0, 0))]) [0, 1] rfl ?_
                  exact ih_51 M206_ hI209_ hF211_ 2006 (lf_c_X12_term_11 ) (PP_mono h214_ (lf_c_X12_term_12 M206_ M_51 s D T hs h214_ ) (lf_c_X12_term_8 M_51 a kf173_ kf173_ )) kf213_ (RCH.tail hL_51 ⟨hv0_51, hI_51, hF_51, h171_, h172_, M175_, hI178_, hF179_, hs181_, M184_, hI187_, hF188_, hs190_, M193_, hI196_, hF197_, (Or.inr ⟨hs199_, M206_, hI209_, hF210_, (Or.inl ⟨hs212_, h214_, rfl, rfl⟩)⟩)⟩) (Nat.lt_of_lt_of_le (PP_meas (A := (M_51.1 (12, 0, 0) 9).toInt) (x := v1_51) (x' := (2006 : Int32)) (PP_mono h214_ (Int.le_refl _) (lf_c_X12_term_72 M11_ M159_ M175_ M184_ M193_ M1_ M206_ M85_ M_51 Mz m s D a T hs hk hm kf9_ kf18_ kf92_ kf166_ kf168_ kv0_51 kf173_ kf173_ kf183_ kf191_ kf200_ kf213_ h214_ kf215_ )) rfl (lf_c_X12_term_2 v1_51 h172_ )) (Nat.le_of_lt_succ hm_51))
                · refine w_if_eq (tgt := 94) dX12_term_85 (by decide) li_0 (fun h217_ => ?_) (fun h9 => (absurd h9 (by decide)))
                  refine w_aload_n dX12_term_94 rfl 1 rfl ?_
                  refine w_bipush (v := 37) dX12_term_95 (by decide) ?_
                  refine w_callV (as := [vI 37]) (rest := []) (c_X12_takes l G cy ad ((N + d) + 8) 37 ((s + 1) - 1) (D + 1) ((M_51.1 (12, 0, 0) 9).toInt) T M206_ hI209_ h208_ (by first | decide | (unfold vF; omega) | (unfold vRw; omega))) kV_X12_takes pnn_17 (Nat.le_of_ble_eq_true rfl) m_1591 rfl rfl rfl ic_12 rfl rfl (by decide) (Nat.le_of_ble_eq_true rfl) dX12_term_97 (fun r218_ M219_ q220_ => ?_)
                  obtain ⟨hI222_, hF223_, h221_, hs225_⟩ := q220_
                  have hF224_ := hF211_.tr hF223_ (fun c k => (fun h => h.elim (fun h => (Or.inl ⟨h.1, h.2.1, h.2.2⟩)) (fun h => h.elim)))
                  have kf226_ : (M219_.1 (12, 0, 0) 11).toInt + ((m : Nat) : Int) = 5 := by rw [(hF223_ (12, 0, 0) 11 (by simp [S_here]))]; exact kf213_
                  rcases h221_ with ⟨rfl, h221_⟩ | ⟨rfl, h221_⟩
                  · have h227_ : PP M219_ (((s + 1) - 1) + 1) (D + 1) ((M_51.1 (12, 0, 0) 9).toInt + 1) T := h221_.1
                    have kf228_ : M219_.1 (12, 0, 0) 13 = 0 := h221_.2
                    refine w_if_eq (tgt := 109) dX12_term_100 (by decide) li_1 (fun h9 => (absurd h9 (by decide))) (fun h229_ => ?_)
                    refine w_sipush (v := 2007) dX12_term_103 (by decide) ?_
                    refine w_goto (tgt := 110) dX12_term_106 (by decide) ?_
                    refine w_istore_n (ls' := [(1, vI 2007), (0, vR (12, 0, 0))]) dX12_term_110 rfl (by decide) rfl ?_
                    refine w_goto (tgt := 51) dX12_term_111 (by decide) ?_
                    refine w_loc (ls' := [(1, vI 2007), (0, vR (12, 0, 0))]) [0, 1] rfl ?_
                    exact ih_51 M219_ hI222_ hF224_ 2007 (lf_c_X12_term_16 ) (PP_mono h227_ (lf_c_X12_term_17 M219_ M_51 s D T hs h227_ ) (lf_c_X12_term_8 M_51 a kf173_ kf173_ )) kf226_ (RCH.tail hL_51 ⟨hv0_51, hI_51, hF_51, h171_, h172_, M175_, hI178_, hF179_, hs181_, M184_, hI187_, hF188_, hs190_, M193_, hI196_, hF197_, (Or.inr ⟨hs199_, M206_, hI209_, hF210_, (Or.inr ⟨hs212_, M219_, hI222_, hF223_, (Or.inl ⟨hs225_, h227_, rfl, rfl⟩)⟩)⟩)⟩) (Nat.lt_of_lt_of_le (PP_meas (A := (M_51.1 (12, 0, 0) 9).toInt) (x := v1_51) (x' := (2007 : Int32)) (PP_mono h227_ (Int.le_refl _) (lf_c_X12_term_77 M11_ M159_ M175_ M184_ M193_ M1_ M206_ M219_ M85_ M_51 Mz m s D a T hs hk hm kf9_ kf18_ kf92_ kf166_ kf168_ kv0_51 kf173_ kf173_ kf183_ kf191_ kf200_ kf213_ kf226_ h227_ kf228_ )) rfl (lf_c_X12_term_2 v1_51 h172_ )) (Nat.le_of_lt_succ hm_51))
                  · refine w_if_eq (tgt := 109) dX12_term_100 (by decide) li_0 (fun h230_ => ?_) (fun h9 => (absurd h9 (by decide)))
                    refine w_iconst (v := 0) dX12_term_109 (by decide) ?_
                    refine w_istore_n (ls' := [(1, vI 0), (0, vR (12, 0, 0))]) dX12_term_110 rfl (by decide) rfl ?_
                    refine w_goto (tgt := 51) dX12_term_111 (by decide) ?_
                    refine w_loc (ls' := [(1, vI 0), (0, vR (12, 0, 0))]) [0, 1] rfl ?_
                    exact ih_51 M219_ hI222_ hF224_ 0 (lf_c_X12_term_21 ) (PP_mono h221_ (lf_c_X12_term_22 M219_ M_51 s D T hs h221_ ) (lf_c_X12_term_23 M_51 a kf173_ kf173_ )) kf226_ (RCH.tail hL_51 ⟨hv0_51, hI_51, hF_51, h171_, h172_, M175_, hI178_, hF179_, hs181_, M184_, hI187_, hF188_, hs190_, M193_, hI196_, hF197_, (Or.inr ⟨hs199_, M206_, hI209_, hF210_, (Or.inr ⟨hs212_, M219_, hI222_, hF223_, (Or.inr ⟨hs225_, h221_, rfl, rfl⟩)⟩)⟩)⟩) (Nat.lt_of_lt_of_le (PP_meas (A := (M_51.1 (12, 0, 0) 9).toInt) (x := v1_51) (x' := (0 : Int32)) (PP_mono h221_ (Int.le_refl _) (lf_c_X12_term_82 M11_ M159_ M175_ M184_ M193_ M1_ M206_ M219_ M85_ M_51 Mz m s D a T hs hk hm kf9_ kf18_ kf92_ kf166_ kf168_ kv0_51 kf173_ kf173_ kf183_ kf191_ kf200_ kf213_ kf226_ h221_ )) rfl (lf_c_X12_term_2 v1_51 h172_ )) (Nat.le_of_lt_succ hm_51))
        exact lp170_ _ M159_ hI162_ hF164_ 2007 (lf_c_X12_term_16 ) (PP_mono h167_ (lf_c_X12_term_85 M159_ s D a T hs h167_ ) (lf_c_X12_here_19 a )) kf166_ RCH.refl (Nat.lt_succ_self _)
      · refine w_if_eq (tgt := 49) dX12_term_40 (by decide) li_0 (fun h231_ => ?_) (fun h9 => (absurd h9 (by decide)))
        refine w_iconst (v := 0) dX12_term_49 (by decide) ?_
        refine w_istore_n (ls' := [(1, vI 0), (0, vR (12, 0, 0))]) dX12_term_50 rfl (by decide) rfl ?_
        have lp232_ : ∀ (nn_51 : Nat) (M_51 : mM) (hI_51 : InvD M_51) (hF_51 : FR (S_par) Mz M_51) (v1_51 : Int32) (hv0_51 : v1_51.toInt = 0 ∨ (2005 ≤ v1_51.toInt ∧ v1_51.toInt ≤ 2007)) (hv1_51 : PP M_51 (s + isX v1_51) (D + 1) a T) (kv0_51 : (M_51.1 (12, 0, 0) 11).toInt + ((m : Nat) : Int) = 5) (hL_51 : RCH (fun x_ y_ => ST_X12_term_51d N m QA QB s D T Mz x_.1 x_.2 y_.1 y_.2) ((0 : Int32), M159_) (v1_51, M_51)), (2 * (T - (M_51.1 (12, 0, 0) 9).toInt) + isX v1_51).toNat < nn_51 → WP DD l G cy ad yX12_term cX12_term 2 none ((N + d) + 10) 51 [(1, vI v1_51), (0, vR (12, 0, 0))] [] M_51 (fun r M' => InvD M' ∧ FR (S_par) Mz M' ∧ (PP M' s (D + 1) a T ∧ (M'.1 (12, 0, 0) 11).toInt + ((m : Nat) : Int) = 5) ∧ SP_X12_term N m QA QB s D a T Mz M') := by
          intro nn_51
          induction nn_51 with
          | zero => intro M_51 hI_51 hF_51 v1_51 hv0_51 hv1_51 kv0_51 hL_51 hm_51; exact absurd hm_51 (Nat.not_lt_zero _)
          | succ nn_51 ih_51 =>
            intro M_51 hI_51 hF_51 v1_51 hv0_51 hv1_51 kv0_51 hL_51 hm_51
            have h233_ : 0 ≤ isX v1_51 ∧ isX v1_51 ≤ 1 := isX_b v1_51
            refine w_iload_n dX12_term_51 rfl 0 rfl ?_
            refine w_if_le (tgt := 114) dX12_term_52 (by decide) (rfl : v1_51.toInt = v1_51.toInt) (fun h234_ => ?_) (fun h234_ => ?_)
            · exact w_vret rfl dX12_term_114 ⟨hI_51, hF_51, ⟨PP_mono hv1_51 (lf_c_X12_term_0 M_51 s D a T v1_51 hs hv0_51 hv1_51 h233_ h234_ ) (lf_c_X12_opens_41 a ), kv0_51⟩, ⟨M1_, hI4_, hF5_, hs7_, M11_, hI14_, hF15_, (Or.inr ⟨hs17_, M85_, hI88_, hF89_, (Or.inr ⟨hs91_, M159_, hI162_, hF163_, (Or.inr ⟨hs165_, v1_51, hv0_51, M_51, hL_51, hI_51, hF_51, hv1_51, h233_, h234_, rfl⟩)⟩)⟩)⟩⟩
            · have kf235_ : a ≤ (M_51.1 (12, 0, 0) 9).toInt := hv1_51.2.1
              have h236_ : PP M_51 (s + 1) (D + 1) (M_51.1 (12, 0, 0) 9).toInt T := PP_self (PP_mono hv1_51 (by rw [isX_p (lf_c_X12_term_2 v1_51 h234_ )]; exact Int.le_refl _) (Int.le_refl _))
              refine w_aload_n dX12_term_55 rfl 1 rfl ?_
              refine w_callVv (as := []) (rest := []) (c_X12_one l G cy ad d N m QA QB (s + 1) (D + 1) ((M_51.1 (12, 0, 0) 9).toInt) T M_51 hI_51 hA hB h236_ (lf_c_X12_opens_8 s hs ) kv0_51 hm) kV_X12_one pnn_17 (Nat.le_of_ble_eq_true rfl) m_1571 rfl rfl rfl ic_12 rfl rfl (by decide) (Nat.le_of_ble_eq_true rfl) dX12_term_56 (fun M237_ q238_ => ?_)
              obtain ⟨hI240_, hF241_, h239_, hs243_⟩ := q238_
              have hF242_ := hF_51.tr hF241_ (fun c k => (fun h => h.elim (fun h => (Or.inl ⟨h.1, h.2.1, h.2.2⟩)) (fun h => h.elim (fun h => (Or.inr (Or.inl ⟨h.1, h.2.1, h.2.2⟩))) (fun h => h.elim (fun h => (Or.inr (Or.inr (Or.inl ⟨h.1, h.2.1, h.2.2⟩)))) (fun h => h.elim (fun h => (Or.inr (Or.inr (Or.inr (Or.inl ⟨h.1, h.2.1, h.2.2⟩))))) (fun h => h.elim (fun h => (Or.inr (Or.inr (Or.inr (Or.inr (Or.inl ⟨h.1, h.2.1, h.2.2⟩)))))) (fun h => h.elim (fun h => (Or.inr (Or.inr (Or.inr (Or.inr (Or.inr (Or.inl ⟨h.1, h.2⟩))))))) (fun h => h.elim))))))))
              have h244_ : PP M237_ (s + 1) ((D + 1) + 1) (M_51.1 (12, 0, 0) 9).toInt T := h239_.1
              have kf245_ : (M237_.1 (12, 0, 0) 11).toInt + ((m : Nat) : Int) = 5 := h239_.2
              refine w_aload_n dX12_term_59 rfl 1 rfl ?_
              refine w_iload_n dX12_term_60 rfl 0 rfl ?_
              refine w_callVv (as := [vI v1_51]) (rest := []) (c_X12_codes l G cy ad ((N + d) + 9) v1_51 (s + 1) ((D + 1) + 1) ((M_51.1 (12, 0, 0) 9).toInt) T (D + 1) M237_ hI240_ h244_ (lf_c_X12_opens_8 s hs ) (stp_op (lf_c_X12_term_5 v1_51 hv0_51 h234_ ))) kV_X12_codes pnn_17 (Nat.le_of_ble_eq_true rfl) m_1583 rfl rfl rfl ic_12 rfl rfl (by decide) (Nat.le_of_ble_eq_true rfl) dX12_term_61 (fun M246_ q247_ => ?_)
              obtain ⟨hI249_, hF250_, h248_, hs252_⟩ := q247_
              have hF251_ := hF242_.tr hF250_ (fun c k => (fun h => h.elim (fun h => (Or.inr (Or.inr (Or.inr (Or.inr (Or.inl ⟨h.1, h.2.1, h.2.2⟩)))))) (fun h => h.elim (fun h => (Or.inr (Or.inr (Or.inr (Or.inr (Or.inr (Or.inl ⟨h.1, h.2⟩))))))) (fun h => h.elim))))
              have kf253_ : (M246_.1 (12, 0, 0) 11).toInt + ((m : Nat) : Int) = 5 := by rw [(hF250_ (12, 0, 0) 11 (by simp [S_codes]))]; exact kf245_
              refine w_aload_n dX12_term_64 rfl 1 rfl ?_
              refine w_bipush (v := 42) dX12_term_65 (by decide) ?_
              refine w_callV (as := [vI 42]) (rest := []) (c_X12_takes l G cy ad ((N + d) + 8) 42 ((s + 1) - 1) (D + 1) ((M_51.1 (12, 0, 0) 9).toInt) T M246_ hI249_ h248_ (by first | decide | (unfold vF; omega) | (unfold vRw; omega))) kV_X12_takes pnn_17 (Nat.le_of_ble_eq_true rfl) m_1591 rfl rfl rfl ic_12 rfl rfl (by decide) (Nat.le_of_ble_eq_true rfl) dX12_term_67 (fun r254_ M255_ q256_ => ?_)
              obtain ⟨hI258_, hF259_, h257_, hs261_⟩ := q256_
              have hF260_ := hF251_.tr hF259_ (fun c k => (fun h => h.elim (fun h => (Or.inl ⟨h.1, h.2.1, h.2.2⟩)) (fun h => h.elim)))
              have kf262_ : (M255_.1 (12, 0, 0) 11).toInt + ((m : Nat) : Int) = 5 := by rw [(hF259_ (12, 0, 0) 11 (by simp [S_here]))]; exact kf253_
              rcases h257_ with ⟨rfl, h257_⟩ | ⟨rfl, h257_⟩
              · have h263_ : PP M255_ (((s + 1) - 1) + 1) (D + 1) ((M_51.1 (12, 0, 0) 9).toInt + 1) T := h257_.1
                have kf264_ : M255_.1 (12, 0, 0) 13 = 0 := h257_.2
                refine w_if_eq (tgt := 79) dX12_term_70 (by decide) li_1 (fun h9 => (absurd h9 (by decide))) (fun h265_ => ?_)
                refine w_sipush (v := 2005) dX12_term_73 (by decide) ?_
                refine w_goto (tgt := 110) dX12_term_76 (by decide) ?_
                refine w_istore_n (ls' := [(1, vI 2005), (0, vR (12, 0, 0))]) dX12_term_110 rfl (by decide) rfl ?_
                refine w_goto (tgt := 51) dX12_term_111 (by decide) ?_
                refine w_loc (ls' := [(1, vI 2005), (0, vR (12, 0, 0))]) [0, 1] rfl ?_
                exact ih_51 M255_ hI258_ hF260_ 2005 (lf_c_X12_term_6 ) (PP_mono h263_ (lf_c_X12_term_7 M255_ M_51 s D T hs h263_ ) (lf_c_X12_term_8 M_51 a kf235_ kf235_ )) kf262_ (RCH.tail hL_51 ⟨hv0_51, hI_51, hF_51, h233_, h234_, M237_, hI240_, hF241_, hs243_, M246_, hI249_, hF250_, hs252_, M255_, hI258_, hF259_, (Or.inl ⟨hs261_, h263_, rfl, rfl⟩)⟩) (Nat.lt_of_lt_of_le (PP_meas (A := (M_51.1 (12, 0, 0) 9).toInt) (x := v1_51) (x' := (2005 : Int32)) (PP_mono h263_ (Int.le_refl _) (lf_c_X12_term_96 M11_ M159_ M1_ M237_ M246_ M255_ M85_ M_51 Mz m s D a T hs hk hm kf9_ kf18_ kf92_ kf166_ kv0_51 kf235_ kf235_ kf245_ kf253_ kf262_ h263_ kf264_ )) rfl (lf_c_X12_term_2 v1_51 h234_ )) (Nat.le_of_lt_succ hm_51))
              · refine w_if_eq (tgt := 79) dX12_term_70 (by decide) li_0 (fun h266_ => ?_) (fun h9 => (absurd h9 (by decide)))
                refine w_aload_n dX12_term_79 rfl 1 rfl ?_
                refine w_bipush (v := 47) dX12_term_80 (by decide) ?_
                refine w_callV (as := [vI 47]) (rest := []) (c_X12_takes l G cy ad ((N + d) + 8) 47 ((s + 1) - 1) (D + 1) ((M_51.1 (12, 0, 0) 9).toInt) T M255_ hI258_ h257_ (by first | decide | (unfold vF; omega) | (unfold vRw; omega))) kV_X12_takes pnn_17 (Nat.le_of_ble_eq_true rfl) m_1591 rfl rfl rfl ic_12 rfl rfl (by decide) (Nat.le_of_ble_eq_true rfl) dX12_term_82 (fun r267_ M268_ q269_ => ?_)
                obtain ⟨hI271_, hF272_, h270_, hs274_⟩ := q269_
                have hF273_ := hF260_.tr hF272_ (fun c k => (fun h => h.elim (fun h => (Or.inl ⟨h.1, h.2.1, h.2.2⟩)) (fun h => h.elim)))
                have kf275_ : (M268_.1 (12, 0, 0) 11).toInt + ((m : Nat) : Int) = 5 := by rw [(hF272_ (12, 0, 0) 11 (by simp [S_here]))]; exact kf262_
                rcases h270_ with ⟨rfl, h270_⟩ | ⟨rfl, h270_⟩
                · have h276_ : PP M268_ (((s + 1) - 1) + 1) (D + 1) ((M_51.1 (12, 0, 0) 9).toInt + 1) T := h270_.1
                  have kf277_ : M268_.1 (12, 0, 0) 13 = 0 := h270_.2
                  refine w_if_eq (tgt := 94) dX12_term_85 (by decide) li_1 (fun h9 => (absurd h9 (by decide))) (fun h278_ => ?_)
                  refine w_sipush (v := 2006) dX12_term_88 (by decide) ?_
                  refine w_goto (tgt := 110) dX12_term_91 (by decide) ?_
                  refine w_istore_n (ls' := [(1, vI 2006), (0, vR (12, 0, 0))]) dX12_term_110 rfl (by decide) rfl ?_
                  refine w_goto (tgt := 51) dX12_term_111 (by decide) ?_
                  refine w_loc (ls' := [(1, vI 2006), (0, vR (12, 0, 0))]) [0, 1] rfl ?_
                  exact ih_51 M268_ hI271_ hF273_ 2006 (lf_c_X12_term_11 ) (PP_mono h276_ (lf_c_X12_term_12 M268_ M_51 s D T hs h276_ ) (lf_c_X12_term_8 M_51 a kf235_ kf235_ )) kf275_ (RCH.tail hL_51 ⟨hv0_51, hI_51, hF_51, h233_, h234_, M237_, hI240_, hF241_, hs243_, M246_, hI249_, hF250_, hs252_, M255_, hI258_, hF259_, (Or.inr ⟨hs261_, M268_, hI271_, hF272_, (Or.inl ⟨hs274_, h276_, rfl, rfl⟩)⟩)⟩) (Nat.lt_of_lt_of_le (PP_meas (A := (M_51.1 (12, 0, 0) 9).toInt) (x := v1_51) (x' := (2006 : Int32)) (PP_mono h276_ (Int.le_refl _) (lf_c_X12_term_101 M11_ M159_ M1_ M237_ M246_ M255_ M268_ M85_ M_51 Mz m s D a T hs hk hm kf9_ kf18_ kf92_ kf166_ kv0_51 kf235_ kf235_ kf245_ kf253_ kf262_ kf275_ h276_ kf277_ )) rfl (lf_c_X12_term_2 v1_51 h234_ )) (Nat.le_of_lt_succ hm_51))
                · refine w_if_eq (tgt := 94) dX12_term_85 (by decide) li_0 (fun h279_ => ?_) (fun h9 => (absurd h9 (by decide)))
                  refine w_aload_n dX12_term_94 rfl 1 rfl ?_
                  refine w_bipush (v := 37) dX12_term_95 (by decide) ?_
                  refine w_callV (as := [vI 37]) (rest := []) (c_X12_takes l G cy ad ((N + d) + 8) 37 ((s + 1) - 1) (D + 1) ((M_51.1 (12, 0, 0) 9).toInt) T M268_ hI271_ h270_ (by first | decide | (unfold vF; omega) | (unfold vRw; omega))) kV_X12_takes pnn_17 (Nat.le_of_ble_eq_true rfl) m_1591 rfl rfl rfl ic_12 rfl rfl (by decide) (Nat.le_of_ble_eq_true rfl) dX12_term_97 (fun r280_ M281_ q282_ => ?_)
                  obtain ⟨hI284_, hF285_, h283_, hs287_⟩ := q282_
                  have hF286_ := hF273_.tr hF285_ (fun c k => (fun h => h.elim (fun h => (Or.inl ⟨h.1, h.2.1, h.2.2⟩)) (fun h => h.elim)))
                  have kf288_ : (M281_.1 (12, 0, 0) 11).toInt + ((m : Nat) : Int) = 5 := by rw [(hF285_ (12, 0, 0) 11 (by simp [S_here]))]; exact kf275_
                  rcases h283_ with ⟨rfl, h283_⟩ | ⟨rfl, h283_⟩
                  · have h289_ : PP M281_ (((s + 1) - 1) + 1) (D + 1) ((M_51.1 (12, 0, 0) 9).toInt + 1) T := h283_.1
                    have kf290_ : M281_.1 (12, 0, 0) 13 = 0 := h283_.2
                    refine w_if_eq (tgt := 109) dX12_term_100 (by decide) li_1 (fun h9 => (absurd h9 (by decide))) (fun h291_ => ?_)
                    refine w_sipush (v := 2007) dX12_term_103 (by decide) ?_
                    refine w_goto (tgt := 110) dX12_term_106 (by decide) ?_
                    refine w_istore_n (ls' := [(1, vI 2007), (0, vR (12, 0, 0))]) dX12_term_110 rfl (by decide) rfl ?_
                    refine w_goto (tgt := 51) dX12_term_111 (by decide) ?_
                    refine w_loc (ls' := [(1, vI 2007), (0, vR (12, 0, 0))]) [0, 1] rfl ?_
                    exact ih_51 M281_ hI284_ hF286_ 2007 (lf_c_X12_term_16 ) (PP_mono h289_ (lf_c_X12_term_17 M281_ M_51 s D T hs h289_ ) (lf_c_X12_term_8 M_51 a kf235_ kf235_ )) kf288_ (RCH.tail hL_51 ⟨hv0_51, hI_51, hF_51, h233_, h234_, M237_, hI240_, hF241_, hs243_, M246_, hI249_, hF250_, hs252_, M255_, hI258_, hF259_, (Or.inr ⟨hs261_, M268_, hI271_, hF272_, (Or.inr ⟨hs274_, M281_, hI284_, hF285_, (Or.inl ⟨hs287_, h289_, rfl, rfl⟩)⟩)⟩)⟩) (Nat.lt_of_lt_of_le (PP_meas (A := (M_51.1 (12, 0, 0) 9).toInt) (x := v1_51) (x' := (2007 : Int32)) (PP_mono h289_ (Int.le_refl _) (lf_c_X12_term_106 M11_ M159_ M1_ M237_ M246_ M255_ M268_ M281_ M85_ M_51 Mz m s D a T hs hk hm kf9_ kf18_ kf92_ kf166_ kv0_51 kf235_ kf235_ kf245_ kf253_ kf262_ kf275_ kf288_ h289_ kf290_ )) rfl (lf_c_X12_term_2 v1_51 h234_ )) (Nat.le_of_lt_succ hm_51))
                  · refine w_if_eq (tgt := 109) dX12_term_100 (by decide) li_0 (fun h292_ => ?_) (fun h9 => (absurd h9 (by decide)))
                    refine w_iconst (v := 0) dX12_term_109 (by decide) ?_
                    refine w_istore_n (ls' := [(1, vI 0), (0, vR (12, 0, 0))]) dX12_term_110 rfl (by decide) rfl ?_
                    refine w_goto (tgt := 51) dX12_term_111 (by decide) ?_
                    refine w_loc (ls' := [(1, vI 0), (0, vR (12, 0, 0))]) [0, 1] rfl ?_
                    exact ih_51 M281_ hI284_ hF286_ 0 (lf_c_X12_term_21 ) (PP_mono h283_ (lf_c_X12_term_22 M281_ M_51 s D T hs h283_ ) (lf_c_X12_term_23 M_51 a kf235_ kf235_ )) kf288_ (RCH.tail hL_51 ⟨hv0_51, hI_51, hF_51, h233_, h234_, M237_, hI240_, hF241_, hs243_, M246_, hI249_, hF250_, hs252_, M255_, hI258_, hF259_, (Or.inr ⟨hs261_, M268_, hI271_, hF272_, (Or.inr ⟨hs274_, M281_, hI284_, hF285_, (Or.inr ⟨hs287_, h283_, rfl, rfl⟩)⟩)⟩)⟩) (Nat.lt_of_lt_of_le (PP_meas (A := (M_51.1 (12, 0, 0) 9).toInt) (x := v1_51) (x' := (0 : Int32)) (PP_mono h283_ (Int.le_refl _) (lf_c_X12_term_111 M11_ M159_ M1_ M237_ M246_ M255_ M268_ M281_ M85_ M_51 Mz m s D a T hs hk hm kf9_ kf18_ kf92_ kf166_ kv0_51 kf235_ kf235_ kf245_ kf253_ kf262_ kf275_ kf288_ h283_ )) rfl (lf_c_X12_term_2 v1_51 h234_ )) (Nat.le_of_lt_succ hm_51))
        exact lp232_ _ M159_ hI162_ hF164_ 0 (lf_c_X12_term_21 ) (PP_mono h161_ (lf_c_X12_term_114 M159_ s D a T hs h161_ ) (Int.le_refl _)) kf166_ RCH.refl (Nat.lt_succ_self _)
def ST_X12_sum_36 (N : Nat) (m : Nat) (QA : mM → mM → Prop) (QB : mM → mM → Prop) (s : Int) (D : Nat) (T : Int) (Mz : mM) (v1_36 : Int32) (M_36 : mM) (v1_36y : Int32) (M_36y : mM) : Prop := (v1_36.toInt = 0 ∨ (2003 ≤ v1_36.toInt ∧ v1_36.toInt ≤ 2004)) ∧ (InvD M_36) ∧ (FR (S_par) Mz M_36) ∧ (0 ≤ isX v1_36 ∧ isX v1_36 ≤ 1) ∧ (0 < v1_36.toInt) ∧ ∃ M27_ : mM, (InvD M27_) ∧ (FR (S_par) M_36 M27_) ∧ (SP_X12_term N m QA QB (s + 1) (D + 1) ((M_36.1 (12, 0, 0) 9).toInt) T M_36 M27_) ∧ ∃ M36_ : mM, (InvD M36_) ∧ (FR (S_codes) M27_ M36_) ∧ (SP_X12_codes v1_36 (s + 1) ((D + 1) + 1) ((M_36.1 (12, 0, 0) 9).toInt) T (D + 1) M27_ M36_) ∧ ∃ M45_ : mM, (InvD M45_) ∧ (FR (S_here) M36_ M45_) ∧ (((SP_X12_takes 43 ((s + 1) - 1) (D + 1) ((M_36.1 (12, 0, 0) 9).toInt) T M36_ (1 : Int32) M45_) ∧ (PP M45_ (((s + 1) - 1) + 1) (D + 1) ((M_36.1 (12, 0, 0) 9).toInt + 1) T) ∧ v1_36y = 2003 ∧ M_36y = M45_) ∨ ((SP_X12_takes 43 ((s + 1) - 1) (D + 1) ((M_36.1 (12, 0, 0) 9).toInt) T M36_ (0 : Int32) M45_) ∧ ∃ M58_ : mM, (InvD M58_) ∧ (FR (S_here) M45_ M58_) ∧ (((SP_X12_takes 45 ((s + 1) - 1) (D + 1) ((M_36.1 (12, 0, 0) 9).toInt) T M45_ (1 : Int32) M58_) ∧ (PP M58_ (((s + 1) - 1) + 1) (D + 1) ((M_36.1 (12, 0, 0) 9).toInt + 1) T) ∧ v1_36y = 2004 ∧ M_36y = M58_) ∨ ((SP_X12_takes 45 ((s + 1) - 1) (D + 1) ((M_36.1 (12, 0, 0) 9).toInt) T M45_ (0 : Int32) M58_) ∧ (PP M58_ ((s + 1) - 1) (D + 1) (M_36.1 (12, 0, 0) 9).toInt T) ∧ v1_36y = 0 ∧ M_36y = M58_))))
def ST_X12_sum_36b (N : Nat) (m : Nat) (QA : mM → mM → Prop) (QB : mM → mM → Prop) (s : Int) (D : Nat) (T : Int) (Mz : mM) (v1_36 : Int32) (M_36 : mM) (v1_36y : Int32) (M_36y : mM) : Prop := (v1_36.toInt = 0 ∨ (2003 ≤ v1_36.toInt ∧ v1_36.toInt ≤ 2004)) ∧ (InvD M_36) ∧ (FR (S_par) Mz M_36) ∧ (0 ≤ isX v1_36 ∧ isX v1_36 ≤ 1) ∧ (0 < v1_36.toInt) ∧ ∃ M88_ : mM, (InvD M88_) ∧ (FR (S_par) M_36 M88_) ∧ (SP_X12_term N m QA QB (s + 1) (D + 1) ((M_36.1 (12, 0, 0) 9).toInt) T M_36 M88_) ∧ ∃ M97_ : mM, (InvD M97_) ∧ (FR (S_codes) M88_ M97_) ∧ (SP_X12_codes v1_36 (s + 1) ((D + 1) + 1) ((M_36.1 (12, 0, 0) 9).toInt) T (D + 1) M88_ M97_) ∧ ∃ M106_ : mM, (InvD M106_) ∧ (FR (S_here) M97_ M106_) ∧ (((SP_X12_takes 43 ((s + 1) - 1) (D + 1) ((M_36.1 (12, 0, 0) 9).toInt) T M97_ (1 : Int32) M106_) ∧ (PP M106_ (((s + 1) - 1) + 1) (D + 1) ((M_36.1 (12, 0, 0) 9).toInt + 1) T) ∧ v1_36y = 2003 ∧ M_36y = M106_) ∨ ((SP_X12_takes 43 ((s + 1) - 1) (D + 1) ((M_36.1 (12, 0, 0) 9).toInt) T M97_ (0 : Int32) M106_) ∧ ∃ M119_ : mM, (InvD M119_) ∧ (FR (S_here) M106_ M119_) ∧ (((SP_X12_takes 45 ((s + 1) - 1) (D + 1) ((M_36.1 (12, 0, 0) 9).toInt) T M106_ (1 : Int32) M119_) ∧ (PP M119_ (((s + 1) - 1) + 1) (D + 1) ((M_36.1 (12, 0, 0) 9).toInt + 1) T) ∧ v1_36y = 2004 ∧ M_36y = M119_) ∨ ((SP_X12_takes 45 ((s + 1) - 1) (D + 1) ((M_36.1 (12, 0, 0) 9).toInt) T M106_ (0 : Int32) M119_) ∧ (PP M119_ ((s + 1) - 1) (D + 1) (M_36.1 (12, 0, 0) 9).toInt T) ∧ v1_36y = 0 ∧ M_36y = M119_))))
def ST_X12_sum_36c (N : Nat) (m : Nat) (QA : mM → mM → Prop) (QB : mM → mM → Prop) (s : Int) (D : Nat) (T : Int) (Mz : mM) (v1_36 : Int32) (M_36 : mM) (v1_36y : Int32) (M_36y : mM) : Prop := (v1_36.toInt = 0 ∨ (2003 ≤ v1_36.toInt ∧ v1_36.toInt ≤ 2004)) ∧ (InvD M_36) ∧ (FR (S_par) Mz M_36) ∧ (0 ≤ isX v1_36 ∧ isX v1_36 ≤ 1) ∧ (0 < v1_36.toInt) ∧ ∃ M137_ : mM, (InvD M137_) ∧ (FR (S_par) M_36 M137_) ∧ (SP_X12_term N m QA QB (s + 1) (D + 1) ((M_36.1 (12, 0, 0) 9).toInt) T M_36 M137_) ∧ ∃ M146_ : mM, (InvD M146_) ∧ (FR (S_codes) M137_ M146_) ∧ (SP_X12_codes v1_36 (s + 1) ((D + 1) + 1) ((M_36.1 (12, 0, 0) 9).toInt) T (D + 1) M137_ M146_) ∧ ∃ M155_ : mM, (InvD M155_) ∧ (FR (S_here) M146_ M155_) ∧ (((SP_X12_takes 43 ((s + 1) - 1) (D + 1) ((M_36.1 (12, 0, 0) 9).toInt) T M146_ (1 : Int32) M155_) ∧ (PP M155_ (((s + 1) - 1) + 1) (D + 1) ((M_36.1 (12, 0, 0) 9).toInt + 1) T) ∧ v1_36y = 2003 ∧ M_36y = M155_) ∨ ((SP_X12_takes 43 ((s + 1) - 1) (D + 1) ((M_36.1 (12, 0, 0) 9).toInt) T M146_ (0 : Int32) M155_) ∧ ∃ M168_ : mM, (InvD M168_) ∧ (FR (S_here) M155_ M168_) ∧ (((SP_X12_takes 45 ((s + 1) - 1) (D + 1) ((M_36.1 (12, 0, 0) 9).toInt) T M155_ (1 : Int32) M168_) ∧ (PP M168_ (((s + 1) - 1) + 1) (D + 1) ((M_36.1 (12, 0, 0) 9).toInt + 1) T) ∧ v1_36y = 2004 ∧ M_36y = M168_) ∨ ((SP_X12_takes 45 ((s + 1) - 1) (D + 1) ((M_36.1 (12, 0, 0) 9).toInt) T M155_ (0 : Int32) M168_) ∧ (PP M168_ ((s + 1) - 1) (D + 1) (M_36.1 (12, 0, 0) 9).toInt T) ∧ v1_36y = 0 ∧ M_36y = M168_))))
def SP_X12_sum (N : Nat) (m : Nat) (QA : mM → mM → Prop) (QB : mM → mM → Prop) (s : Int) (D : Nat) (a : Int) (T : Int) (Mz : mM) (M_ : mM) : Prop := ∃ M1_ : mM, (InvD M1_) ∧ (FR (S_par) Mz M1_) ∧ (SP_X12_term N m QA QB s D a T Mz M1_) ∧ ∃ M11_ : mM, (InvD M11_) ∧ (FR (S_here) M1_ M11_) ∧ (((SP_X12_takes 43 s (D + 1) a T M1_ (1 : Int32) M11_) ∧ ∃ v1_36 : Int32, (v1_36.toInt = 0 ∨ (2003 ≤ v1_36.toInt ∧ v1_36.toInt ≤ 2004)) ∧ ∃ M_36 : mM, (RCH (fun x_ y_ => ST_X12_sum_36 N m QA QB s D T Mz x_.1 x_.2 y_.1 y_.2) ((2003 : Int32), M11_) (v1_36, M_36)) ∧ (InvD M_36) ∧ (FR (S_par) Mz M_36) ∧ (PP M_36 (s + isX v1_36) (D + 1) a T) ∧ (0 ≤ isX v1_36 ∧ isX v1_36 ≤ 1) ∧ (v1_36.toInt ≤ 0) ∧ M_ = M_36) ∨ ((SP_X12_takes 43 s (D + 1) a T M1_ (0 : Int32) M11_) ∧ ∃ M72_ : mM, (InvD M72_) ∧ (FR (S_here) M11_ M72_) ∧ (((SP_X12_takes 45 s (D + 1) a T M11_ (1 : Int32) M72_) ∧ ∃ v1_36 : Int32, (v1_36.toInt = 0 ∨ (2003 ≤ v1_36.toInt ∧ v1_36.toInt ≤ 2004)) ∧ ∃ M_36 : mM, (RCH (fun x_ y_ => ST_X12_sum_36b N m QA QB s D T Mz x_.1 x_.2 y_.1 y_.2) ((2004 : Int32), M72_) (v1_36, M_36)) ∧ (InvD M_36) ∧ (FR (S_par) Mz M_36) ∧ (PP M_36 (s + isX v1_36) (D + 1) a T) ∧ (0 ≤ isX v1_36 ∧ isX v1_36 ≤ 1) ∧ (v1_36.toInt ≤ 0) ∧ M_ = M_36) ∨ ((SP_X12_takes 45 s (D + 1) a T M11_ (0 : Int32) M72_) ∧ ∃ v1_36 : Int32, (v1_36.toInt = 0 ∨ (2003 ≤ v1_36.toInt ∧ v1_36.toInt ≤ 2004)) ∧ ∃ M_36 : mM, (RCH (fun x_ y_ => ST_X12_sum_36c N m QA QB s D T Mz x_.1 x_.2 y_.1 y_.2) ((0 : Int32), M72_) (v1_36, M_36)) ∧ (InvD M_36) ∧ (FR (S_par) Mz M_36) ∧ (PP M_36 (s + isX v1_36) (D + 1) a T) ∧ (0 ≤ isX v1_36 ∧ isX v1_36 ≤ 1) ∧ (v1_36.toInt ≤ 0) ∧ M_ = M_36))))
theorem lf_c_X12_sum_0 (M_36 : mM) (s : Int) (D : Nat) (a : Int) (T : Int) (v1_36 : Int32) (hs : 0 ≤ s) (hv0_36 : v1_36.toInt = 0 ∨ (2003 ≤ v1_36.toInt ∧ v1_36.toInt ≤ 2004)) (hv1_36 : PP M_36 (s + isX v1_36) (D + 1) a T) (h23_ : 0 ≤ isX v1_36 ∧ isX v1_36 ≤ 1) (h24_ : v1_36.toInt ≤ 0) : s ≤ (s + isX v1_36) := by have r_v1_36 := rngI v1_36; omega
theorem lf_c_X12_sum_5 (v1_36 : Int32) (hv0_36 : v1_36.toInt = 0 ∨ (2003 ≤ v1_36.toInt ∧ v1_36.toInt ≤ 2004)) (h24_ : 0 < v1_36.toInt) : 2000 ≤ v1_36.toInt ∧ v1_36.toInt < 2008 := by omega
theorem lf_c_X12_sum_6 : (2003 : Int32).toInt = 0 ∨ (2003 ≤ (2003 : Int32).toInt ∧ (2003 : Int32).toInt ≤ 2004) := by have q0 := li_2003; omega
theorem lf_c_X12_sum_7 (M45_ : mM) (M_36 : mM) (s : Int) (D : Nat) (T : Int) (hs : 0 ≤ s) (h53_ : PP M45_ (((s + 1) - 1) + 1) (D + 1) ((M_36.1 (12, 0, 0) 9).toInt + 1) T) : (s + isX (2003 : Int32)) ≤ (((s + 1) - 1) + 1) := by have h9 := isX_p (v := (2003 : Int32)) (by decide); omega
theorem lf_c_X12_sum_9 (M11_ : mM) (M1_ : mM) (M27_ : mM) (M36_ : mM) (M45_ : mM) (M_36 : mM) (Mz : mM) (m : Nat) (s : Int) (D : Nat) (a : Int) (T : Int) (hs : 0 ≤ s) (hk : (Mz.1 (12, 0, 0) 11).toInt + ((m : Nat) : Int) = 5) (hm : m ≤ 5) (kf9_ : (M1_.1 (12, 0, 0) 11).toInt + ((m : Nat) : Int) = 5) (kf18_ : (M11_.1 (12, 0, 0) 11).toInt + ((m : Nat) : Int) = 5) (kf20_ : M11_.1 (12, 0, 0) 13 = 0) (kv0_36 : (M_36.1 (12, 0, 0) 11).toInt + ((m : Nat) : Int) = 5) (kf25_ : a ≤ (M_36.1 (12, 0, 0) 9).toInt) (kf25_ : a ≤ (M_36.1 (12, 0, 0) 9).toInt) (kf35_ : (M27_.1 (12, 0, 0) 11).toInt + ((m : Nat) : Int) = 5) (kf43_ : (M36_.1 (12, 0, 0) 11).toInt + ((m : Nat) : Int) = 5) (kf52_ : (M45_.1 (12, 0, 0) 11).toInt + ((m : Nat) : Int) = 5) (h53_ : PP M45_ (((s + 1) - 1) + 1) (D + 1) ((M_36.1 (12, 0, 0) 9).toInt + 1) T) (kf54_ : M45_.1 (12, 0, 0) 13 = 0) : (M_36.1 (12, 0, 0) 9).toInt + isX (2003 : Int32) ≤ ((M_36.1 (12, 0, 0) 9).toInt + 1) := by have h9 := isX_p (v := (2003 : Int32)) (by decide); omega
theorem lf_c_X12_sum_11 : (2004 : Int32).toInt = 0 ∨ (2003 ≤ (2004 : Int32).toInt ∧ (2004 : Int32).toInt ≤ 2004) := by have q0 := li_2004; omega
theorem lf_c_X12_sum_12 (M58_ : mM) (M_36 : mM) (s : Int) (D : Nat) (T : Int) (hs : 0 ≤ s) (h66_ : PP M58_ (((s + 1) - 1) + 1) (D + 1) ((M_36.1 (12, 0, 0) 9).toInt + 1) T) : (s + isX (2004 : Int32)) ≤ (((s + 1) - 1) + 1) := by have h9 := isX_p (v := (2004 : Int32)) (by decide); omega
theorem lf_c_X12_sum_14 (M11_ : mM) (M1_ : mM) (M27_ : mM) (M36_ : mM) (M45_ : mM) (M58_ : mM) (M_36 : mM) (Mz : mM) (m : Nat) (s : Int) (D : Nat) (a : Int) (T : Int) (hs : 0 ≤ s) (hk : (Mz.1 (12, 0, 0) 11).toInt + ((m : Nat) : Int) = 5) (hm : m ≤ 5) (kf9_ : (M1_.1 (12, 0, 0) 11).toInt + ((m : Nat) : Int) = 5) (kf18_ : (M11_.1 (12, 0, 0) 11).toInt + ((m : Nat) : Int) = 5) (kf20_ : M11_.1 (12, 0, 0) 13 = 0) (kv0_36 : (M_36.1 (12, 0, 0) 11).toInt + ((m : Nat) : Int) = 5) (kf25_ : a ≤ (M_36.1 (12, 0, 0) 9).toInt) (kf25_ : a ≤ (M_36.1 (12, 0, 0) 9).toInt) (kf35_ : (M27_.1 (12, 0, 0) 11).toInt + ((m : Nat) : Int) = 5) (kf43_ : (M36_.1 (12, 0, 0) 11).toInt + ((m : Nat) : Int) = 5) (kf52_ : (M45_.1 (12, 0, 0) 11).toInt + ((m : Nat) : Int) = 5) (kf65_ : (M58_.1 (12, 0, 0) 11).toInt + ((m : Nat) : Int) = 5) (h66_ : PP M58_ (((s + 1) - 1) + 1) (D + 1) ((M_36.1 (12, 0, 0) 9).toInt + 1) T) (kf67_ : M58_.1 (12, 0, 0) 13 = 0) : (M_36.1 (12, 0, 0) 9).toInt + isX (2004 : Int32) ≤ ((M_36.1 (12, 0, 0) 9).toInt + 1) := by have h9 := isX_p (v := (2004 : Int32)) (by decide); omega
theorem lf_c_X12_sum_16 : (0 : Int32).toInt = 0 ∨ (2003 ≤ (0 : Int32).toInt ∧ (0 : Int32).toInt ≤ 2004) := by have q0 := li_0; omega
theorem lf_c_X12_sum_19 (M11_ : mM) (M1_ : mM) (M27_ : mM) (M36_ : mM) (M45_ : mM) (M58_ : mM) (M_36 : mM) (Mz : mM) (m : Nat) (s : Int) (D : Nat) (a : Int) (T : Int) (hs : 0 ≤ s) (hk : (Mz.1 (12, 0, 0) 11).toInt + ((m : Nat) : Int) = 5) (hm : m ≤ 5) (kf9_ : (M1_.1 (12, 0, 0) 11).toInt + ((m : Nat) : Int) = 5) (kf18_ : (M11_.1 (12, 0, 0) 11).toInt + ((m : Nat) : Int) = 5) (kf20_ : M11_.1 (12, 0, 0) 13 = 0) (kv0_36 : (M_36.1 (12, 0, 0) 11).toInt + ((m : Nat) : Int) = 5) (kf25_ : a ≤ (M_36.1 (12, 0, 0) 9).toInt) (kf25_ : a ≤ (M_36.1 (12, 0, 0) 9).toInt) (kf35_ : (M27_.1 (12, 0, 0) 11).toInt + ((m : Nat) : Int) = 5) (kf43_ : (M36_.1 (12, 0, 0) 11).toInt + ((m : Nat) : Int) = 5) (kf52_ : (M45_.1 (12, 0, 0) 11).toInt + ((m : Nat) : Int) = 5) (kf65_ : (M58_.1 (12, 0, 0) 11).toInt + ((m : Nat) : Int) = 5) (h60_ : PP M58_ ((s + 1) - 1) (D + 1) (M_36.1 (12, 0, 0) 9).toInt T) : (M_36.1 (12, 0, 0) 9).toInt + isX (0 : Int32) ≤ (M_36.1 (12, 0, 0) 9).toInt := by have h9 := isX_0 (v := (0 : Int32)) (by decide); omega
theorem lf_c_X12_sum_22 (M11_ : mM) (s : Int) (D : Nat) (a : Int) (T : Int) (hs : 0 ≤ s) (h19_ : PP M11_ (s + 1) (D + 1) (a + 1) T) : (s + isX (2003 : Int32)) ≤ (s + 1) := by have h9 := isX_p (v := (2003 : Int32)) (by decide); omega
theorem lf_c_X12_sum_33 (M106_ : mM) (M11_ : mM) (M1_ : mM) (M72_ : mM) (M88_ : mM) (M97_ : mM) (M_36 : mM) (Mz : mM) (m : Nat) (s : Int) (D : Nat) (a : Int) (T : Int) (hs : 0 ≤ s) (hk : (Mz.1 (12, 0, 0) 11).toInt + ((m : Nat) : Int) = 5) (hm : m ≤ 5) (kf9_ : (M1_.1 (12, 0, 0) 11).toInt + ((m : Nat) : Int) = 5) (kf18_ : (M11_.1 (12, 0, 0) 11).toInt + ((m : Nat) : Int) = 5) (kf79_ : (M72_.1 (12, 0, 0) 11).toInt + ((m : Nat) : Int) = 5) (kf81_ : M72_.1 (12, 0, 0) 13 = 0) (kv0_36 : (M_36.1 (12, 0, 0) 11).toInt + ((m : Nat) : Int) = 5) (kf86_ : a ≤ (M_36.1 (12, 0, 0) 9).toInt) (kf86_ : a ≤ (M_36.1 (12, 0, 0) 9).toInt) (kf96_ : (M88_.1 (12, 0, 0) 11).toInt + ((m : Nat) : Int) = 5) (kf104_ : (M97_.1 (12, 0, 0) 11).toInt + ((m : Nat) : Int) = 5) (kf113_ : (M106_.1 (12, 0, 0) 11).toInt + ((m : Nat) : Int) = 5) (h114_ : PP M106_ (((s + 1) - 1) + 1) (D + 1) ((M_36.1 (12, 0, 0) 9).toInt + 1) T) (kf115_ : M106_.1 (12, 0, 0) 13 = 0) : (M_36.1 (12, 0, 0) 9).toInt + isX (2003 : Int32) ≤ ((M_36.1 (12, 0, 0) 9).toInt + 1) := by have h9 := isX_p (v := (2003 : Int32)) (by decide); omega
theorem lf_c_X12_sum_38 (M106_ : mM) (M119_ : mM) (M11_ : mM) (M1_ : mM) (M72_ : mM) (M88_ : mM) (M97_ : mM) (M_36 : mM) (Mz : mM) (m : Nat) (s : Int) (D : Nat) (a : Int) (T : Int) (hs : 0 ≤ s) (hk : (Mz.1 (12, 0, 0) 11).toInt + ((m : Nat) : Int) = 5) (hm : m ≤ 5) (kf9_ : (M1_.1 (12, 0, 0) 11).toInt + ((m : Nat) : Int) = 5) (kf18_ : (M11_.1 (12, 0, 0) 11).toInt + ((m : Nat) : Int) = 5) (kf79_ : (M72_.1 (12, 0, 0) 11).toInt + ((m : Nat) : Int) = 5) (kf81_ : M72_.1 (12, 0, 0) 13 = 0) (kv0_36 : (M_36.1 (12, 0, 0) 11).toInt + ((m : Nat) : Int) = 5) (kf86_ : a ≤ (M_36.1 (12, 0, 0) 9).toInt) (kf86_ : a ≤ (M_36.1 (12, 0, 0) 9).toInt) (kf96_ : (M88_.1 (12, 0, 0) 11).toInt + ((m : Nat) : Int) = 5) (kf104_ : (M97_.1 (12, 0, 0) 11).toInt + ((m : Nat) : Int) = 5) (kf113_ : (M106_.1 (12, 0, 0) 11).toInt + ((m : Nat) : Int) = 5) (kf126_ : (M119_.1 (12, 0, 0) 11).toInt + ((m : Nat) : Int) = 5) (h127_ : PP M119_ (((s + 1) - 1) + 1) (D + 1) ((M_36.1 (12, 0, 0) 9).toInt + 1) T) (kf128_ : M119_.1 (12, 0, 0) 13 = 0) : (M_36.1 (12, 0, 0) 9).toInt + isX (2004 : Int32) ≤ ((M_36.1 (12, 0, 0) 9).toInt + 1) := by have h9 := isX_p (v := (2004 : Int32)) (by decide); omega
theorem lf_c_X12_sum_43 (M106_ : mM) (M119_ : mM) (M11_ : mM) (M1_ : mM) (M72_ : mM) (M88_ : mM) (M97_ : mM) (M_36 : mM) (Mz : mM) (m : Nat) (s : Int) (D : Nat) (a : Int) (T : Int) (hs : 0 ≤ s) (hk : (Mz.1 (12, 0, 0) 11).toInt + ((m : Nat) : Int) = 5) (hm : m ≤ 5) (kf9_ : (M1_.1 (12, 0, 0) 11).toInt + ((m : Nat) : Int) = 5) (kf18_ : (M11_.1 (12, 0, 0) 11).toInt + ((m : Nat) : Int) = 5) (kf79_ : (M72_.1 (12, 0, 0) 11).toInt + ((m : Nat) : Int) = 5) (kf81_ : M72_.1 (12, 0, 0) 13 = 0) (kv0_36 : (M_36.1 (12, 0, 0) 11).toInt + ((m : Nat) : Int) = 5) (kf86_ : a ≤ (M_36.1 (12, 0, 0) 9).toInt) (kf86_ : a ≤ (M_36.1 (12, 0, 0) 9).toInt) (kf96_ : (M88_.1 (12, 0, 0) 11).toInt + ((m : Nat) : Int) = 5) (kf104_ : (M97_.1 (12, 0, 0) 11).toInt + ((m : Nat) : Int) = 5) (kf113_ : (M106_.1 (12, 0, 0) 11).toInt + ((m : Nat) : Int) = 5) (kf126_ : (M119_.1 (12, 0, 0) 11).toInt + ((m : Nat) : Int) = 5) (h121_ : PP M119_ ((s + 1) - 1) (D + 1) (M_36.1 (12, 0, 0) 9).toInt T) : (M_36.1 (12, 0, 0) 9).toInt + isX (0 : Int32) ≤ (M_36.1 (12, 0, 0) 9).toInt := by have h9 := isX_0 (v := (0 : Int32)) (by decide); omega
theorem lf_c_X12_sum_46 (M72_ : mM) (s : Int) (D : Nat) (a : Int) (T : Int) (hs : 0 ≤ s) (h80_ : PP M72_ (s + 1) (D + 1) (a + 1) T) : (s + isX (2004 : Int32)) ≤ (s + 1) := by have h9 := isX_p (v := (2004 : Int32)) (by decide); omega
theorem lf_c_X12_sum_57 (M11_ : mM) (M137_ : mM) (M146_ : mM) (M155_ : mM) (M1_ : mM) (M72_ : mM) (M_36 : mM) (Mz : mM) (m : Nat) (s : Int) (D : Nat) (a : Int) (T : Int) (hs : 0 ≤ s) (hk : (Mz.1 (12, 0, 0) 11).toInt + ((m : Nat) : Int) = 5) (hm : m ≤ 5) (kf9_ : (M1_.1 (12, 0, 0) 11).toInt + ((m : Nat) : Int) = 5) (kf18_ : (M11_.1 (12, 0, 0) 11).toInt + ((m : Nat) : Int) = 5) (kf79_ : (M72_.1 (12, 0, 0) 11).toInt + ((m : Nat) : Int) = 5) (kv0_36 : (M_36.1 (12, 0, 0) 11).toInt + ((m : Nat) : Int) = 5) (kf135_ : a ≤ (M_36.1 (12, 0, 0) 9).toInt) (kf135_ : a ≤ (M_36.1 (12, 0, 0) 9).toInt) (kf145_ : (M137_.1 (12, 0, 0) 11).toInt + ((m : Nat) : Int) = 5) (kf153_ : (M146_.1 (12, 0, 0) 11).toInt + ((m : Nat) : Int) = 5) (kf162_ : (M155_.1 (12, 0, 0) 11).toInt + ((m : Nat) : Int) = 5) (h163_ : PP M155_ (((s + 1) - 1) + 1) (D + 1) ((M_36.1 (12, 0, 0) 9).toInt + 1) T) (kf164_ : M155_.1 (12, 0, 0) 13 = 0) : (M_36.1 (12, 0, 0) 9).toInt + isX (2003 : Int32) ≤ ((M_36.1 (12, 0, 0) 9).toInt + 1) := by have h9 := isX_p (v := (2003 : Int32)) (by decide); omega
theorem lf_c_X12_sum_62 (M11_ : mM) (M137_ : mM) (M146_ : mM) (M155_ : mM) (M168_ : mM) (M1_ : mM) (M72_ : mM) (M_36 : mM) (Mz : mM) (m : Nat) (s : Int) (D : Nat) (a : Int) (T : Int) (hs : 0 ≤ s) (hk : (Mz.1 (12, 0, 0) 11).toInt + ((m : Nat) : Int) = 5) (hm : m ≤ 5) (kf9_ : (M1_.1 (12, 0, 0) 11).toInt + ((m : Nat) : Int) = 5) (kf18_ : (M11_.1 (12, 0, 0) 11).toInt + ((m : Nat) : Int) = 5) (kf79_ : (M72_.1 (12, 0, 0) 11).toInt + ((m : Nat) : Int) = 5) (kv0_36 : (M_36.1 (12, 0, 0) 11).toInt + ((m : Nat) : Int) = 5) (kf135_ : a ≤ (M_36.1 (12, 0, 0) 9).toInt) (kf135_ : a ≤ (M_36.1 (12, 0, 0) 9).toInt) (kf145_ : (M137_.1 (12, 0, 0) 11).toInt + ((m : Nat) : Int) = 5) (kf153_ : (M146_.1 (12, 0, 0) 11).toInt + ((m : Nat) : Int) = 5) (kf162_ : (M155_.1 (12, 0, 0) 11).toInt + ((m : Nat) : Int) = 5) (kf175_ : (M168_.1 (12, 0, 0) 11).toInt + ((m : Nat) : Int) = 5) (h176_ : PP M168_ (((s + 1) - 1) + 1) (D + 1) ((M_36.1 (12, 0, 0) 9).toInt + 1) T) (kf177_ : M168_.1 (12, 0, 0) 13 = 0) : (M_36.1 (12, 0, 0) 9).toInt + isX (2004 : Int32) ≤ ((M_36.1 (12, 0, 0) 9).toInt + 1) := by have h9 := isX_p (v := (2004 : Int32)) (by decide); omega
theorem lf_c_X12_sum_67 (M11_ : mM) (M137_ : mM) (M146_ : mM) (M155_ : mM) (M168_ : mM) (M1_ : mM) (M72_ : mM) (M_36 : mM) (Mz : mM) (m : Nat) (s : Int) (D : Nat) (a : Int) (T : Int) (hs : 0 ≤ s) (hk : (Mz.1 (12, 0, 0) 11).toInt + ((m : Nat) : Int) = 5) (hm : m ≤ 5) (kf9_ : (M1_.1 (12, 0, 0) 11).toInt + ((m : Nat) : Int) = 5) (kf18_ : (M11_.1 (12, 0, 0) 11).toInt + ((m : Nat) : Int) = 5) (kf79_ : (M72_.1 (12, 0, 0) 11).toInt + ((m : Nat) : Int) = 5) (kv0_36 : (M_36.1 (12, 0, 0) 11).toInt + ((m : Nat) : Int) = 5) (kf135_ : a ≤ (M_36.1 (12, 0, 0) 9).toInt) (kf135_ : a ≤ (M_36.1 (12, 0, 0) 9).toInt) (kf145_ : (M137_.1 (12, 0, 0) 11).toInt + ((m : Nat) : Int) = 5) (kf153_ : (M146_.1 (12, 0, 0) 11).toInt + ((m : Nat) : Int) = 5) (kf162_ : (M155_.1 (12, 0, 0) 11).toInt + ((m : Nat) : Int) = 5) (kf175_ : (M168_.1 (12, 0, 0) 11).toInt + ((m : Nat) : Int) = 5) (h170_ : PP M168_ ((s + 1) - 1) (D + 1) (M_36.1 (12, 0, 0) 9).toInt T) : (M_36.1 (12, 0, 0) 9).toInt + isX (0 : Int32) ≤ (M_36.1 (12, 0, 0) 9).toInt := by have h9 := isX_0 (v := (0 : Int32)) (by decide); omega
set_option maxHeartbeats 4000000 in
set_option maxRecDepth 100000 in
theorem c_X12_sum (l : Launch) (G : va_G) (cy : Nat → ClassId) (ad : rf → Nat) (d : Nat) (N : Nat) (m : Nat) (QA : mM → mM → Prop) (QB : mM → mM → Prop) (s : Int) (D : Nat) (a : Int) (T : Int) (Mz : mM) (hIz : InvD Mz) (hA : ∀ k : Nat, k + 1 = m → ONED l G cy ad N k QA) (hB : ∀ k : Nat, k + 1 = m → TXTD l G cy ad N k QB) (hp : PP Mz s D a T) (hs : 0 ≤ s) (hk : (Mz.1 (12, 0, 0) 11).toInt + ((m : Nat) : Int) = 5) (hm : m ≤ 5) : WP DD l G cy ad yX12_sum cX12_sum 2 none ((N + d) + 11) 0 [(0, vR (12, 0, 0))] [] Mz (fun r M' => InvD M' ∧ FR (S_par) Mz M' ∧ (PP M' s (D + 1) a T ∧ (M'.1 (12, 0, 0) 11).toInt + ((m : Nat) : Int) = 5) ∧ SP_X12_sum N m QA QB s D a T Mz M') := by
  have hFz : FR (S_par) Mz Mz := FR.self
  refine w_aload_n dX12_sum_0 rfl 0 rfl ?_
  refine w_callVv (as := []) (rest := []) (c_X12_term l G cy ad d N m QA QB s D a T Mz hIz hA hB hp hs hk hm) kV_X12_term pnn_17 (Nat.le_of_ble_eq_true rfl) m_1567 rfl rfl rfl ic_12 rfl rfl (by decide) (Nat.le_of_ble_eq_true rfl) dX12_sum_1 (fun M1_ q2_ => ?_)
  obtain ⟨hI4_, hF5_, h3_, hs7_⟩ := q2_
  have hF6_ := hFz.tr hF5_ (fun c k => (fun h => h.elim (fun h => (Or.inl ⟨h.1, h.2.1, h.2.2⟩)) (fun h => h.elim (fun h => (Or.inr (Or.inl ⟨h.1, h.2.1, h.2.2⟩))) (fun h => h.elim (fun h => (Or.inr (Or.inr (Or.inl ⟨h.1, h.2.1, h.2.2⟩)))) (fun h => h.elim (fun h => (Or.inr (Or.inr (Or.inr (Or.inl ⟨h.1, h.2.1, h.2.2⟩))))) (fun h => h.elim (fun h => (Or.inr (Or.inr (Or.inr (Or.inr (Or.inl ⟨h.1, h.2.1, h.2.2⟩)))))) (fun h => h.elim (fun h => (Or.inr (Or.inr (Or.inr (Or.inr (Or.inr (Or.inl ⟨h.1, h.2⟩))))))) (fun h => h.elim))))))))
  have h8_ : PP M1_ s (D + 1) a T := h3_.1
  have kf9_ : (M1_.1 (12, 0, 0) 11).toInt + ((m : Nat) : Int) = 5 := h3_.2
  refine w_aload_n dX12_sum_4 rfl 0 rfl ?_
  refine w_bipush (v := 43) dX12_sum_5 (by decide) ?_
  refine w_callV (as := [vI 43]) (rest := []) (c_X12_takes l G cy ad ((N + d) + 9) 43 s (D + 1) a T M1_ hI4_ h8_ (by first | decide | (unfold vF; omega) | (unfold vRw; omega))) kV_X12_takes pnn_17 (Nat.le_of_ble_eq_true rfl) m_1591 rfl rfl rfl ic_12 rfl rfl (by decide) (Nat.le_of_ble_eq_true rfl) dX12_sum_7 (fun r10_ M11_ q12_ => ?_)
  obtain ⟨hI14_, hF15_, h13_, hs17_⟩ := q12_
  have hF16_ := hF6_.tr hF15_ (fun c k => (fun h => h.elim (fun h => (Or.inl ⟨h.1, h.2.1, h.2.2⟩)) (fun h => h.elim)))
  have kf18_ : (M11_.1 (12, 0, 0) 11).toInt + ((m : Nat) : Int) = 5 := by rw [(hF15_ (12, 0, 0) 11 (by simp [S_here]))]; exact kf9_
  rcases h13_ with ⟨rfl, h13_⟩ | ⟨rfl, h13_⟩
  · have h19_ : PP M11_ (s + 1) (D + 1) (a + 1) T := h13_.1
    have kf20_ : M11_.1 (12, 0, 0) 13 = 0 := h13_.2
    refine w_if_eq (tgt := 19) dX12_sum_10 (by decide) li_1 (fun h9 => (absurd h9 (by decide))) (fun h21_ => ?_)
    refine w_sipush (v := 2003) dX12_sum_13 (by decide) ?_
    refine w_goto (tgt := 35) dX12_sum_16 (by decide) ?_
    refine w_istore_n (ls' := [(1, vI 2003), (0, vR (12, 0, 0))]) dX12_sum_35 rfl (by decide) rfl ?_
    have lp22_ : ∀ (nn_36 : Nat) (M_36 : mM) (hI_36 : InvD M_36) (hF_36 : FR (S_par) Mz M_36) (v1_36 : Int32) (hv0_36 : v1_36.toInt = 0 ∨ (2003 ≤ v1_36.toInt ∧ v1_36.toInt ≤ 2004)) (hv1_36 : PP M_36 (s + isX v1_36) (D + 1) a T) (kv0_36 : (M_36.1 (12, 0, 0) 11).toInt + ((m : Nat) : Int) = 5) (hL_36 : RCH (fun x_ y_ => ST_X12_sum_36 N m QA QB s D T Mz x_.1 x_.2 y_.1 y_.2) ((2003 : Int32), M11_) (v1_36, M_36)), (2 * (T - (M_36.1 (12, 0, 0) 9).toInt) + isX v1_36).toNat < nn_36 → WP DD l G cy ad yX12_sum cX12_sum 2 none ((N + d) + 11) 36 [(1, vI v1_36), (0, vR (12, 0, 0))] [] M_36 (fun r M' => InvD M' ∧ FR (S_par) Mz M' ∧ (PP M' s (D + 1) a T ∧ (M'.1 (12, 0, 0) 11).toInt + ((m : Nat) : Int) = 5) ∧ SP_X12_sum N m QA QB s D a T Mz M') := by
      intro nn_36
      induction nn_36 with
      | zero => intro M_36 hI_36 hF_36 v1_36 hv0_36 hv1_36 kv0_36 hL_36 hm_36; exact absurd hm_36 (Nat.not_lt_zero _)
      | succ nn_36 ih_36 =>
        intro M_36 hI_36 hF_36 v1_36 hv0_36 hv1_36 kv0_36 hL_36 hm_36
        have h23_ : 0 ≤ isX v1_36 ∧ isX v1_36 ≤ 1 := isX_b v1_36
        refine w_iload_n dX12_sum_36 rfl 0 rfl ?_
        refine w_if_le (tgt := 84) dX12_sum_37 (by decide) (rfl : v1_36.toInt = v1_36.toInt) (fun h24_ => ?_) (fun h24_ => ?_)
        · exact w_vret rfl dX12_sum_84 ⟨hI_36, hF_36, ⟨PP_mono hv1_36 (lf_c_X12_sum_0 M_36 s D a T v1_36 hs hv0_36 hv1_36 h23_ h24_ ) (lf_c_X12_opens_41 a ), kv0_36⟩, ⟨M1_, hI4_, hF5_, hs7_, M11_, hI14_, hF15_, (Or.inl ⟨hs17_, v1_36, hv0_36, M_36, hL_36, hI_36, hF_36, hv1_36, h23_, h24_, rfl⟩)⟩⟩
        · have kf25_ : a ≤ (M_36.1 (12, 0, 0) 9).toInt := hv1_36.2.1
          have h26_ : PP M_36 (s + 1) (D + 1) (M_36.1 (12, 0, 0) 9).toInt T := PP_self (PP_mono hv1_36 (by rw [isX_p (lf_c_X12_term_2 v1_36 h24_ )]; exact Int.le_refl _) (Int.le_refl _))
          refine w_aload_n dX12_sum_40 rfl 1 rfl ?_
          refine w_callVv (as := []) (rest := []) (c_X12_term l G cy ad d N m QA QB (s + 1) (D + 1) ((M_36.1 (12, 0, 0) 9).toInt) T M_36 hI_36 hA hB h26_ (lf_c_X12_opens_8 s hs ) kv0_36 hm) kV_X12_term pnn_17 (Nat.le_of_ble_eq_true rfl) m_1567 rfl rfl rfl ic_12 rfl rfl (by decide) (Nat.le_of_ble_eq_true rfl) dX12_sum_41 (fun M27_ q28_ => ?_)
          obtain ⟨hI30_, hF31_, h29_, hs33_⟩ := q28_
          have hF32_ := hF_36.tr hF31_ (fun c k => (fun h => h.elim (fun h => (Or.inl ⟨h.1, h.2.1, h.2.2⟩)) (fun h => h.elim (fun h => (Or.inr (Or.inl ⟨h.1, h.2.1, h.2.2⟩))) (fun h => h.elim (fun h => (Or.inr (Or.inr (Or.inl ⟨h.1, h.2.1, h.2.2⟩)))) (fun h => h.elim (fun h => (Or.inr (Or.inr (Or.inr (Or.inl ⟨h.1, h.2.1, h.2.2⟩))))) (fun h => h.elim (fun h => (Or.inr (Or.inr (Or.inr (Or.inr (Or.inl ⟨h.1, h.2.1, h.2.2⟩)))))) (fun h => h.elim (fun h => (Or.inr (Or.inr (Or.inr (Or.inr (Or.inr (Or.inl ⟨h.1, h.2⟩))))))) (fun h => h.elim))))))))
          have h34_ : PP M27_ (s + 1) ((D + 1) + 1) (M_36.1 (12, 0, 0) 9).toInt T := h29_.1
          have kf35_ : (M27_.1 (12, 0, 0) 11).toInt + ((m : Nat) : Int) = 5 := h29_.2
          refine w_aload_n dX12_sum_44 rfl 1 rfl ?_
          refine w_iload_n dX12_sum_45 rfl 0 rfl ?_
          refine w_callVv (as := [vI v1_36]) (rest := []) (c_X12_codes l G cy ad ((N + d) + 10) v1_36 (s + 1) ((D + 1) + 1) ((M_36.1 (12, 0, 0) 9).toInt) T (D + 1) M27_ hI30_ h34_ (lf_c_X12_opens_8 s hs ) (stp_op (lf_c_X12_sum_5 v1_36 hv0_36 h24_ ))) kV_X12_codes pnn_17 (Nat.le_of_ble_eq_true rfl) m_1583 rfl rfl rfl ic_12 rfl rfl (by decide) (Nat.le_of_ble_eq_true rfl) dX12_sum_46 (fun M36_ q37_ => ?_)
          obtain ⟨hI39_, hF40_, h38_, hs42_⟩ := q37_
          have hF41_ := hF32_.tr hF40_ (fun c k => (fun h => h.elim (fun h => (Or.inr (Or.inr (Or.inr (Or.inr (Or.inl ⟨h.1, h.2.1, h.2.2⟩)))))) (fun h => h.elim (fun h => (Or.inr (Or.inr (Or.inr (Or.inr (Or.inr (Or.inl ⟨h.1, h.2⟩))))))) (fun h => h.elim))))
          have kf43_ : (M36_.1 (12, 0, 0) 11).toInt + ((m : Nat) : Int) = 5 := by rw [(hF40_ (12, 0, 0) 11 (by simp [S_codes]))]; exact kf35_
          refine w_aload_n dX12_sum_49 rfl 1 rfl ?_
          refine w_bipush (v := 43) dX12_sum_50 (by decide) ?_
          refine w_callV (as := [vI 43]) (rest := []) (c_X12_takes l G cy ad ((N + d) + 9) 43 ((s + 1) - 1) (D + 1) ((M_36.1 (12, 0, 0) 9).toInt) T M36_ hI39_ h38_ (by first | decide | (unfold vF; omega) | (unfold vRw; omega))) kV_X12_takes pnn_17 (Nat.le_of_ble_eq_true rfl) m_1591 rfl rfl rfl ic_12 rfl rfl (by decide) (Nat.le_of_ble_eq_true rfl) dX12_sum_52 (fun r44_ M45_ q46_ => ?_)
          obtain ⟨hI48_, hF49_, h47_, hs51_⟩ := q46_
          have hF50_ := hF41_.tr hF49_ (fun c k => (fun h => h.elim (fun h => (Or.inl ⟨h.1, h.2.1, h.2.2⟩)) (fun h => h.elim)))
          have kf52_ : (M45_.1 (12, 0, 0) 11).toInt + ((m : Nat) : Int) = 5 := by rw [(hF49_ (12, 0, 0) 11 (by simp [S_here]))]; exact kf43_
          rcases h47_ with ⟨rfl, h47_⟩ | ⟨rfl, h47_⟩
          · have h53_ : PP M45_ (((s + 1) - 1) + 1) (D + 1) ((M_36.1 (12, 0, 0) 9).toInt + 1) T := h47_.1
            have kf54_ : M45_.1 (12, 0, 0) 13 = 0 := h47_.2
            refine w_if_eq (tgt := 64) dX12_sum_55 (by decide) li_1 (fun h9 => (absurd h9 (by decide))) (fun h55_ => ?_)
            refine w_sipush (v := 2003) dX12_sum_58 (by decide) ?_
            refine w_goto (tgt := 80) dX12_sum_61 (by decide) ?_
            refine w_istore_n (ls' := [(1, vI 2003), (0, vR (12, 0, 0))]) dX12_sum_80 rfl (by decide) rfl ?_
            refine w_goto (tgt := 36) dX12_sum_81 (by decide) ?_
            refine w_loc (ls' := [(1, vI 2003), (0, vR (12, 0, 0))]) [0, 1] rfl ?_
            exact ih_36 M45_ hI48_ hF50_ 2003 (lf_c_X12_sum_6 ) (PP_mono h53_ (lf_c_X12_sum_7 M45_ M_36 s D T hs h53_ ) (lf_c_X12_term_8 M_36 a kf25_ kf25_ )) kf52_ (RCH.tail hL_36 ⟨hv0_36, hI_36, hF_36, h23_, h24_, M27_, hI30_, hF31_, hs33_, M36_, hI39_, hF40_, hs42_, M45_, hI48_, hF49_, (Or.inl ⟨hs51_, h53_, rfl, rfl⟩)⟩) (Nat.lt_of_lt_of_le (PP_meas (A := (M_36.1 (12, 0, 0) 9).toInt) (x := v1_36) (x' := (2003 : Int32)) (PP_mono h53_ (Int.le_refl _) (lf_c_X12_sum_9 M11_ M1_ M27_ M36_ M45_ M_36 Mz m s D a T hs hk hm kf9_ kf18_ kf20_ kv0_36 kf25_ kf25_ kf35_ kf43_ kf52_ h53_ kf54_ )) rfl (lf_c_X12_term_2 v1_36 h24_ )) (Nat.le_of_lt_succ hm_36))
          · refine w_if_eq (tgt := 64) dX12_sum_55 (by decide) li_0 (fun h56_ => ?_) (fun h9 => (absurd h9 (by decide)))
            refine w_aload_n dX12_sum_64 rfl 1 rfl ?_
            refine w_bipush (v := 45) dX12_sum_65 (by decide) ?_
            refine w_callV (as := [vI 45]) (rest := []) (c_X12_takes l G cy ad ((N + d) + 9) 45 ((s + 1) - 1) (D + 1) ((M_36.1 (12, 0, 0) 9).toInt) T M45_ hI48_ h47_ (by first | decide | (unfold vF; omega) | (unfold vRw; omega))) kV_X12_takes pnn_17 (Nat.le_of_ble_eq_true rfl) m_1591 rfl rfl rfl ic_12 rfl rfl (by decide) (Nat.le_of_ble_eq_true rfl) dX12_sum_67 (fun r57_ M58_ q59_ => ?_)
            obtain ⟨hI61_, hF62_, h60_, hs64_⟩ := q59_
            have hF63_ := hF50_.tr hF62_ (fun c k => (fun h => h.elim (fun h => (Or.inl ⟨h.1, h.2.1, h.2.2⟩)) (fun h => h.elim)))
            have kf65_ : (M58_.1 (12, 0, 0) 11).toInt + ((m : Nat) : Int) = 5 := by rw [(hF62_ (12, 0, 0) 11 (by simp [S_here]))]; exact kf52_
            rcases h60_ with ⟨rfl, h60_⟩ | ⟨rfl, h60_⟩
            · have h66_ : PP M58_ (((s + 1) - 1) + 1) (D + 1) ((M_36.1 (12, 0, 0) 9).toInt + 1) T := h60_.1
              have kf67_ : M58_.1 (12, 0, 0) 13 = 0 := h60_.2
              refine w_if_eq (tgt := 79) dX12_sum_70 (by decide) li_1 (fun h9 => (absurd h9 (by decide))) (fun h68_ => ?_)
              refine w_sipush (v := 2004) dX12_sum_73 (by decide) ?_
              refine w_goto (tgt := 80) dX12_sum_76 (by decide) ?_
              refine w_istore_n (ls' := [(1, vI 2004), (0, vR (12, 0, 0))]) dX12_sum_80 rfl (by decide) rfl ?_
              refine w_goto (tgt := 36) dX12_sum_81 (by decide) ?_
              refine w_loc (ls' := [(1, vI 2004), (0, vR (12, 0, 0))]) [0, 1] rfl ?_
              exact ih_36 M58_ hI61_ hF63_ 2004 (lf_c_X12_sum_11 ) (PP_mono h66_ (lf_c_X12_sum_12 M58_ M_36 s D T hs h66_ ) (lf_c_X12_term_8 M_36 a kf25_ kf25_ )) kf65_ (RCH.tail hL_36 ⟨hv0_36, hI_36, hF_36, h23_, h24_, M27_, hI30_, hF31_, hs33_, M36_, hI39_, hF40_, hs42_, M45_, hI48_, hF49_, (Or.inr ⟨hs51_, M58_, hI61_, hF62_, (Or.inl ⟨hs64_, h66_, rfl, rfl⟩)⟩)⟩) (Nat.lt_of_lt_of_le (PP_meas (A := (M_36.1 (12, 0, 0) 9).toInt) (x := v1_36) (x' := (2004 : Int32)) (PP_mono h66_ (Int.le_refl _) (lf_c_X12_sum_14 M11_ M1_ M27_ M36_ M45_ M58_ M_36 Mz m s D a T hs hk hm kf9_ kf18_ kf20_ kv0_36 kf25_ kf25_ kf35_ kf43_ kf52_ kf65_ h66_ kf67_ )) rfl (lf_c_X12_term_2 v1_36 h24_ )) (Nat.le_of_lt_succ hm_36))
            · refine w_if_eq (tgt := 79) dX12_sum_70 (by decide) li_0 (fun h69_ => ?_) (fun h9 => (absurd h9 (by decide)))
              refine w_iconst (v := 0) dX12_sum_79 (by decide) ?_
              refine w_istore_n (ls' := [(1, vI 0), (0, vR (12, 0, 0))]) dX12_sum_80 rfl (by decide) rfl ?_
              refine w_goto (tgt := 36) dX12_sum_81 (by decide) ?_
              refine w_loc (ls' := [(1, vI 0), (0, vR (12, 0, 0))]) [0, 1] rfl ?_
              exact ih_36 M58_ hI61_ hF63_ 0 (lf_c_X12_sum_16 ) (PP_mono h60_ (lf_c_X12_term_22 M58_ M_36 s D T hs h60_ ) (lf_c_X12_term_23 M_36 a kf25_ kf25_ )) kf65_ (RCH.tail hL_36 ⟨hv0_36, hI_36, hF_36, h23_, h24_, M27_, hI30_, hF31_, hs33_, M36_, hI39_, hF40_, hs42_, M45_, hI48_, hF49_, (Or.inr ⟨hs51_, M58_, hI61_, hF62_, (Or.inr ⟨hs64_, h60_, rfl, rfl⟩)⟩)⟩) (Nat.lt_of_lt_of_le (PP_meas (A := (M_36.1 (12, 0, 0) 9).toInt) (x := v1_36) (x' := (0 : Int32)) (PP_mono h60_ (Int.le_refl _) (lf_c_X12_sum_19 M11_ M1_ M27_ M36_ M45_ M58_ M_36 Mz m s D a T hs hk hm kf9_ kf18_ kf20_ kv0_36 kf25_ kf25_ kf35_ kf43_ kf52_ kf65_ h60_ )) rfl (lf_c_X12_term_2 v1_36 h24_ )) (Nat.le_of_lt_succ hm_36))
    exact lp22_ _ M11_ hI14_ hF16_ 2003 (lf_c_X12_sum_6 ) (PP_mono h19_ (lf_c_X12_sum_22 M11_ s D a T hs h19_ ) (lf_c_X12_here_19 a )) kf18_ RCH.refl (Nat.lt_succ_self _)
  · refine w_if_eq (tgt := 19) dX12_sum_10 (by decide) li_0 (fun h70_ => ?_) (fun h9 => (absurd h9 (by decide)))
    refine w_aload_n dX12_sum_19 rfl 0 rfl ?_
    refine w_bipush (v := 45) dX12_sum_20 (by decide) ?_
    refine w_callV (as := [vI 45]) (rest := []) (c_X12_takes l G cy ad ((N + d) + 9) 45 s (D + 1) a T M11_ hI14_ h13_ (by first | decide | (unfold vF; omega) | (unfold vRw; omega))) kV_X12_takes pnn_17 (Nat.le_of_ble_eq_true rfl) m_1591 rfl rfl rfl ic_12 rfl rfl (by decide) (Nat.le_of_ble_eq_true rfl) dX12_sum_22 (fun r71_ M72_ q73_ => ?_)
    obtain ⟨hI75_, hF76_, h74_, hs78_⟩ := q73_
    have hF77_ := hF16_.tr hF76_ (fun c k => (fun h => h.elim (fun h => (Or.inl ⟨h.1, h.2.1, h.2.2⟩)) (fun h => h.elim)))
    have kf79_ : (M72_.1 (12, 0, 0) 11).toInt + ((m : Nat) : Int) = 5 := by rw [(hF76_ (12, 0, 0) 11 (by simp [S_here]))]; exact kf18_
    rcases h74_ with ⟨rfl, h74_⟩ | ⟨rfl, h74_⟩
    · have h80_ : PP M72_ (s + 1) (D + 1) (a + 1) T := h74_.1
      have kf81_ : M72_.1 (12, 0, 0) 13 = 0 := h74_.2
      refine w_if_eq (tgt := 34) dX12_sum_25 (by decide) li_1 (fun h9 => (absurd h9 (by decide))) (fun h82_ => ?_)
      refine w_sipush (v := 2004) dX12_sum_28 (by decide) ?_
      refine w_goto (tgt := 35) dX12_sum_31 (by decide) ?_
      refine w_istore_n (ls' := [(1, vI 2004), (0, vR (12, 0, 0))]) dX12_sum_35 rfl (by decide) rfl ?_
      have lp83_ : ∀ (nn_36 : Nat) (M_36 : mM) (hI_36 : InvD M_36) (hF_36 : FR (S_par) Mz M_36) (v1_36 : Int32) (hv0_36 : v1_36.toInt = 0 ∨ (2003 ≤ v1_36.toInt ∧ v1_36.toInt ≤ 2004)) (hv1_36 : PP M_36 (s + isX v1_36) (D + 1) a T) (kv0_36 : (M_36.1 (12, 0, 0) 11).toInt + ((m : Nat) : Int) = 5) (hL_36 : RCH (fun x_ y_ => ST_X12_sum_36b N m QA QB s D T Mz x_.1 x_.2 y_.1 y_.2) ((2004 : Int32), M72_) (v1_36, M_36)), (2 * (T - (M_36.1 (12, 0, 0) 9).toInt) + isX v1_36).toNat < nn_36 → WP DD l G cy ad yX12_sum cX12_sum 2 none ((N + d) + 11) 36 [(1, vI v1_36), (0, vR (12, 0, 0))] [] M_36 (fun r M' => InvD M' ∧ FR (S_par) Mz M' ∧ (PP M' s (D + 1) a T ∧ (M'.1 (12, 0, 0) 11).toInt + ((m : Nat) : Int) = 5) ∧ SP_X12_sum N m QA QB s D a T Mz M') := by
        intro nn_36
        induction nn_36 with
        | zero => intro M_36 hI_36 hF_36 v1_36 hv0_36 hv1_36 kv0_36 hL_36 hm_36; exact absurd hm_36 (Nat.not_lt_zero _)
        | succ nn_36 ih_36 =>
          intro M_36 hI_36 hF_36 v1_36 hv0_36 hv1_36 kv0_36 hL_36 hm_36
          have h84_ : 0 ≤ isX v1_36 ∧ isX v1_36 ≤ 1 := isX_b v1_36
          refine w_iload_n dX12_sum_36 rfl 0 rfl ?_
          refine w_if_le (tgt := 84) dX12_sum_37 (by decide) (rfl : v1_36.toInt = v1_36.toInt) (fun h85_ => ?_) (fun h85_ => ?_)
          · exact w_vret rfl dX12_sum_84 ⟨hI_36, hF_36, ⟨PP_mono hv1_36 (lf_c_X12_sum_0 M_36 s D a T v1_36 hs hv0_36 hv1_36 h84_ h85_ ) (lf_c_X12_opens_41 a ), kv0_36⟩, ⟨M1_, hI4_, hF5_, hs7_, M11_, hI14_, hF15_, (Or.inr ⟨hs17_, M72_, hI75_, hF76_, (Or.inl ⟨hs78_, v1_36, hv0_36, M_36, hL_36, hI_36, hF_36, hv1_36, h84_, h85_, rfl⟩)⟩)⟩⟩
          · have kf86_ : a ≤ (M_36.1 (12, 0, 0) 9).toInt := hv1_36.2.1
            have h87_ : PP M_36 (s + 1) (D + 1) (M_36.1 (12, 0, 0) 9).toInt T := PP_self (PP_mono hv1_36 (by rw [isX_p (lf_c_X12_term_2 v1_36 h85_ )]; exact Int.le_refl _) (Int.le_refl _))
            refine w_aload_n dX12_sum_40 rfl 1 rfl ?_
            refine w_callVv (as := []) (rest := []) (c_X12_term l G cy ad d N m QA QB (s + 1) (D + 1) ((M_36.1 (12, 0, 0) 9).toInt) T M_36 hI_36 hA hB h87_ (lf_c_X12_opens_8 s hs ) kv0_36 hm) kV_X12_term pnn_17 (Nat.le_of_ble_eq_true rfl) m_1567 rfl rfl rfl ic_12 rfl rfl (by decide) (Nat.le_of_ble_eq_true rfl) dX12_sum_41 (fun M88_ q89_ => ?_)
            obtain ⟨hI91_, hF92_, h90_, hs94_⟩ := q89_
            have hF93_ := hF_36.tr hF92_ (fun c k => (fun h => h.elim (fun h => (Or.inl ⟨h.1, h.2.1, h.2.2⟩)) (fun h => h.elim (fun h => (Or.inr (Or.inl ⟨h.1, h.2.1, h.2.2⟩))) (fun h => h.elim (fun h => (Or.inr (Or.inr (Or.inl ⟨h.1, h.2.1, h.2.2⟩)))) (fun h => h.elim (fun h => (Or.inr (Or.inr (Or.inr (Or.inl ⟨h.1, h.2.1, h.2.2⟩))))) (fun h => h.elim (fun h => (Or.inr (Or.inr (Or.inr (Or.inr (Or.inl ⟨h.1, h.2.1, h.2.2⟩)))))) (fun h => h.elim (fun h => (Or.inr (Or.inr (Or.inr (Or.inr (Or.inr (Or.inl ⟨h.1, h.2⟩))))))) (fun h => h.elim))))))))
            have h95_ : PP M88_ (s + 1) ((D + 1) + 1) (M_36.1 (12, 0, 0) 9).toInt T := h90_.1
            have kf96_ : (M88_.1 (12, 0, 0) 11).toInt + ((m : Nat) : Int) = 5 := h90_.2
            refine w_aload_n dX12_sum_44 rfl 1 rfl ?_
            refine w_iload_n dX12_sum_45 rfl 0 rfl ?_
            refine w_callVv (as := [vI v1_36]) (rest := []) (c_X12_codes l G cy ad ((N + d) + 10) v1_36 (s + 1) ((D + 1) + 1) ((M_36.1 (12, 0, 0) 9).toInt) T (D + 1) M88_ hI91_ h95_ (lf_c_X12_opens_8 s hs ) (stp_op (lf_c_X12_sum_5 v1_36 hv0_36 h85_ ))) kV_X12_codes pnn_17 (Nat.le_of_ble_eq_true rfl) m_1583 rfl rfl rfl ic_12 rfl rfl (by decide) (Nat.le_of_ble_eq_true rfl) dX12_sum_46 (fun M97_ q98_ => ?_)
            obtain ⟨hI100_, hF101_, h99_, hs103_⟩ := q98_
            have hF102_ := hF93_.tr hF101_ (fun c k => (fun h => h.elim (fun h => (Or.inr (Or.inr (Or.inr (Or.inr (Or.inl ⟨h.1, h.2.1, h.2.2⟩)))))) (fun h => h.elim (fun h => (Or.inr (Or.inr (Or.inr (Or.inr (Or.inr (Or.inl ⟨h.1, h.2⟩))))))) (fun h => h.elim))))
            have kf104_ : (M97_.1 (12, 0, 0) 11).toInt + ((m : Nat) : Int) = 5 := by rw [(hF101_ (12, 0, 0) 11 (by simp [S_codes]))]; exact kf96_
            refine w_aload_n dX12_sum_49 rfl 1 rfl ?_
            refine w_bipush (v := 43) dX12_sum_50 (by decide) ?_
            refine w_callV (as := [vI 43]) (rest := []) (c_X12_takes l G cy ad ((N + d) + 9) 43 ((s + 1) - 1) (D + 1) ((M_36.1 (12, 0, 0) 9).toInt) T M97_ hI100_ h99_ (by first | decide | (unfold vF; omega) | (unfold vRw; omega))) kV_X12_takes pnn_17 (Nat.le_of_ble_eq_true rfl) m_1591 rfl rfl rfl ic_12 rfl rfl (by decide) (Nat.le_of_ble_eq_true rfl) dX12_sum_52 (fun r105_ M106_ q107_ => ?_)
            obtain ⟨hI109_, hF110_, h108_, hs112_⟩ := q107_
            have hF111_ := hF102_.tr hF110_ (fun c k => (fun h => h.elim (fun h => (Or.inl ⟨h.1, h.2.1, h.2.2⟩)) (fun h => h.elim)))
            have kf113_ : (M106_.1 (12, 0, 0) 11).toInt + ((m : Nat) : Int) = 5 := by rw [(hF110_ (12, 0, 0) 11 (by simp [S_here]))]; exact kf104_
            rcases h108_ with ⟨rfl, h108_⟩ | ⟨rfl, h108_⟩
            · have h114_ : PP M106_ (((s + 1) - 1) + 1) (D + 1) ((M_36.1 (12, 0, 0) 9).toInt + 1) T := h108_.1
              have kf115_ : M106_.1 (12, 0, 0) 13 = 0 := h108_.2
              refine w_if_eq (tgt := 64) dX12_sum_55 (by decide) li_1 (fun h9 => (absurd h9 (by decide))) (fun h116_ => ?_)
              refine w_sipush (v := 2003) dX12_sum_58 (by decide) ?_
              refine w_goto (tgt := 80) dX12_sum_61 (by decide) ?_
              refine w_istore_n (ls' := [(1, vI 2003), (0, vR (12, 0, 0))]) dX12_sum_80 rfl (by decide) rfl ?_
              refine w_goto (tgt := 36) dX12_sum_81 (by decide) ?_
              refine w_loc (ls' := [(1, vI 2003), (0, vR (12, 0, 0))]) [0, 1] rfl ?_
              exact ih_36 M106_ hI109_ hF111_ 2003 (lf_c_X12_sum_6 ) (PP_mono h114_ (lf_c_X12_sum_7 M106_ M_36 s D T hs h114_ ) (lf_c_X12_term_8 M_36 a kf86_ kf86_ )) kf113_ (RCH.tail hL_36 ⟨hv0_36, hI_36, hF_36, h84_, h85_, M88_, hI91_, hF92_, hs94_, M97_, hI100_, hF101_, hs103_, M106_, hI109_, hF110_, (Or.inl ⟨hs112_, h114_, rfl, rfl⟩)⟩) (Nat.lt_of_lt_of_le (PP_meas (A := (M_36.1 (12, 0, 0) 9).toInt) (x := v1_36) (x' := (2003 : Int32)) (PP_mono h114_ (Int.le_refl _) (lf_c_X12_sum_33 M106_ M11_ M1_ M72_ M88_ M97_ M_36 Mz m s D a T hs hk hm kf9_ kf18_ kf79_ kf81_ kv0_36 kf86_ kf86_ kf96_ kf104_ kf113_ h114_ kf115_ )) rfl (lf_c_X12_term_2 v1_36 h85_ )) (Nat.le_of_lt_succ hm_36))
            · refine w_if_eq (tgt := 64) dX12_sum_55 (by decide) li_0 (fun h117_ => ?_) (fun h9 => (absurd h9 (by decide)))
              refine w_aload_n dX12_sum_64 rfl 1 rfl ?_
              refine w_bipush (v := 45) dX12_sum_65 (by decide) ?_
              refine w_callV (as := [vI 45]) (rest := []) (c_X12_takes l G cy ad ((N + d) + 9) 45 ((s + 1) - 1) (D + 1) ((M_36.1 (12, 0, 0) 9).toInt) T M106_ hI109_ h108_ (by first | decide | (unfold vF; omega) | (unfold vRw; omega))) kV_X12_takes pnn_17 (Nat.le_of_ble_eq_true rfl) m_1591 rfl rfl rfl ic_12 rfl rfl (by decide) (Nat.le_of_ble_eq_true rfl) dX12_sum_67 (fun r118_ M119_ q120_ => ?_)
              obtain ⟨hI122_, hF123_, h121_, hs125_⟩ := q120_
              have hF124_ := hF111_.tr hF123_ (fun c k => (fun h => h.elim (fun h => (Or.inl ⟨h.1, h.2.1, h.2.2⟩)) (fun h => h.elim)))
              have kf126_ : (M119_.1 (12, 0, 0) 11).toInt + ((m : Nat) : Int) = 5 := by rw [(hF123_ (12, 0, 0) 11 (by simp [S_here]))]; exact kf113_
              rcases h121_ with ⟨rfl, h121_⟩ | ⟨rfl, h121_⟩
              · have h127_ : PP M119_ (((s + 1) - 1) + 1) (D + 1) ((M_36.1 (12, 0, 0) 9).toInt + 1) T := h121_.1
                have kf128_ : M119_.1 (12, 0, 0) 13 = 0 := h121_.2
                refine w_if_eq (tgt := 79) dX12_sum_70 (by decide) li_1 (fun h9 => (absurd h9 (by decide))) (fun h129_ => ?_)
                refine w_sipush (v := 2004) dX12_sum_73 (by decide) ?_
                refine w_goto (tgt := 80) dX12_sum_76 (by decide) ?_
                refine w_istore_n (ls' := [(1, vI 2004), (0, vR (12, 0, 0))]) dX12_sum_80 rfl (by decide) rfl ?_
                refine w_goto (tgt := 36) dX12_sum_81 (by decide) ?_
                refine w_loc (ls' := [(1, vI 2004), (0, vR (12, 0, 0))]) [0, 1] rfl ?_
                exact ih_36 M119_ hI122_ hF124_ 2004 (lf_c_X12_sum_11 ) (PP_mono h127_ (lf_c_X12_sum_12 M119_ M_36 s D T hs h127_ ) (lf_c_X12_term_8 M_36 a kf86_ kf86_ )) kf126_ (RCH.tail hL_36 ⟨hv0_36, hI_36, hF_36, h84_, h85_, M88_, hI91_, hF92_, hs94_, M97_, hI100_, hF101_, hs103_, M106_, hI109_, hF110_, (Or.inr ⟨hs112_, M119_, hI122_, hF123_, (Or.inl ⟨hs125_, h127_, rfl, rfl⟩)⟩)⟩) (Nat.lt_of_lt_of_le (PP_meas (A := (M_36.1 (12, 0, 0) 9).toInt) (x := v1_36) (x' := (2004 : Int32)) (PP_mono h127_ (Int.le_refl _) (lf_c_X12_sum_38 M106_ M119_ M11_ M1_ M72_ M88_ M97_ M_36 Mz m s D a T hs hk hm kf9_ kf18_ kf79_ kf81_ kv0_36 kf86_ kf86_ kf96_ kf104_ kf113_ kf126_ h127_ kf128_ )) rfl (lf_c_X12_term_2 v1_36 h85_ )) (Nat.le_of_lt_succ hm_36))
              · refine w_if_eq (tgt := 79) dX12_sum_70 (by decide) li_0 (fun h130_ => ?_) (fun h9 => (absurd h9 (by decide)))
                refine w_iconst (v := 0) dX12_sum_79 (by decide) ?_
                refine w_istore_n (ls' := [(1, vI 0), (0, vR (12, 0, 0))]) dX12_sum_80 rfl (by decide) rfl ?_
                refine w_goto (tgt := 36) dX12_sum_81 (by decide) ?_
                refine w_loc (ls' := [(1, vI 0), (0, vR (12, 0, 0))]) [0, 1] rfl ?_
                exact ih_36 M119_ hI122_ hF124_ 0 (lf_c_X12_sum_16 ) (PP_mono h121_ (lf_c_X12_term_22 M119_ M_36 s D T hs h121_ ) (lf_c_X12_term_23 M_36 a kf86_ kf86_ )) kf126_ (RCH.tail hL_36 ⟨hv0_36, hI_36, hF_36, h84_, h85_, M88_, hI91_, hF92_, hs94_, M97_, hI100_, hF101_, hs103_, M106_, hI109_, hF110_, (Or.inr ⟨hs112_, M119_, hI122_, hF123_, (Or.inr ⟨hs125_, h121_, rfl, rfl⟩)⟩)⟩) (Nat.lt_of_lt_of_le (PP_meas (A := (M_36.1 (12, 0, 0) 9).toInt) (x := v1_36) (x' := (0 : Int32)) (PP_mono h121_ (Int.le_refl _) (lf_c_X12_sum_43 M106_ M119_ M11_ M1_ M72_ M88_ M97_ M_36 Mz m s D a T hs hk hm kf9_ kf18_ kf79_ kf81_ kv0_36 kf86_ kf86_ kf96_ kf104_ kf113_ kf126_ h121_ )) rfl (lf_c_X12_term_2 v1_36 h85_ )) (Nat.le_of_lt_succ hm_36))
      exact lp83_ _ M72_ hI75_ hF77_ 2004 (lf_c_X12_sum_11 ) (PP_mono h80_ (lf_c_X12_sum_46 M72_ s D a T hs h80_ ) (lf_c_X12_here_19 a )) kf79_ RCH.refl (Nat.lt_succ_self _)
    · refine w_if_eq (tgt := 34) dX12_sum_25 (by decide) li_0 (fun h131_ => ?_) (fun h9 => (absurd h9 (by decide)))
      refine w_iconst (v := 0) dX12_sum_34 (by decide) ?_
      refine w_istore_n (ls' := [(1, vI 0), (0, vR (12, 0, 0))]) dX12_sum_35 rfl (by decide) rfl ?_
      have lp132_ : ∀ (nn_36 : Nat) (M_36 : mM) (hI_36 : InvD M_36) (hF_36 : FR (S_par) Mz M_36) (v1_36 : Int32) (hv0_36 : v1_36.toInt = 0 ∨ (2003 ≤ v1_36.toInt ∧ v1_36.toInt ≤ 2004)) (hv1_36 : PP M_36 (s + isX v1_36) (D + 1) a T) (kv0_36 : (M_36.1 (12, 0, 0) 11).toInt + ((m : Nat) : Int) = 5) (hL_36 : RCH (fun x_ y_ => ST_X12_sum_36c N m QA QB s D T Mz x_.1 x_.2 y_.1 y_.2) ((0 : Int32), M72_) (v1_36, M_36)), (2 * (T - (M_36.1 (12, 0, 0) 9).toInt) + isX v1_36).toNat < nn_36 → WP DD l G cy ad yX12_sum cX12_sum 2 none ((N + d) + 11) 36 [(1, vI v1_36), (0, vR (12, 0, 0))] [] M_36 (fun r M' => InvD M' ∧ FR (S_par) Mz M' ∧ (PP M' s (D + 1) a T ∧ (M'.1 (12, 0, 0) 11).toInt + ((m : Nat) : Int) = 5) ∧ SP_X12_sum N m QA QB s D a T Mz M') := by
        intro nn_36
        induction nn_36 with
        | zero => intro M_36 hI_36 hF_36 v1_36 hv0_36 hv1_36 kv0_36 hL_36 hm_36; exact absurd hm_36 (Nat.not_lt_zero _)
        | succ nn_36 ih_36 =>
          intro M_36 hI_36 hF_36 v1_36 hv0_36 hv1_36 kv0_36 hL_36 hm_36
          have h133_ : 0 ≤ isX v1_36 ∧ isX v1_36 ≤ 1 := isX_b v1_36
          refine w_iload_n dX12_sum_36 rfl 0 rfl ?_
          refine w_if_le (tgt := 84) dX12_sum_37 (by decide) (rfl : v1_36.toInt = v1_36.toInt) (fun h134_ => ?_) (fun h134_ => ?_)
          · exact w_vret rfl dX12_sum_84 ⟨hI_36, hF_36, ⟨PP_mono hv1_36 (lf_c_X12_sum_0 M_36 s D a T v1_36 hs hv0_36 hv1_36 h133_ h134_ ) (lf_c_X12_opens_41 a ), kv0_36⟩, ⟨M1_, hI4_, hF5_, hs7_, M11_, hI14_, hF15_, (Or.inr ⟨hs17_, M72_, hI75_, hF76_, (Or.inr ⟨hs78_, v1_36, hv0_36, M_36, hL_36, hI_36, hF_36, hv1_36, h133_, h134_, rfl⟩)⟩)⟩⟩
          · have kf135_ : a ≤ (M_36.1 (12, 0, 0) 9).toInt := hv1_36.2.1
            have h136_ : PP M_36 (s + 1) (D + 1) (M_36.1 (12, 0, 0) 9).toInt T := PP_self (PP_mono hv1_36 (by rw [isX_p (lf_c_X12_term_2 v1_36 h134_ )]; exact Int.le_refl _) (Int.le_refl _))
            refine w_aload_n dX12_sum_40 rfl 1 rfl ?_
            refine w_callVv (as := []) (rest := []) (c_X12_term l G cy ad d N m QA QB (s + 1) (D + 1) ((M_36.1 (12, 0, 0) 9).toInt) T M_36 hI_36 hA hB h136_ (lf_c_X12_opens_8 s hs ) kv0_36 hm) kV_X12_term pnn_17 (Nat.le_of_ble_eq_true rfl) m_1567 rfl rfl rfl ic_12 rfl rfl (by decide) (Nat.le_of_ble_eq_true rfl) dX12_sum_41 (fun M137_ q138_ => ?_)
            obtain ⟨hI140_, hF141_, h139_, hs143_⟩ := q138_
            have hF142_ := hF_36.tr hF141_ (fun c k => (fun h => h.elim (fun h => (Or.inl ⟨h.1, h.2.1, h.2.2⟩)) (fun h => h.elim (fun h => (Or.inr (Or.inl ⟨h.1, h.2.1, h.2.2⟩))) (fun h => h.elim (fun h => (Or.inr (Or.inr (Or.inl ⟨h.1, h.2.1, h.2.2⟩)))) (fun h => h.elim (fun h => (Or.inr (Or.inr (Or.inr (Or.inl ⟨h.1, h.2.1, h.2.2⟩))))) (fun h => h.elim (fun h => (Or.inr (Or.inr (Or.inr (Or.inr (Or.inl ⟨h.1, h.2.1, h.2.2⟩)))))) (fun h => h.elim (fun h => (Or.inr (Or.inr (Or.inr (Or.inr (Or.inr (Or.inl ⟨h.1, h.2⟩))))))) (fun h => h.elim))))))))
            have h144_ : PP M137_ (s + 1) ((D + 1) + 1) (M_36.1 (12, 0, 0) 9).toInt T := h139_.1
            have kf145_ : (M137_.1 (12, 0, 0) 11).toInt + ((m : Nat) : Int) = 5 := h139_.2
            refine w_aload_n dX12_sum_44 rfl 1 rfl ?_
            refine w_iload_n dX12_sum_45 rfl 0 rfl ?_
            refine w_callVv (as := [vI v1_36]) (rest := []) (c_X12_codes l G cy ad ((N + d) + 10) v1_36 (s + 1) ((D + 1) + 1) ((M_36.1 (12, 0, 0) 9).toInt) T (D + 1) M137_ hI140_ h144_ (lf_c_X12_opens_8 s hs ) (stp_op (lf_c_X12_sum_5 v1_36 hv0_36 h134_ ))) kV_X12_codes pnn_17 (Nat.le_of_ble_eq_true rfl) m_1583 rfl rfl rfl ic_12 rfl rfl (by decide) (Nat.le_of_ble_eq_true rfl) dX12_sum_46 (fun M146_ q147_ => ?_)
            obtain ⟨hI149_, hF150_, h148_, hs152_⟩ := q147_
            have hF151_ := hF142_.tr hF150_ (fun c k => (fun h => h.elim (fun h => (Or.inr (Or.inr (Or.inr (Or.inr (Or.inl ⟨h.1, h.2.1, h.2.2⟩)))))) (fun h => h.elim (fun h => (Or.inr (Or.inr (Or.inr (Or.inr (Or.inr (Or.inl ⟨h.1, h.2⟩))))))) (fun h => h.elim))))
            have kf153_ : (M146_.1 (12, 0, 0) 11).toInt + ((m : Nat) : Int) = 5 := by rw [(hF150_ (12, 0, 0) 11 (by simp [S_codes]))]; exact kf145_
            refine w_aload_n dX12_sum_49 rfl 1 rfl ?_
            refine w_bipush (v := 43) dX12_sum_50 (by decide) ?_
            refine w_callV (as := [vI 43]) (rest := []) (c_X12_takes l G cy ad ((N + d) + 9) 43 ((s + 1) - 1) (D + 1) ((M_36.1 (12, 0, 0) 9).toInt) T M146_ hI149_ h148_ (by first | decide | (unfold vF; omega) | (unfold vRw; omega))) kV_X12_takes pnn_17 (Nat.le_of_ble_eq_true rfl) m_1591 rfl rfl rfl ic_12 rfl rfl (by decide) (Nat.le_of_ble_eq_true rfl) dX12_sum_52 (fun r154_ M155_ q156_ => ?_)
            obtain ⟨hI158_, hF159_, h157_, hs161_⟩ := q156_
            have hF160_ := hF151_.tr hF159_ (fun c k => (fun h => h.elim (fun h => (Or.inl ⟨h.1, h.2.1, h.2.2⟩)) (fun h => h.elim)))
            have kf162_ : (M155_.1 (12, 0, 0) 11).toInt + ((m : Nat) : Int) = 5 := by rw [(hF159_ (12, 0, 0) 11 (by simp [S_here]))]; exact kf153_
            rcases h157_ with ⟨rfl, h157_⟩ | ⟨rfl, h157_⟩
            · have h163_ : PP M155_ (((s + 1) - 1) + 1) (D + 1) ((M_36.1 (12, 0, 0) 9).toInt + 1) T := h157_.1
              have kf164_ : M155_.1 (12, 0, 0) 13 = 0 := h157_.2
              refine w_if_eq (tgt := 64) dX12_sum_55 (by decide) li_1 (fun h9 => (absurd h9 (by decide))) (fun h165_ => ?_)
              refine w_sipush (v := 2003) dX12_sum_58 (by decide) ?_
              refine w_goto (tgt := 80) dX12_sum_61 (by decide) ?_
              refine w_istore_n (ls' := [(1, vI 2003), (0, vR (12, 0, 0))]) dX12_sum_80 rfl (by decide) rfl ?_
              refine w_goto (tgt := 36) dX12_sum_81 (by decide) ?_
              refine w_loc (ls' := [(1, vI 2003), (0, vR (12, 0, 0))]) [0, 1] rfl ?_
              exact ih_36 M155_ hI158_ hF160_ 2003 (lf_c_X12_sum_6 ) (PP_mono h163_ (lf_c_X12_sum_7 M155_ M_36 s D T hs h163_ ) (lf_c_X12_term_8 M_36 a kf135_ kf135_ )) kf162_ (RCH.tail hL_36 ⟨hv0_36, hI_36, hF_36, h133_, h134_, M137_, hI140_, hF141_, hs143_, M146_, hI149_, hF150_, hs152_, M155_, hI158_, hF159_, (Or.inl ⟨hs161_, h163_, rfl, rfl⟩)⟩) (Nat.lt_of_lt_of_le (PP_meas (A := (M_36.1 (12, 0, 0) 9).toInt) (x := v1_36) (x' := (2003 : Int32)) (PP_mono h163_ (Int.le_refl _) (lf_c_X12_sum_57 M11_ M137_ M146_ M155_ M1_ M72_ M_36 Mz m s D a T hs hk hm kf9_ kf18_ kf79_ kv0_36 kf135_ kf135_ kf145_ kf153_ kf162_ h163_ kf164_ )) rfl (lf_c_X12_term_2 v1_36 h134_ )) (Nat.le_of_lt_succ hm_36))
            · refine w_if_eq (tgt := 64) dX12_sum_55 (by decide) li_0 (fun h166_ => ?_) (fun h9 => (absurd h9 (by decide)))
              refine w_aload_n dX12_sum_64 rfl 1 rfl ?_
              refine w_bipush (v := 45) dX12_sum_65 (by decide) ?_
              refine w_callV (as := [vI 45]) (rest := []) (c_X12_takes l G cy ad ((N + d) + 9) 45 ((s + 1) - 1) (D + 1) ((M_36.1 (12, 0, 0) 9).toInt) T M155_ hI158_ h157_ (by first | decide | (unfold vF; omega) | (unfold vRw; omega))) kV_X12_takes pnn_17 (Nat.le_of_ble_eq_true rfl) m_1591 rfl rfl rfl ic_12 rfl rfl (by decide) (Nat.le_of_ble_eq_true rfl) dX12_sum_67 (fun r167_ M168_ q169_ => ?_)
              obtain ⟨hI171_, hF172_, h170_, hs174_⟩ := q169_
              have hF173_ := hF160_.tr hF172_ (fun c k => (fun h => h.elim (fun h => (Or.inl ⟨h.1, h.2.1, h.2.2⟩)) (fun h => h.elim)))
              have kf175_ : (M168_.1 (12, 0, 0) 11).toInt + ((m : Nat) : Int) = 5 := by rw [(hF172_ (12, 0, 0) 11 (by simp [S_here]))]; exact kf162_
              rcases h170_ with ⟨rfl, h170_⟩ | ⟨rfl, h170_⟩
              · have h176_ : PP M168_ (((s + 1) - 1) + 1) (D + 1) ((M_36.1 (12, 0, 0) 9).toInt + 1) T := h170_.1
                have kf177_ : M168_.1 (12, 0, 0) 13 = 0 := h170_.2
                refine w_if_eq (tgt := 79) dX12_sum_70 (by decide) li_1 (fun h9 => (absurd h9 (by decide))) (fun h178_ => ?_)
                refine w_sipush (v := 2004) dX12_sum_73 (by decide) ?_
                refine w_goto (tgt := 80) dX12_sum_76 (by decide) ?_
                refine w_istore_n (ls' := [(1, vI 2004), (0, vR (12, 0, 0))]) dX12_sum_80 rfl (by decide) rfl ?_
                refine w_goto (tgt := 36) dX12_sum_81 (by decide) ?_
                refine w_loc (ls' := [(1, vI 2004), (0, vR (12, 0, 0))]) [0, 1] rfl ?_
                exact ih_36 M168_ hI171_ hF173_ 2004 (lf_c_X12_sum_11 ) (PP_mono h176_ (lf_c_X12_sum_12 M168_ M_36 s D T hs h176_ ) (lf_c_X12_term_8 M_36 a kf135_ kf135_ )) kf175_ (RCH.tail hL_36 ⟨hv0_36, hI_36, hF_36, h133_, h134_, M137_, hI140_, hF141_, hs143_, M146_, hI149_, hF150_, hs152_, M155_, hI158_, hF159_, (Or.inr ⟨hs161_, M168_, hI171_, hF172_, (Or.inl ⟨hs174_, h176_, rfl, rfl⟩)⟩)⟩) (Nat.lt_of_lt_of_le (PP_meas (A := (M_36.1 (12, 0, 0) 9).toInt) (x := v1_36) (x' := (2004 : Int32)) (PP_mono h176_ (Int.le_refl _) (lf_c_X12_sum_62 M11_ M137_ M146_ M155_ M168_ M1_ M72_ M_36 Mz m s D a T hs hk hm kf9_ kf18_ kf79_ kv0_36 kf135_ kf135_ kf145_ kf153_ kf162_ kf175_ h176_ kf177_ )) rfl (lf_c_X12_term_2 v1_36 h134_ )) (Nat.le_of_lt_succ hm_36))
              · refine w_if_eq (tgt := 79) dX12_sum_70 (by decide) li_0 (fun h179_ => ?_) (fun h9 => (absurd h9 (by decide)))
                refine w_iconst (v := 0) dX12_sum_79 (by decide) ?_
                refine w_istore_n (ls' := [(1, vI 0), (0, vR (12, 0, 0))]) dX12_sum_80 rfl (by decide) rfl ?_
                refine w_goto (tgt := 36) dX12_sum_81 (by decide) ?_
                refine w_loc (ls' := [(1, vI 0), (0, vR (12, 0, 0))]) [0, 1] rfl ?_
                exact ih_36 M168_ hI171_ hF173_ 0 (lf_c_X12_sum_16 ) (PP_mono h170_ (lf_c_X12_term_22 M168_ M_36 s D T hs h170_ ) (lf_c_X12_term_23 M_36 a kf135_ kf135_ )) kf175_ (RCH.tail hL_36 ⟨hv0_36, hI_36, hF_36, h133_, h134_, M137_, hI140_, hF141_, hs143_, M146_, hI149_, hF150_, hs152_, M155_, hI158_, hF159_, (Or.inr ⟨hs161_, M168_, hI171_, hF172_, (Or.inr ⟨hs174_, h170_, rfl, rfl⟩)⟩)⟩) (Nat.lt_of_lt_of_le (PP_meas (A := (M_36.1 (12, 0, 0) 9).toInt) (x := v1_36) (x' := (0 : Int32)) (PP_mono h170_ (Int.le_refl _) (lf_c_X12_sum_67 M11_ M137_ M146_ M155_ M168_ M1_ M72_ M_36 Mz m s D a T hs hk hm kf9_ kf18_ kf79_ kv0_36 kf135_ kf135_ kf145_ kf153_ kf162_ kf175_ h170_ )) rfl (lf_c_X12_term_2 v1_36 h134_ )) (Nat.le_of_lt_succ hm_36))
      exact lp132_ _ M72_ hI75_ hF77_ 0 (lf_c_X12_sum_16 ) (PP_mono h74_ (lf_c_X12_term_114 M72_ s D a T hs h74_ ) (Int.le_refl _)) kf79_ RCH.refl (Nat.lt_succ_self _)
def ST_X12_text_51 (N : Nat) (m : Nat) (QA : mM → mM → Prop) (QB : mM → mM → Prop) (s : Int) (D : Nat) (T : Int) (Mz : mM) (v1_51 : Int32) (M_51 : mM) (v1_51y : Int32) (M_51y : mM) : Prop := (v1_51.toInt = 0 ∨ (2000 ≤ v1_51.toInt ∧ v1_51.toInt ≤ 2002)) ∧ (InvD M_51) ∧ (FR (S_par) Mz M_51) ∧ (0 ≤ isX v1_51 ∧ isX v1_51 ≤ 1) ∧ (0 < v1_51.toInt) ∧ ∃ M27_ : mM, (InvD M27_) ∧ (FR (S_par) M_51 M27_) ∧ (SP_X12_sum N m QA QB (s + 1) (D + 1) ((M_51.1 (12, 0, 0) 9).toInt) T M_51 M27_) ∧ ∃ M36_ : mM, (InvD M36_) ∧ (FR (S_codes) M27_ M36_) ∧ (SP_X12_codes v1_51 (s + 1) ((D + 1) + 1) ((M_51.1 (12, 0, 0) 9).toInt) T (D + 1) M27_ M36_) ∧ ∃ M45_ : mM, (InvD M45_) ∧ (FR (S_here) M36_ M45_) ∧ (((SP_X12_takes 60 ((s + 1) - 1) (D + 1) ((M_51.1 (12, 0, 0) 9).toInt) T M36_ (1 : Int32) M45_) ∧ (PP M45_ (((s + 1) - 1) + 1) (D + 1) ((M_51.1 (12, 0, 0) 9).toInt + 1) T) ∧ v1_51y = 2000 ∧ M_51y = M45_) ∨ ((SP_X12_takes 60 ((s + 1) - 1) (D + 1) ((M_51.1 (12, 0, 0) 9).toInt) T M36_ (0 : Int32) M45_) ∧ ∃ M58_ : mM, (InvD M58_) ∧ (FR (S_here) M45_ M58_) ∧ (((SP_X12_takes 61 ((s + 1) - 1) (D + 1) ((M_51.1 (12, 0, 0) 9).toInt) T M45_ (1 : Int32) M58_) ∧ (PP M58_ (((s + 1) - 1) + 1) (D + 1) ((M_51.1 (12, 0, 0) 9).toInt + 1) T) ∧ v1_51y = 2001 ∧ M_51y = M58_) ∨ ((SP_X12_takes 61 ((s + 1) - 1) (D + 1) ((M_51.1 (12, 0, 0) 9).toInt) T M45_ (0 : Int32) M58_) ∧ ∃ M71_ : mM, (InvD M71_) ∧ (FR (S_here) M58_ M71_) ∧ (((SP_X12_takes 62 ((s + 1) - 1) (D + 1) ((M_51.1 (12, 0, 0) 9).toInt) T M58_ (1 : Int32) M71_) ∧ (PP M71_ (((s + 1) - 1) + 1) (D + 1) ((M_51.1 (12, 0, 0) 9).toInt + 1) T) ∧ v1_51y = 2002 ∧ M_51y = M71_) ∨ ((SP_X12_takes 62 ((s + 1) - 1) (D + 1) ((M_51.1 (12, 0, 0) 9).toInt) T M58_ (0 : Int32) M71_) ∧ (PP M71_ ((s + 1) - 1) (D + 1) (M_51.1 (12, 0, 0) 9).toInt T) ∧ v1_51y = 0 ∧ M_51y = M71_))))))
def ST_X12_text_51b (N : Nat) (m : Nat) (QA : mM → mM → Prop) (QB : mM → mM → Prop) (s : Int) (D : Nat) (T : Int) (Mz : mM) (v1_51 : Int32) (M_51 : mM) (v1_51y : Int32) (M_51y : mM) : Prop := (v1_51.toInt = 0 ∨ (2000 ≤ v1_51.toInt ∧ v1_51.toInt ≤ 2002)) ∧ (InvD M_51) ∧ (FR (S_par) Mz M_51) ∧ (0 ≤ isX v1_51 ∧ isX v1_51 ≤ 1) ∧ (0 < v1_51.toInt) ∧ ∃ M101_ : mM, (InvD M101_) ∧ (FR (S_par) M_51 M101_) ∧ (SP_X12_sum N m QA QB (s + 1) (D + 1) ((M_51.1 (12, 0, 0) 9).toInt) T M_51 M101_) ∧ ∃ M110_ : mM, (InvD M110_) ∧ (FR (S_codes) M101_ M110_) ∧ (SP_X12_codes v1_51 (s + 1) ((D + 1) + 1) ((M_51.1 (12, 0, 0) 9).toInt) T (D + 1) M101_ M110_) ∧ ∃ M119_ : mM, (InvD M119_) ∧ (FR (S_here) M110_ M119_) ∧ (((SP_X12_takes 60 ((s + 1) - 1) (D + 1) ((M_51.1 (12, 0, 0) 9).toInt) T M110_ (1 : Int32) M119_) ∧ (PP M119_ (((s + 1) - 1) + 1) (D + 1) ((M_51.1 (12, 0, 0) 9).toInt + 1) T) ∧ v1_51y = 2000 ∧ M_51y = M119_) ∨ ((SP_X12_takes 60 ((s + 1) - 1) (D + 1) ((M_51.1 (12, 0, 0) 9).toInt) T M110_ (0 : Int32) M119_) ∧ ∃ M132_ : mM, (InvD M132_) ∧ (FR (S_here) M119_ M132_) ∧ (((SP_X12_takes 61 ((s + 1) - 1) (D + 1) ((M_51.1 (12, 0, 0) 9).toInt) T M119_ (1 : Int32) M132_) ∧ (PP M132_ (((s + 1) - 1) + 1) (D + 1) ((M_51.1 (12, 0, 0) 9).toInt + 1) T) ∧ v1_51y = 2001 ∧ M_51y = M132_) ∨ ((SP_X12_takes 61 ((s + 1) - 1) (D + 1) ((M_51.1 (12, 0, 0) 9).toInt) T M119_ (0 : Int32) M132_) ∧ ∃ M145_ : mM, (InvD M145_) ∧ (FR (S_here) M132_ M145_) ∧ (((SP_X12_takes 62 ((s + 1) - 1) (D + 1) ((M_51.1 (12, 0, 0) 9).toInt) T M132_ (1 : Int32) M145_) ∧ (PP M145_ (((s + 1) - 1) + 1) (D + 1) ((M_51.1 (12, 0, 0) 9).toInt + 1) T) ∧ v1_51y = 2002 ∧ M_51y = M145_) ∨ ((SP_X12_takes 62 ((s + 1) - 1) (D + 1) ((M_51.1 (12, 0, 0) 9).toInt) T M132_ (0 : Int32) M145_) ∧ (PP M145_ ((s + 1) - 1) (D + 1) (M_51.1 (12, 0, 0) 9).toInt T) ∧ v1_51y = 0 ∧ M_51y = M145_))))))
def ST_X12_text_51c (N : Nat) (m : Nat) (QA : mM → mM → Prop) (QB : mM → mM → Prop) (s : Int) (D : Nat) (T : Int) (Mz : mM) (v1_51 : Int32) (M_51 : mM) (v1_51y : Int32) (M_51y : mM) : Prop := (v1_51.toInt = 0 ∨ (2000 ≤ v1_51.toInt ∧ v1_51.toInt ≤ 2002)) ∧ (InvD M_51) ∧ (FR (S_par) Mz M_51) ∧ (0 ≤ isX v1_51 ∧ isX v1_51 ≤ 1) ∧ (0 < v1_51.toInt) ∧ ∃ M175_ : mM, (InvD M175_) ∧ (FR (S_par) M_51 M175_) ∧ (SP_X12_sum N m QA QB (s + 1) (D + 1) ((M_51.1 (12, 0, 0) 9).toInt) T M_51 M175_) ∧ ∃ M184_ : mM, (InvD M184_) ∧ (FR (S_codes) M175_ M184_) ∧ (SP_X12_codes v1_51 (s + 1) ((D + 1) + 1) ((M_51.1 (12, 0, 0) 9).toInt) T (D + 1) M175_ M184_) ∧ ∃ M193_ : mM, (InvD M193_) ∧ (FR (S_here) M184_ M193_) ∧ (((SP_X12_takes 60 ((s + 1) - 1) (D + 1) ((M_51.1 (12, 0, 0) 9).toInt) T M184_ (1 : Int32) M193_) ∧ (PP M193_ (((s + 1) - 1) + 1) (D + 1) ((M_51.1 (12, 0, 0) 9).toInt + 1) T) ∧ v1_51y = 2000 ∧ M_51y = M193_) ∨ ((SP_X12_takes 60 ((s + 1) - 1) (D + 1) ((M_51.1 (12, 0, 0) 9).toInt) T M184_ (0 : Int32) M193_) ∧ ∃ M206_ : mM, (InvD M206_) ∧ (FR (S_here) M193_ M206_) ∧ (((SP_X12_takes 61 ((s + 1) - 1) (D + 1) ((M_51.1 (12, 0, 0) 9).toInt) T M193_ (1 : Int32) M206_) ∧ (PP M206_ (((s + 1) - 1) + 1) (D + 1) ((M_51.1 (12, 0, 0) 9).toInt + 1) T) ∧ v1_51y = 2001 ∧ M_51y = M206_) ∨ ((SP_X12_takes 61 ((s + 1) - 1) (D + 1) ((M_51.1 (12, 0, 0) 9).toInt) T M193_ (0 : Int32) M206_) ∧ ∃ M219_ : mM, (InvD M219_) ∧ (FR (S_here) M206_ M219_) ∧ (((SP_X12_takes 62 ((s + 1) - 1) (D + 1) ((M_51.1 (12, 0, 0) 9).toInt) T M206_ (1 : Int32) M219_) ∧ (PP M219_ (((s + 1) - 1) + 1) (D + 1) ((M_51.1 (12, 0, 0) 9).toInt + 1) T) ∧ v1_51y = 2002 ∧ M_51y = M219_) ∨ ((SP_X12_takes 62 ((s + 1) - 1) (D + 1) ((M_51.1 (12, 0, 0) 9).toInt) T M206_ (0 : Int32) M219_) ∧ (PP M219_ ((s + 1) - 1) (D + 1) (M_51.1 (12, 0, 0) 9).toInt T) ∧ v1_51y = 0 ∧ M_51y = M219_))))))
def ST_X12_text_51d (N : Nat) (m : Nat) (QA : mM → mM → Prop) (QB : mM → mM → Prop) (s : Int) (D : Nat) (T : Int) (Mz : mM) (v1_51 : Int32) (M_51 : mM) (v1_51y : Int32) (M_51y : mM) : Prop := (v1_51.toInt = 0 ∨ (2000 ≤ v1_51.toInt ∧ v1_51.toInt ≤ 2002)) ∧ (InvD M_51) ∧ (FR (S_par) Mz M_51) ∧ (0 ≤ isX v1_51 ∧ isX v1_51 ≤ 1) ∧ (0 < v1_51.toInt) ∧ ∃ M237_ : mM, (InvD M237_) ∧ (FR (S_par) M_51 M237_) ∧ (SP_X12_sum N m QA QB (s + 1) (D + 1) ((M_51.1 (12, 0, 0) 9).toInt) T M_51 M237_) ∧ ∃ M246_ : mM, (InvD M246_) ∧ (FR (S_codes) M237_ M246_) ∧ (SP_X12_codes v1_51 (s + 1) ((D + 1) + 1) ((M_51.1 (12, 0, 0) 9).toInt) T (D + 1) M237_ M246_) ∧ ∃ M255_ : mM, (InvD M255_) ∧ (FR (S_here) M246_ M255_) ∧ (((SP_X12_takes 60 ((s + 1) - 1) (D + 1) ((M_51.1 (12, 0, 0) 9).toInt) T M246_ (1 : Int32) M255_) ∧ (PP M255_ (((s + 1) - 1) + 1) (D + 1) ((M_51.1 (12, 0, 0) 9).toInt + 1) T) ∧ v1_51y = 2000 ∧ M_51y = M255_) ∨ ((SP_X12_takes 60 ((s + 1) - 1) (D + 1) ((M_51.1 (12, 0, 0) 9).toInt) T M246_ (0 : Int32) M255_) ∧ ∃ M268_ : mM, (InvD M268_) ∧ (FR (S_here) M255_ M268_) ∧ (((SP_X12_takes 61 ((s + 1) - 1) (D + 1) ((M_51.1 (12, 0, 0) 9).toInt) T M255_ (1 : Int32) M268_) ∧ (PP M268_ (((s + 1) - 1) + 1) (D + 1) ((M_51.1 (12, 0, 0) 9).toInt + 1) T) ∧ v1_51y = 2001 ∧ M_51y = M268_) ∨ ((SP_X12_takes 61 ((s + 1) - 1) (D + 1) ((M_51.1 (12, 0, 0) 9).toInt) T M255_ (0 : Int32) M268_) ∧ ∃ M281_ : mM, (InvD M281_) ∧ (FR (S_here) M268_ M281_) ∧ (((SP_X12_takes 62 ((s + 1) - 1) (D + 1) ((M_51.1 (12, 0, 0) 9).toInt) T M268_ (1 : Int32) M281_) ∧ (PP M281_ (((s + 1) - 1) + 1) (D + 1) ((M_51.1 (12, 0, 0) 9).toInt + 1) T) ∧ v1_51y = 2002 ∧ M_51y = M281_) ∨ ((SP_X12_takes 62 ((s + 1) - 1) (D + 1) ((M_51.1 (12, 0, 0) 9).toInt) T M268_ (0 : Int32) M281_) ∧ (PP M281_ ((s + 1) - 1) (D + 1) (M_51.1 (12, 0, 0) 9).toInt T) ∧ v1_51y = 0 ∧ M_51y = M281_))))))
def SP_X12_text (N : Nat) (m : Nat) (QA : mM → mM → Prop) (QB : mM → mM → Prop) (s : Int) (D : Nat) (a : Int) (T : Int) (Mz : mM) (M_ : mM) : Prop := ∃ M1_ : mM, (InvD M1_) ∧ (FR (S_par) Mz M1_) ∧ (SP_X12_sum N m QA QB s D a T Mz M1_) ∧ ∃ M11_ : mM, (InvD M11_) ∧ (FR (S_here) M1_ M11_) ∧ (((SP_X12_takes 60 s (D + 1) a T M1_ (1 : Int32) M11_) ∧ ∃ v1_51 : Int32, (v1_51.toInt = 0 ∨ (2000 ≤ v1_51.toInt ∧ v1_51.toInt ≤ 2002)) ∧ ∃ M_51 : mM, (RCH (fun x_ y_ => ST_X12_text_51 N m QA QB s D T Mz x_.1 x_.2 y_.1 y_.2) ((2000 : Int32), M11_) (v1_51, M_51)) ∧ (InvD M_51) ∧ (FR (S_par) Mz M_51) ∧ (PP M_51 (s + isX v1_51) (D + 1) a T) ∧ (0 ≤ isX v1_51 ∧ isX v1_51 ≤ 1) ∧ (v1_51.toInt ≤ 0) ∧ M_ = M_51) ∨ ((SP_X12_takes 60 s (D + 1) a T M1_ (0 : Int32) M11_) ∧ ∃ M85_ : mM, (InvD M85_) ∧ (FR (S_here) M11_ M85_) ∧ (((SP_X12_takes 61 s (D + 1) a T M11_ (1 : Int32) M85_) ∧ ∃ v1_51 : Int32, (v1_51.toInt = 0 ∨ (2000 ≤ v1_51.toInt ∧ v1_51.toInt ≤ 2002)) ∧ ∃ M_51 : mM, (RCH (fun x_ y_ => ST_X12_text_51b N m QA QB s D T Mz x_.1 x_.2 y_.1 y_.2) ((2001 : Int32), M85_) (v1_51, M_51)) ∧ (InvD M_51) ∧ (FR (S_par) Mz M_51) ∧ (PP M_51 (s + isX v1_51) (D + 1) a T) ∧ (0 ≤ isX v1_51 ∧ isX v1_51 ≤ 1) ∧ (v1_51.toInt ≤ 0) ∧ M_ = M_51) ∨ ((SP_X12_takes 61 s (D + 1) a T M11_ (0 : Int32) M85_) ∧ ∃ M159_ : mM, (InvD M159_) ∧ (FR (S_here) M85_ M159_) ∧ (((SP_X12_takes 62 s (D + 1) a T M85_ (1 : Int32) M159_) ∧ ∃ v1_51 : Int32, (v1_51.toInt = 0 ∨ (2000 ≤ v1_51.toInt ∧ v1_51.toInt ≤ 2002)) ∧ ∃ M_51 : mM, (RCH (fun x_ y_ => ST_X12_text_51c N m QA QB s D T Mz x_.1 x_.2 y_.1 y_.2) ((2002 : Int32), M159_) (v1_51, M_51)) ∧ (InvD M_51) ∧ (FR (S_par) Mz M_51) ∧ (PP M_51 (s + isX v1_51) (D + 1) a T) ∧ (0 ≤ isX v1_51 ∧ isX v1_51 ≤ 1) ∧ (v1_51.toInt ≤ 0) ∧ M_ = M_51) ∨ ((SP_X12_takes 62 s (D + 1) a T M85_ (0 : Int32) M159_) ∧ ∃ v1_51 : Int32, (v1_51.toInt = 0 ∨ (2000 ≤ v1_51.toInt ∧ v1_51.toInt ≤ 2002)) ∧ ∃ M_51 : mM, (RCH (fun x_ y_ => ST_X12_text_51d N m QA QB s D T Mz x_.1 x_.2 y_.1 y_.2) ((0 : Int32), M159_) (v1_51, M_51)) ∧ (InvD M_51) ∧ (FR (S_par) Mz M_51) ∧ (PP M_51 (s + isX v1_51) (D + 1) a T) ∧ (0 ≤ isX v1_51 ∧ isX v1_51 ≤ 1) ∧ (v1_51.toInt ≤ 0) ∧ M_ = M_51))))))
theorem lf_c_X12_text_0 (M_51 : mM) (s : Int) (D : Nat) (a : Int) (T : Int) (v1_51 : Int32) (hs : 0 ≤ s) (hv0_51 : v1_51.toInt = 0 ∨ (2000 ≤ v1_51.toInt ∧ v1_51.toInt ≤ 2002)) (hv1_51 : PP M_51 (s + isX v1_51) (D + 1) a T) (h23_ : 0 ≤ isX v1_51 ∧ isX v1_51 ≤ 1) (h24_ : v1_51.toInt ≤ 0) : s ≤ (s + isX v1_51) := by have r_v1_51 := rngI v1_51; omega
theorem lf_c_X12_text_5 (v1_51 : Int32) (hv0_51 : v1_51.toInt = 0 ∨ (2000 ≤ v1_51.toInt ∧ v1_51.toInt ≤ 2002)) (h24_ : 0 < v1_51.toInt) : 2000 ≤ v1_51.toInt ∧ v1_51.toInt < 2008 := by omega
theorem lf_c_X12_text_6 : (2000 : Int32).toInt = 0 ∨ (2000 ≤ (2000 : Int32).toInt ∧ (2000 : Int32).toInt ≤ 2002) := by have q0 := li_2000; omega
theorem lf_c_X12_text_7 (M45_ : mM) (M_51 : mM) (s : Int) (D : Nat) (T : Int) (hs : 0 ≤ s) (h53_ : PP M45_ (((s + 1) - 1) + 1) (D + 1) ((M_51.1 (12, 0, 0) 9).toInt + 1) T) : (s + isX (2000 : Int32)) ≤ (((s + 1) - 1) + 1) := by have h9 := isX_p (v := (2000 : Int32)) (by decide); omega
theorem lf_c_X12_text_9 (M11_ : mM) (M1_ : mM) (M27_ : mM) (M36_ : mM) (M45_ : mM) (M_51 : mM) (Mz : mM) (m : Nat) (s : Int) (D : Nat) (a : Int) (T : Int) (hs : 0 ≤ s) (hk : (Mz.1 (12, 0, 0) 11).toInt + ((m : Nat) : Int) = 5) (hm : m ≤ 5) (kf9_ : (M1_.1 (12, 0, 0) 11).toInt + ((m : Nat) : Int) = 5) (kf18_ : (M11_.1 (12, 0, 0) 11).toInt + ((m : Nat) : Int) = 5) (kf20_ : M11_.1 (12, 0, 0) 13 = 0) (kv0_51 : (M_51.1 (12, 0, 0) 11).toInt + ((m : Nat) : Int) = 5) (kf25_ : a ≤ (M_51.1 (12, 0, 0) 9).toInt) (kf25_ : a ≤ (M_51.1 (12, 0, 0) 9).toInt) (kf35_ : (M27_.1 (12, 0, 0) 11).toInt + ((m : Nat) : Int) = 5) (kf43_ : (M36_.1 (12, 0, 0) 11).toInt + ((m : Nat) : Int) = 5) (kf52_ : (M45_.1 (12, 0, 0) 11).toInt + ((m : Nat) : Int) = 5) (h53_ : PP M45_ (((s + 1) - 1) + 1) (D + 1) ((M_51.1 (12, 0, 0) 9).toInt + 1) T) (kf54_ : M45_.1 (12, 0, 0) 13 = 0) : (M_51.1 (12, 0, 0) 9).toInt + isX (2000 : Int32) ≤ ((M_51.1 (12, 0, 0) 9).toInt + 1) := by have h9 := isX_p (v := (2000 : Int32)) (by decide); omega
theorem lf_c_X12_text_11 : (2001 : Int32).toInt = 0 ∨ (2000 ≤ (2001 : Int32).toInt ∧ (2001 : Int32).toInt ≤ 2002) := by have q0 := li_2001; omega
theorem lf_c_X12_text_12 (M58_ : mM) (M_51 : mM) (s : Int) (D : Nat) (T : Int) (hs : 0 ≤ s) (h66_ : PP M58_ (((s + 1) - 1) + 1) (D + 1) ((M_51.1 (12, 0, 0) 9).toInt + 1) T) : (s + isX (2001 : Int32)) ≤ (((s + 1) - 1) + 1) := by have h9 := isX_p (v := (2001 : Int32)) (by decide); omega
theorem lf_c_X12_text_14 (M11_ : mM) (M1_ : mM) (M27_ : mM) (M36_ : mM) (M45_ : mM) (M58_ : mM) (M_51 : mM) (Mz : mM) (m : Nat) (s : Int) (D : Nat) (a : Int) (T : Int) (hs : 0 ≤ s) (hk : (Mz.1 (12, 0, 0) 11).toInt + ((m : Nat) : Int) = 5) (hm : m ≤ 5) (kf9_ : (M1_.1 (12, 0, 0) 11).toInt + ((m : Nat) : Int) = 5) (kf18_ : (M11_.1 (12, 0, 0) 11).toInt + ((m : Nat) : Int) = 5) (kf20_ : M11_.1 (12, 0, 0) 13 = 0) (kv0_51 : (M_51.1 (12, 0, 0) 11).toInt + ((m : Nat) : Int) = 5) (kf25_ : a ≤ (M_51.1 (12, 0, 0) 9).toInt) (kf25_ : a ≤ (M_51.1 (12, 0, 0) 9).toInt) (kf35_ : (M27_.1 (12, 0, 0) 11).toInt + ((m : Nat) : Int) = 5) (kf43_ : (M36_.1 (12, 0, 0) 11).toInt + ((m : Nat) : Int) = 5) (kf52_ : (M45_.1 (12, 0, 0) 11).toInt + ((m : Nat) : Int) = 5) (kf65_ : (M58_.1 (12, 0, 0) 11).toInt + ((m : Nat) : Int) = 5) (h66_ : PP M58_ (((s + 1) - 1) + 1) (D + 1) ((M_51.1 (12, 0, 0) 9).toInt + 1) T) (kf67_ : M58_.1 (12, 0, 0) 13 = 0) : (M_51.1 (12, 0, 0) 9).toInt + isX (2001 : Int32) ≤ ((M_51.1 (12, 0, 0) 9).toInt + 1) := by have h9 := isX_p (v := (2001 : Int32)) (by decide); omega
theorem lf_c_X12_text_16 : (2002 : Int32).toInt = 0 ∨ (2000 ≤ (2002 : Int32).toInt ∧ (2002 : Int32).toInt ≤ 2002) := by have q0 := li_2002; omega
theorem lf_c_X12_text_17 (M71_ : mM) (M_51 : mM) (s : Int) (D : Nat) (T : Int) (hs : 0 ≤ s) (h79_ : PP M71_ (((s + 1) - 1) + 1) (D + 1) ((M_51.1 (12, 0, 0) 9).toInt + 1) T) : (s + isX (2002 : Int32)) ≤ (((s + 1) - 1) + 1) := by have h9 := isX_p (v := (2002 : Int32)) (by decide); omega
theorem lf_c_X12_text_19 (M11_ : mM) (M1_ : mM) (M27_ : mM) (M36_ : mM) (M45_ : mM) (M58_ : mM) (M71_ : mM) (M_51 : mM) (Mz : mM) (m : Nat) (s : Int) (D : Nat) (a : Int) (T : Int) (hs : 0 ≤ s) (hk : (Mz.1 (12, 0, 0) 11).toInt + ((m : Nat) : Int) = 5) (hm : m ≤ 5) (kf9_ : (M1_.1 (12, 0, 0) 11).toInt + ((m : Nat) : Int) = 5) (kf18_ : (M11_.1 (12, 0, 0) 11).toInt + ((m : Nat) : Int) = 5) (kf20_ : M11_.1 (12, 0, 0) 13 = 0) (kv0_51 : (M_51.1 (12, 0, 0) 11).toInt + ((m : Nat) : Int) = 5) (kf25_ : a ≤ (M_51.1 (12, 0, 0) 9).toInt) (kf25_ : a ≤ (M_51.1 (12, 0, 0) 9).toInt) (kf35_ : (M27_.1 (12, 0, 0) 11).toInt + ((m : Nat) : Int) = 5) (kf43_ : (M36_.1 (12, 0, 0) 11).toInt + ((m : Nat) : Int) = 5) (kf52_ : (M45_.1 (12, 0, 0) 11).toInt + ((m : Nat) : Int) = 5) (kf65_ : (M58_.1 (12, 0, 0) 11).toInt + ((m : Nat) : Int) = 5) (kf78_ : (M71_.1 (12, 0, 0) 11).toInt + ((m : Nat) : Int) = 5) (h79_ : PP M71_ (((s + 1) - 1) + 1) (D + 1) ((M_51.1 (12, 0, 0) 9).toInt + 1) T) (kf80_ : M71_.1 (12, 0, 0) 13 = 0) : (M_51.1 (12, 0, 0) 9).toInt + isX (2002 : Int32) ≤ ((M_51.1 (12, 0, 0) 9).toInt + 1) := by have h9 := isX_p (v := (2002 : Int32)) (by decide); omega
theorem lf_c_X12_text_21 : (0 : Int32).toInt = 0 ∨ (2000 ≤ (0 : Int32).toInt ∧ (0 : Int32).toInt ≤ 2002) := by have q0 := li_0; omega
theorem lf_c_X12_text_27 (M11_ : mM) (s : Int) (D : Nat) (a : Int) (T : Int) (hs : 0 ≤ s) (h19_ : PP M11_ (s + 1) (D + 1) (a + 1) T) : (s + isX (2000 : Int32)) ≤ (s + 1) := by have h9 := isX_p (v := (2000 : Int32)) (by decide); omega
theorem lf_c_X12_text_38 (M101_ : mM) (M110_ : mM) (M119_ : mM) (M11_ : mM) (M1_ : mM) (M85_ : mM) (M_51 : mM) (Mz : mM) (m : Nat) (s : Int) (D : Nat) (a : Int) (T : Int) (hs : 0 ≤ s) (hk : (Mz.1 (12, 0, 0) 11).toInt + ((m : Nat) : Int) = 5) (hm : m ≤ 5) (kf9_ : (M1_.1 (12, 0, 0) 11).toInt + ((m : Nat) : Int) = 5) (kf18_ : (M11_.1 (12, 0, 0) 11).toInt + ((m : Nat) : Int) = 5) (kf92_ : (M85_.1 (12, 0, 0) 11).toInt + ((m : Nat) : Int) = 5) (kf94_ : M85_.1 (12, 0, 0) 13 = 0) (kv0_51 : (M_51.1 (12, 0, 0) 11).toInt + ((m : Nat) : Int) = 5) (kf99_ : a ≤ (M_51.1 (12, 0, 0) 9).toInt) (kf99_ : a ≤ (M_51.1 (12, 0, 0) 9).toInt) (kf109_ : (M101_.1 (12, 0, 0) 11).toInt + ((m : Nat) : Int) = 5) (kf117_ : (M110_.1 (12, 0, 0) 11).toInt + ((m : Nat) : Int) = 5) (kf126_ : (M119_.1 (12, 0, 0) 11).toInt + ((m : Nat) : Int) = 5) (h127_ : PP M119_ (((s + 1) - 1) + 1) (D + 1) ((M_51.1 (12, 0, 0) 9).toInt + 1) T) (kf128_ : M119_.1 (12, 0, 0) 13 = 0) : (M_51.1 (12, 0, 0) 9).toInt + isX (2000 : Int32) ≤ ((M_51.1 (12, 0, 0) 9).toInt + 1) := by have h9 := isX_p (v := (2000 : Int32)) (by decide); omega
theorem lf_c_X12_text_43 (M101_ : mM) (M110_ : mM) (M119_ : mM) (M11_ : mM) (M132_ : mM) (M1_ : mM) (M85_ : mM) (M_51 : mM) (Mz : mM) (m : Nat) (s : Int) (D : Nat) (a : Int) (T : Int) (hs : 0 ≤ s) (hk : (Mz.1 (12, 0, 0) 11).toInt + ((m : Nat) : Int) = 5) (hm : m ≤ 5) (kf9_ : (M1_.1 (12, 0, 0) 11).toInt + ((m : Nat) : Int) = 5) (kf18_ : (M11_.1 (12, 0, 0) 11).toInt + ((m : Nat) : Int) = 5) (kf92_ : (M85_.1 (12, 0, 0) 11).toInt + ((m : Nat) : Int) = 5) (kf94_ : M85_.1 (12, 0, 0) 13 = 0) (kv0_51 : (M_51.1 (12, 0, 0) 11).toInt + ((m : Nat) : Int) = 5) (kf99_ : a ≤ (M_51.1 (12, 0, 0) 9).toInt) (kf99_ : a ≤ (M_51.1 (12, 0, 0) 9).toInt) (kf109_ : (M101_.1 (12, 0, 0) 11).toInt + ((m : Nat) : Int) = 5) (kf117_ : (M110_.1 (12, 0, 0) 11).toInt + ((m : Nat) : Int) = 5) (kf126_ : (M119_.1 (12, 0, 0) 11).toInt + ((m : Nat) : Int) = 5) (kf139_ : (M132_.1 (12, 0, 0) 11).toInt + ((m : Nat) : Int) = 5) (h140_ : PP M132_ (((s + 1) - 1) + 1) (D + 1) ((M_51.1 (12, 0, 0) 9).toInt + 1) T) (kf141_ : M132_.1 (12, 0, 0) 13 = 0) : (M_51.1 (12, 0, 0) 9).toInt + isX (2001 : Int32) ≤ ((M_51.1 (12, 0, 0) 9).toInt + 1) := by have h9 := isX_p (v := (2001 : Int32)) (by decide); omega
theorem lf_c_X12_text_48 (M101_ : mM) (M110_ : mM) (M119_ : mM) (M11_ : mM) (M132_ : mM) (M145_ : mM) (M1_ : mM) (M85_ : mM) (M_51 : mM) (Mz : mM) (m : Nat) (s : Int) (D : Nat) (a : Int) (T : Int) (hs : 0 ≤ s) (hk : (Mz.1 (12, 0, 0) 11).toInt + ((m : Nat) : Int) = 5) (hm : m ≤ 5) (kf9_ : (M1_.1 (12, 0, 0) 11).toInt + ((m : Nat) : Int) = 5) (kf18_ : (M11_.1 (12, 0, 0) 11).toInt + ((m : Nat) : Int) = 5) (kf92_ : (M85_.1 (12, 0, 0) 11).toInt + ((m : Nat) : Int) = 5) (kf94_ : M85_.1 (12, 0, 0) 13 = 0) (kv0_51 : (M_51.1 (12, 0, 0) 11).toInt + ((m : Nat) : Int) = 5) (kf99_ : a ≤ (M_51.1 (12, 0, 0) 9).toInt) (kf99_ : a ≤ (M_51.1 (12, 0, 0) 9).toInt) (kf109_ : (M101_.1 (12, 0, 0) 11).toInt + ((m : Nat) : Int) = 5) (kf117_ : (M110_.1 (12, 0, 0) 11).toInt + ((m : Nat) : Int) = 5) (kf126_ : (M119_.1 (12, 0, 0) 11).toInt + ((m : Nat) : Int) = 5) (kf139_ : (M132_.1 (12, 0, 0) 11).toInt + ((m : Nat) : Int) = 5) (kf152_ : (M145_.1 (12, 0, 0) 11).toInt + ((m : Nat) : Int) = 5) (h153_ : PP M145_ (((s + 1) - 1) + 1) (D + 1) ((M_51.1 (12, 0, 0) 9).toInt + 1) T) (kf154_ : M145_.1 (12, 0, 0) 13 = 0) : (M_51.1 (12, 0, 0) 9).toInt + isX (2002 : Int32) ≤ ((M_51.1 (12, 0, 0) 9).toInt + 1) := by have h9 := isX_p (v := (2002 : Int32)) (by decide); omega
theorem lf_c_X12_text_56 (M85_ : mM) (s : Int) (D : Nat) (a : Int) (T : Int) (hs : 0 ≤ s) (h93_ : PP M85_ (s + 1) (D + 1) (a + 1) T) : (s + isX (2001 : Int32)) ≤ (s + 1) := by have h9 := isX_p (v := (2001 : Int32)) (by decide); omega
theorem lf_c_X12_text_67 (M11_ : mM) (M159_ : mM) (M175_ : mM) (M184_ : mM) (M193_ : mM) (M1_ : mM) (M85_ : mM) (M_51 : mM) (Mz : mM) (m : Nat) (s : Int) (D : Nat) (a : Int) (T : Int) (hs : 0 ≤ s) (hk : (Mz.1 (12, 0, 0) 11).toInt + ((m : Nat) : Int) = 5) (hm : m ≤ 5) (kf9_ : (M1_.1 (12, 0, 0) 11).toInt + ((m : Nat) : Int) = 5) (kf18_ : (M11_.1 (12, 0, 0) 11).toInt + ((m : Nat) : Int) = 5) (kf92_ : (M85_.1 (12, 0, 0) 11).toInt + ((m : Nat) : Int) = 5) (kf166_ : (M159_.1 (12, 0, 0) 11).toInt + ((m : Nat) : Int) = 5) (kf168_ : M159_.1 (12, 0, 0) 13 = 0) (kv0_51 : (M_51.1 (12, 0, 0) 11).toInt + ((m : Nat) : Int) = 5) (kf173_ : a ≤ (M_51.1 (12, 0, 0) 9).toInt) (kf173_ : a ≤ (M_51.1 (12, 0, 0) 9).toInt) (kf183_ : (M175_.1 (12, 0, 0) 11).toInt + ((m : Nat) : Int) = 5) (kf191_ : (M184_.1 (12, 0, 0) 11).toInt + ((m : Nat) : Int) = 5) (kf200_ : (M193_.1 (12, 0, 0) 11).toInt + ((m : Nat) : Int) = 5) (h201_ : PP M193_ (((s + 1) - 1) + 1) (D + 1) ((M_51.1 (12, 0, 0) 9).toInt + 1) T) (kf202_ : M193_.1 (12, 0, 0) 13 = 0) : (M_51.1 (12, 0, 0) 9).toInt + isX (2000 : Int32) ≤ ((M_51.1 (12, 0, 0) 9).toInt + 1) := by have h9 := isX_p (v := (2000 : Int32)) (by decide); omega
theorem lf_c_X12_text_72 (M11_ : mM) (M159_ : mM) (M175_ : mM) (M184_ : mM) (M193_ : mM) (M1_ : mM) (M206_ : mM) (M85_ : mM) (M_51 : mM) (Mz : mM) (m : Nat) (s : Int) (D : Nat) (a : Int) (T : Int) (hs : 0 ≤ s) (hk : (Mz.1 (12, 0, 0) 11).toInt + ((m : Nat) : Int) = 5) (hm : m ≤ 5) (kf9_ : (M1_.1 (12, 0, 0) 11).toInt + ((m : Nat) : Int) = 5) (kf18_ : (M11_.1 (12, 0, 0) 11).toInt + ((m : Nat) : Int) = 5) (kf92_ : (M85_.1 (12, 0, 0) 11).toInt + ((m : Nat) : Int) = 5) (kf166_ : (M159_.1 (12, 0, 0) 11).toInt + ((m : Nat) : Int) = 5) (kf168_ : M159_.1 (12, 0, 0) 13 = 0) (kv0_51 : (M_51.1 (12, 0, 0) 11).toInt + ((m : Nat) : Int) = 5) (kf173_ : a ≤ (M_51.1 (12, 0, 0) 9).toInt) (kf173_ : a ≤ (M_51.1 (12, 0, 0) 9).toInt) (kf183_ : (M175_.1 (12, 0, 0) 11).toInt + ((m : Nat) : Int) = 5) (kf191_ : (M184_.1 (12, 0, 0) 11).toInt + ((m : Nat) : Int) = 5) (kf200_ : (M193_.1 (12, 0, 0) 11).toInt + ((m : Nat) : Int) = 5) (kf213_ : (M206_.1 (12, 0, 0) 11).toInt + ((m : Nat) : Int) = 5) (h214_ : PP M206_ (((s + 1) - 1) + 1) (D + 1) ((M_51.1 (12, 0, 0) 9).toInt + 1) T) (kf215_ : M206_.1 (12, 0, 0) 13 = 0) : (M_51.1 (12, 0, 0) 9).toInt + isX (2001 : Int32) ≤ ((M_51.1 (12, 0, 0) 9).toInt + 1) := by have h9 := isX_p (v := (2001 : Int32)) (by decide); omega
theorem lf_c_X12_text_77 (M11_ : mM) (M159_ : mM) (M175_ : mM) (M184_ : mM) (M193_ : mM) (M1_ : mM) (M206_ : mM) (M219_ : mM) (M85_ : mM) (M_51 : mM) (Mz : mM) (m : Nat) (s : Int) (D : Nat) (a : Int) (T : Int) (hs : 0 ≤ s) (hk : (Mz.1 (12, 0, 0) 11).toInt + ((m : Nat) : Int) = 5) (hm : m ≤ 5) (kf9_ : (M1_.1 (12, 0, 0) 11).toInt + ((m : Nat) : Int) = 5) (kf18_ : (M11_.1 (12, 0, 0) 11).toInt + ((m : Nat) : Int) = 5) (kf92_ : (M85_.1 (12, 0, 0) 11).toInt + ((m : Nat) : Int) = 5) (kf166_ : (M159_.1 (12, 0, 0) 11).toInt + ((m : Nat) : Int) = 5) (kf168_ : M159_.1 (12, 0, 0) 13 = 0) (kv0_51 : (M_51.1 (12, 0, 0) 11).toInt + ((m : Nat) : Int) = 5) (kf173_ : a ≤ (M_51.1 (12, 0, 0) 9).toInt) (kf173_ : a ≤ (M_51.1 (12, 0, 0) 9).toInt) (kf183_ : (M175_.1 (12, 0, 0) 11).toInt + ((m : Nat) : Int) = 5) (kf191_ : (M184_.1 (12, 0, 0) 11).toInt + ((m : Nat) : Int) = 5) (kf200_ : (M193_.1 (12, 0, 0) 11).toInt + ((m : Nat) : Int) = 5) (kf213_ : (M206_.1 (12, 0, 0) 11).toInt + ((m : Nat) : Int) = 5) (kf226_ : (M219_.1 (12, 0, 0) 11).toInt + ((m : Nat) : Int) = 5) (h227_ : PP M219_ (((s + 1) - 1) + 1) (D + 1) ((M_51.1 (12, 0, 0) 9).toInt + 1) T) (kf228_ : M219_.1 (12, 0, 0) 13 = 0) : (M_51.1 (12, 0, 0) 9).toInt + isX (2002 : Int32) ≤ ((M_51.1 (12, 0, 0) 9).toInt + 1) := by have h9 := isX_p (v := (2002 : Int32)) (by decide); omega
theorem lf_c_X12_text_85 (M159_ : mM) (s : Int) (D : Nat) (a : Int) (T : Int) (hs : 0 ≤ s) (h167_ : PP M159_ (s + 1) (D + 1) (a + 1) T) : (s + isX (2002 : Int32)) ≤ (s + 1) := by have h9 := isX_p (v := (2002 : Int32)) (by decide); omega
theorem lf_c_X12_text_96 (M11_ : mM) (M159_ : mM) (M1_ : mM) (M237_ : mM) (M246_ : mM) (M255_ : mM) (M85_ : mM) (M_51 : mM) (Mz : mM) (m : Nat) (s : Int) (D : Nat) (a : Int) (T : Int) (hs : 0 ≤ s) (hk : (Mz.1 (12, 0, 0) 11).toInt + ((m : Nat) : Int) = 5) (hm : m ≤ 5) (kf9_ : (M1_.1 (12, 0, 0) 11).toInt + ((m : Nat) : Int) = 5) (kf18_ : (M11_.1 (12, 0, 0) 11).toInt + ((m : Nat) : Int) = 5) (kf92_ : (M85_.1 (12, 0, 0) 11).toInt + ((m : Nat) : Int) = 5) (kf166_ : (M159_.1 (12, 0, 0) 11).toInt + ((m : Nat) : Int) = 5) (kv0_51 : (M_51.1 (12, 0, 0) 11).toInt + ((m : Nat) : Int) = 5) (kf235_ : a ≤ (M_51.1 (12, 0, 0) 9).toInt) (kf235_ : a ≤ (M_51.1 (12, 0, 0) 9).toInt) (kf245_ : (M237_.1 (12, 0, 0) 11).toInt + ((m : Nat) : Int) = 5) (kf253_ : (M246_.1 (12, 0, 0) 11).toInt + ((m : Nat) : Int) = 5) (kf262_ : (M255_.1 (12, 0, 0) 11).toInt + ((m : Nat) : Int) = 5) (h263_ : PP M255_ (((s + 1) - 1) + 1) (D + 1) ((M_51.1 (12, 0, 0) 9).toInt + 1) T) (kf264_ : M255_.1 (12, 0, 0) 13 = 0) : (M_51.1 (12, 0, 0) 9).toInt + isX (2000 : Int32) ≤ ((M_51.1 (12, 0, 0) 9).toInt + 1) := by have h9 := isX_p (v := (2000 : Int32)) (by decide); omega
theorem lf_c_X12_text_101 (M11_ : mM) (M159_ : mM) (M1_ : mM) (M237_ : mM) (M246_ : mM) (M255_ : mM) (M268_ : mM) (M85_ : mM) (M_51 : mM) (Mz : mM) (m : Nat) (s : Int) (D : Nat) (a : Int) (T : Int) (hs : 0 ≤ s) (hk : (Mz.1 (12, 0, 0) 11).toInt + ((m : Nat) : Int) = 5) (hm : m ≤ 5) (kf9_ : (M1_.1 (12, 0, 0) 11).toInt + ((m : Nat) : Int) = 5) (kf18_ : (M11_.1 (12, 0, 0) 11).toInt + ((m : Nat) : Int) = 5) (kf92_ : (M85_.1 (12, 0, 0) 11).toInt + ((m : Nat) : Int) = 5) (kf166_ : (M159_.1 (12, 0, 0) 11).toInt + ((m : Nat) : Int) = 5) (kv0_51 : (M_51.1 (12, 0, 0) 11).toInt + ((m : Nat) : Int) = 5) (kf235_ : a ≤ (M_51.1 (12, 0, 0) 9).toInt) (kf235_ : a ≤ (M_51.1 (12, 0, 0) 9).toInt) (kf245_ : (M237_.1 (12, 0, 0) 11).toInt + ((m : Nat) : Int) = 5) (kf253_ : (M246_.1 (12, 0, 0) 11).toInt + ((m : Nat) : Int) = 5) (kf262_ : (M255_.1 (12, 0, 0) 11).toInt + ((m : Nat) : Int) = 5) (kf275_ : (M268_.1 (12, 0, 0) 11).toInt + ((m : Nat) : Int) = 5) (h276_ : PP M268_ (((s + 1) - 1) + 1) (D + 1) ((M_51.1 (12, 0, 0) 9).toInt + 1) T) (kf277_ : M268_.1 (12, 0, 0) 13 = 0) : (M_51.1 (12, 0, 0) 9).toInt + isX (2001 : Int32) ≤ ((M_51.1 (12, 0, 0) 9).toInt + 1) := by have h9 := isX_p (v := (2001 : Int32)) (by decide); omega
theorem lf_c_X12_text_106 (M11_ : mM) (M159_ : mM) (M1_ : mM) (M237_ : mM) (M246_ : mM) (M255_ : mM) (M268_ : mM) (M281_ : mM) (M85_ : mM) (M_51 : mM) (Mz : mM) (m : Nat) (s : Int) (D : Nat) (a : Int) (T : Int) (hs : 0 ≤ s) (hk : (Mz.1 (12, 0, 0) 11).toInt + ((m : Nat) : Int) = 5) (hm : m ≤ 5) (kf9_ : (M1_.1 (12, 0, 0) 11).toInt + ((m : Nat) : Int) = 5) (kf18_ : (M11_.1 (12, 0, 0) 11).toInt + ((m : Nat) : Int) = 5) (kf92_ : (M85_.1 (12, 0, 0) 11).toInt + ((m : Nat) : Int) = 5) (kf166_ : (M159_.1 (12, 0, 0) 11).toInt + ((m : Nat) : Int) = 5) (kv0_51 : (M_51.1 (12, 0, 0) 11).toInt + ((m : Nat) : Int) = 5) (kf235_ : a ≤ (M_51.1 (12, 0, 0) 9).toInt) (kf235_ : a ≤ (M_51.1 (12, 0, 0) 9).toInt) (kf245_ : (M237_.1 (12, 0, 0) 11).toInt + ((m : Nat) : Int) = 5) (kf253_ : (M246_.1 (12, 0, 0) 11).toInt + ((m : Nat) : Int) = 5) (kf262_ : (M255_.1 (12, 0, 0) 11).toInt + ((m : Nat) : Int) = 5) (kf275_ : (M268_.1 (12, 0, 0) 11).toInt + ((m : Nat) : Int) = 5) (kf288_ : (M281_.1 (12, 0, 0) 11).toInt + ((m : Nat) : Int) = 5) (h289_ : PP M281_ (((s + 1) - 1) + 1) (D + 1) ((M_51.1 (12, 0, 0) 9).toInt + 1) T) (kf290_ : M281_.1 (12, 0, 0) 13 = 0) : (M_51.1 (12, 0, 0) 9).toInt + isX (2002 : Int32) ≤ ((M_51.1 (12, 0, 0) 9).toInt + 1) := by have h9 := isX_p (v := (2002 : Int32)) (by decide); omega
set_option maxHeartbeats 4000000 in
set_option maxRecDepth 100000 in
theorem c_X12_text (l : Launch) (G : va_G) (cy : Nat → ClassId) (ad : rf → Nat) (d : Nat) (N : Nat) (m : Nat) (QA : mM → mM → Prop) (QB : mM → mM → Prop) (s : Int) (D : Nat) (a : Int) (T : Int) (Mz : mM) (hIz : InvD Mz) (hA : ∀ k : Nat, k + 1 = m → ONED l G cy ad N k QA) (hB : ∀ k : Nat, k + 1 = m → TXTD l G cy ad N k QB) (hp : PP Mz s D a T) (hs : 0 ≤ s) (hk : (Mz.1 (12, 0, 0) 11).toInt + ((m : Nat) : Int) = 5) (hm : m ≤ 5) : WP DD l G cy ad yX12_text cX12_text 2 none ((N + d) + 12) 0 [(0, vR (12, 0, 0))] [] Mz (fun r M' => InvD M' ∧ FR (S_par) Mz M' ∧ (PP M' s (D + 1) a T ∧ (M'.1 (12, 0, 0) 11).toInt + ((m : Nat) : Int) = 5) ∧ SP_X12_text N m QA QB s D a T Mz M') := by
  have hFz : FR (S_par) Mz Mz := FR.self
  refine w_aload_n dX12_text_0 rfl 0 rfl ?_
  refine w_callVv (as := []) (rest := []) (c_X12_sum l G cy ad d N m QA QB s D a T Mz hIz hA hB hp hs hk hm) kV_X12_sum pnn_17 (Nat.le_of_ble_eq_true rfl) m_1563 rfl rfl rfl ic_12 rfl rfl (by decide) (Nat.le_of_ble_eq_true rfl) dX12_text_1 (fun M1_ q2_ => ?_)
  obtain ⟨hI4_, hF5_, h3_, hs7_⟩ := q2_
  have hF6_ := hFz.tr hF5_ (fun c k => (fun h => h.elim (fun h => (Or.inl ⟨h.1, h.2.1, h.2.2⟩)) (fun h => h.elim (fun h => (Or.inr (Or.inl ⟨h.1, h.2.1, h.2.2⟩))) (fun h => h.elim (fun h => (Or.inr (Or.inr (Or.inl ⟨h.1, h.2.1, h.2.2⟩)))) (fun h => h.elim (fun h => (Or.inr (Or.inr (Or.inr (Or.inl ⟨h.1, h.2.1, h.2.2⟩))))) (fun h => h.elim (fun h => (Or.inr (Or.inr (Or.inr (Or.inr (Or.inl ⟨h.1, h.2.1, h.2.2⟩)))))) (fun h => h.elim (fun h => (Or.inr (Or.inr (Or.inr (Or.inr (Or.inr (Or.inl ⟨h.1, h.2⟩))))))) (fun h => h.elim))))))))
  have h8_ : PP M1_ s (D + 1) a T := h3_.1
  have kf9_ : (M1_.1 (12, 0, 0) 11).toInt + ((m : Nat) : Int) = 5 := h3_.2
  refine w_aload_n dX12_text_4 rfl 0 rfl ?_
  refine w_bipush (v := 60) dX12_text_5 (by decide) ?_
  refine w_callV (as := [vI 60]) (rest := []) (c_X12_takes l G cy ad ((N + d) + 10) 60 s (D + 1) a T M1_ hI4_ h8_ (by first | decide | (unfold vF; omega) | (unfold vRw; omega))) kV_X12_takes pnn_17 (Nat.le_of_ble_eq_true rfl) m_1591 rfl rfl rfl ic_12 rfl rfl (by decide) (Nat.le_of_ble_eq_true rfl) dX12_text_7 (fun r10_ M11_ q12_ => ?_)
  obtain ⟨hI14_, hF15_, h13_, hs17_⟩ := q12_
  have hF16_ := hF6_.tr hF15_ (fun c k => (fun h => h.elim (fun h => (Or.inl ⟨h.1, h.2.1, h.2.2⟩)) (fun h => h.elim)))
  have kf18_ : (M11_.1 (12, 0, 0) 11).toInt + ((m : Nat) : Int) = 5 := by rw [(hF15_ (12, 0, 0) 11 (by simp [S_here]))]; exact kf9_
  rcases h13_ with ⟨rfl, h13_⟩ | ⟨rfl, h13_⟩
  · have h19_ : PP M11_ (s + 1) (D + 1) (a + 1) T := h13_.1
    have kf20_ : M11_.1 (12, 0, 0) 13 = 0 := h13_.2
    refine w_if_eq (tgt := 19) dX12_text_10 (by decide) li_1 (fun h9 => (absurd h9 (by decide))) (fun h21_ => ?_)
    refine w_sipush (v := 2000) dX12_text_13 (by decide) ?_
    refine w_goto (tgt := 50) dX12_text_16 (by decide) ?_
    refine w_istore_n (ls' := [(1, vI 2000), (0, vR (12, 0, 0))]) dX12_text_50 rfl (by decide) rfl ?_
    have lp22_ : ∀ (nn_51 : Nat) (M_51 : mM) (hI_51 : InvD M_51) (hF_51 : FR (S_par) Mz M_51) (v1_51 : Int32) (hv0_51 : v1_51.toInt = 0 ∨ (2000 ≤ v1_51.toInt ∧ v1_51.toInt ≤ 2002)) (hv1_51 : PP M_51 (s + isX v1_51) (D + 1) a T) (kv0_51 : (M_51.1 (12, 0, 0) 11).toInt + ((m : Nat) : Int) = 5) (hL_51 : RCH (fun x_ y_ => ST_X12_text_51 N m QA QB s D T Mz x_.1 x_.2 y_.1 y_.2) ((2000 : Int32), M11_) (v1_51, M_51)), (2 * (T - (M_51.1 (12, 0, 0) 9).toInt) + isX v1_51).toNat < nn_51 → WP DD l G cy ad yX12_text cX12_text 2 none ((N + d) + 12) 51 [(1, vI v1_51), (0, vR (12, 0, 0))] [] M_51 (fun r M' => InvD M' ∧ FR (S_par) Mz M' ∧ (PP M' s (D + 1) a T ∧ (M'.1 (12, 0, 0) 11).toInt + ((m : Nat) : Int) = 5) ∧ SP_X12_text N m QA QB s D a T Mz M') := by
      intro nn_51
      induction nn_51 with
      | zero => intro M_51 hI_51 hF_51 v1_51 hv0_51 hv1_51 kv0_51 hL_51 hm_51; exact absurd hm_51 (Nat.not_lt_zero _)
      | succ nn_51 ih_51 =>
        intro M_51 hI_51 hF_51 v1_51 hv0_51 hv1_51 kv0_51 hL_51 hm_51
        have h23_ : 0 ≤ isX v1_51 ∧ isX v1_51 ≤ 1 := isX_b v1_51
        refine w_iload_n dX12_text_51 rfl 0 rfl ?_
        refine w_if_le (tgt := 114) dX12_text_52 (by decide) (rfl : v1_51.toInt = v1_51.toInt) (fun h24_ => ?_) (fun h24_ => ?_)
        · exact w_vret rfl dX12_text_114 ⟨hI_51, hF_51, ⟨PP_mono hv1_51 (lf_c_X12_text_0 M_51 s D a T v1_51 hs hv0_51 hv1_51 h23_ h24_ ) (lf_c_X12_opens_41 a ), kv0_51⟩, ⟨M1_, hI4_, hF5_, hs7_, M11_, hI14_, hF15_, (Or.inl ⟨hs17_, v1_51, hv0_51, M_51, hL_51, hI_51, hF_51, hv1_51, h23_, h24_, rfl⟩)⟩⟩
        · have kf25_ : a ≤ (M_51.1 (12, 0, 0) 9).toInt := hv1_51.2.1
          have h26_ : PP M_51 (s + 1) (D + 1) (M_51.1 (12, 0, 0) 9).toInt T := PP_self (PP_mono hv1_51 (by rw [isX_p (lf_c_X12_term_2 v1_51 h24_ )]; exact Int.le_refl _) (Int.le_refl _))
          refine w_aload_n dX12_text_55 rfl 1 rfl ?_
          refine w_callVv (as := []) (rest := []) (c_X12_sum l G cy ad d N m QA QB (s + 1) (D + 1) ((M_51.1 (12, 0, 0) 9).toInt) T M_51 hI_51 hA hB h26_ (lf_c_X12_opens_8 s hs ) kv0_51 hm) kV_X12_sum pnn_17 (Nat.le_of_ble_eq_true rfl) m_1563 rfl rfl rfl ic_12 rfl rfl (by decide) (Nat.le_of_ble_eq_true rfl) dX12_text_56 (fun M27_ q28_ => ?_)
          obtain ⟨hI30_, hF31_, h29_, hs33_⟩ := q28_
          have hF32_ := hF_51.tr hF31_ (fun c k => (fun h => h.elim (fun h => (Or.inl ⟨h.1, h.2.1, h.2.2⟩)) (fun h => h.elim (fun h => (Or.inr (Or.inl ⟨h.1, h.2.1, h.2.2⟩))) (fun h => h.elim (fun h => (Or.inr (Or.inr (Or.inl ⟨h.1, h.2.1, h.2.2⟩)))) (fun h => h.elim (fun h => (Or.inr (Or.inr (Or.inr (Or.inl ⟨h.1, h.2.1, h.2.2⟩))))) (fun h => h.elim (fun h => (Or.inr (Or.inr (Or.inr (Or.inr (Or.inl ⟨h.1, h.2.1, h.2.2⟩)))))) (fun h => h.elim (fun h => (Or.inr (Or.inr (Or.inr (Or.inr (Or.inr (Or.inl ⟨h.1, h.2⟩))))))) (fun h => h.elim))))))))
          have h34_ : PP M27_ (s + 1) ((D + 1) + 1) (M_51.1 (12, 0, 0) 9).toInt T := h29_.1
          have kf35_ : (M27_.1 (12, 0, 0) 11).toInt + ((m : Nat) : Int) = 5 := h29_.2
          refine w_aload_n dX12_text_59 rfl 1 rfl ?_
          refine w_iload_n dX12_text_60 rfl 0 rfl ?_
          refine w_callVv (as := [vI v1_51]) (rest := []) (c_X12_codes l G cy ad ((N + d) + 11) v1_51 (s + 1) ((D + 1) + 1) ((M_51.1 (12, 0, 0) 9).toInt) T (D + 1) M27_ hI30_ h34_ (lf_c_X12_opens_8 s hs ) (stp_op (lf_c_X12_text_5 v1_51 hv0_51 h24_ ))) kV_X12_codes pnn_17 (Nat.le_of_ble_eq_true rfl) m_1583 rfl rfl rfl ic_12 rfl rfl (by decide) (Nat.le_of_ble_eq_true rfl) dX12_text_61 (fun M36_ q37_ => ?_)
          obtain ⟨hI39_, hF40_, h38_, hs42_⟩ := q37_
          have hF41_ := hF32_.tr hF40_ (fun c k => (fun h => h.elim (fun h => (Or.inr (Or.inr (Or.inr (Or.inr (Or.inl ⟨h.1, h.2.1, h.2.2⟩)))))) (fun h => h.elim (fun h => (Or.inr (Or.inr (Or.inr (Or.inr (Or.inr (Or.inl ⟨h.1, h.2⟩))))))) (fun h => h.elim))))
          have kf43_ : (M36_.1 (12, 0, 0) 11).toInt + ((m : Nat) : Int) = 5 := by rw [(hF40_ (12, 0, 0) 11 (by simp [S_codes]))]; exact kf35_
          refine w_aload_n dX12_text_64 rfl 1 rfl ?_
          refine w_bipush (v := 60) dX12_text_65 (by decide) ?_
          refine w_callV (as := [vI 60]) (rest := []) (c_X12_takes l G cy ad ((N + d) + 10) 60 ((s + 1) - 1) (D + 1) ((M_51.1 (12, 0, 0) 9).toInt) T M36_ hI39_ h38_ (by first | decide | (unfold vF; omega) | (unfold vRw; omega))) kV_X12_takes pnn_17 (Nat.le_of_ble_eq_true rfl) m_1591 rfl rfl rfl ic_12 rfl rfl (by decide) (Nat.le_of_ble_eq_true rfl) dX12_text_67 (fun r44_ M45_ q46_ => ?_)
          obtain ⟨hI48_, hF49_, h47_, hs51_⟩ := q46_
          have hF50_ := hF41_.tr hF49_ (fun c k => (fun h => h.elim (fun h => (Or.inl ⟨h.1, h.2.1, h.2.2⟩)) (fun h => h.elim)))
          have kf52_ : (M45_.1 (12, 0, 0) 11).toInt + ((m : Nat) : Int) = 5 := by rw [(hF49_ (12, 0, 0) 11 (by simp [S_here]))]; exact kf43_
          rcases h47_ with ⟨rfl, h47_⟩ | ⟨rfl, h47_⟩
          · have h53_ : PP M45_ (((s + 1) - 1) + 1) (D + 1) ((M_51.1 (12, 0, 0) 9).toInt + 1) T := h47_.1
            have kf54_ : M45_.1 (12, 0, 0) 13 = 0 := h47_.2
            refine w_if_eq (tgt := 79) dX12_text_70 (by decide) li_1 (fun h9 => (absurd h9 (by decide))) (fun h55_ => ?_)
            refine w_sipush (v := 2000) dX12_text_73 (by decide) ?_
            refine w_goto (tgt := 110) dX12_text_76 (by decide) ?_
            refine w_istore_n (ls' := [(1, vI 2000), (0, vR (12, 0, 0))]) dX12_text_110 rfl (by decide) rfl ?_
            refine w_goto (tgt := 51) dX12_text_111 (by decide) ?_
            refine w_loc (ls' := [(1, vI 2000), (0, vR (12, 0, 0))]) [0, 1] rfl ?_
            exact ih_51 M45_ hI48_ hF50_ 2000 (lf_c_X12_text_6 ) (PP_mono h53_ (lf_c_X12_text_7 M45_ M_51 s D T hs h53_ ) (lf_c_X12_term_8 M_51 a kf25_ kf25_ )) kf52_ (RCH.tail hL_51 ⟨hv0_51, hI_51, hF_51, h23_, h24_, M27_, hI30_, hF31_, hs33_, M36_, hI39_, hF40_, hs42_, M45_, hI48_, hF49_, (Or.inl ⟨hs51_, h53_, rfl, rfl⟩)⟩) (Nat.lt_of_lt_of_le (PP_meas (A := (M_51.1 (12, 0, 0) 9).toInt) (x := v1_51) (x' := (2000 : Int32)) (PP_mono h53_ (Int.le_refl _) (lf_c_X12_text_9 M11_ M1_ M27_ M36_ M45_ M_51 Mz m s D a T hs hk hm kf9_ kf18_ kf20_ kv0_51 kf25_ kf25_ kf35_ kf43_ kf52_ h53_ kf54_ )) rfl (lf_c_X12_term_2 v1_51 h24_ )) (Nat.le_of_lt_succ hm_51))
          · refine w_if_eq (tgt := 79) dX12_text_70 (by decide) li_0 (fun h56_ => ?_) (fun h9 => (absurd h9 (by decide)))
            refine w_aload_n dX12_text_79 rfl 1 rfl ?_
            refine w_bipush (v := 61) dX12_text_80 (by decide) ?_
            refine w_callV (as := [vI 61]) (rest := []) (c_X12_takes l G cy ad ((N + d) + 10) 61 ((s + 1) - 1) (D + 1) ((M_51.1 (12, 0, 0) 9).toInt) T M45_ hI48_ h47_ (by first | decide | (unfold vF; omega) | (unfold vRw; omega))) kV_X12_takes pnn_17 (Nat.le_of_ble_eq_true rfl) m_1591 rfl rfl rfl ic_12 rfl rfl (by decide) (Nat.le_of_ble_eq_true rfl) dX12_text_82 (fun r57_ M58_ q59_ => ?_)
            obtain ⟨hI61_, hF62_, h60_, hs64_⟩ := q59_
            have hF63_ := hF50_.tr hF62_ (fun c k => (fun h => h.elim (fun h => (Or.inl ⟨h.1, h.2.1, h.2.2⟩)) (fun h => h.elim)))
            have kf65_ : (M58_.1 (12, 0, 0) 11).toInt + ((m : Nat) : Int) = 5 := by rw [(hF62_ (12, 0, 0) 11 (by simp [S_here]))]; exact kf52_
            rcases h60_ with ⟨rfl, h60_⟩ | ⟨rfl, h60_⟩
            · have h66_ : PP M58_ (((s + 1) - 1) + 1) (D + 1) ((M_51.1 (12, 0, 0) 9).toInt + 1) T := h60_.1
              have kf67_ : M58_.1 (12, 0, 0) 13 = 0 := h60_.2
              refine w_if_eq (tgt := 94) dX12_text_85 (by decide) li_1 (fun h9 => (absurd h9 (by decide))) (fun h68_ => ?_)
              refine w_sipush (v := 2001) dX12_text_88 (by decide) ?_
              refine w_goto (tgt := 110) dX12_text_91 (by decide) ?_
              refine w_istore_n (ls' := [(1, vI 2001), (0, vR (12, 0, 0))]) dX12_text_110 rfl (by decide) rfl ?_
              refine w_goto (tgt := 51) dX12_text_111 (by decide) ?_
              refine w_loc (ls' := [(1, vI 2001), (0, vR (12, 0, 0))]) [0, 1] rfl ?_
              exact ih_51 M58_ hI61_ hF63_ 2001 (lf_c_X12_text_11 ) (PP_mono h66_ (lf_c_X12_text_12 M58_ M_51 s D T hs h66_ ) (lf_c_X12_term_8 M_51 a kf25_ kf25_ )) kf65_ (RCH.tail hL_51 ⟨hv0_51, hI_51, hF_51, h23_, h24_, M27_, hI30_, hF31_, hs33_, M36_, hI39_, hF40_, hs42_, M45_, hI48_, hF49_, (Or.inr ⟨hs51_, M58_, hI61_, hF62_, (Or.inl ⟨hs64_, h66_, rfl, rfl⟩)⟩)⟩) (Nat.lt_of_lt_of_le (PP_meas (A := (M_51.1 (12, 0, 0) 9).toInt) (x := v1_51) (x' := (2001 : Int32)) (PP_mono h66_ (Int.le_refl _) (lf_c_X12_text_14 M11_ M1_ M27_ M36_ M45_ M58_ M_51 Mz m s D a T hs hk hm kf9_ kf18_ kf20_ kv0_51 kf25_ kf25_ kf35_ kf43_ kf52_ kf65_ h66_ kf67_ )) rfl (lf_c_X12_term_2 v1_51 h24_ )) (Nat.le_of_lt_succ hm_51))
            · refine w_if_eq (tgt := 94) dX12_text_85 (by decide) li_0 (fun h69_ => ?_) (fun h9 => (absurd h9 (by decide)))
              refine w_aload_n dX12_text_94 rfl 1 rfl ?_
              refine w_bipush (v := 62) dX12_text_95 (by decide) ?_
              refine w_callV (as := [vI 62]) (rest := []) (c_X12_takes l G cy ad ((N + d) + 10) 62 ((s + 1) - 1) (D + 1) ((M_51.1 (12, 0, 0) 9).toInt) T M58_ hI61_ h60_ (by first | decide | (unfold vF; omega) | (unfold vRw; omega))) kV_X12_takes pnn_17 (Nat.le_of_ble_eq_true rfl) m_1591 rfl rfl rfl ic_12 rfl rfl (by decide) (Nat.le_of_ble_eq_true rfl) dX12_text_97 (fun r70_ M71_ q72_ => ?_)
              obtain ⟨hI74_, hF75_, h73_, hs77_⟩ := q72_
              have hF76_ := hF63_.tr hF75_ (fun c k => (fun h => h.elim (fun h => (Or.inl ⟨h.1, h.2.1, h.2.2⟩)) (fun h => h.elim)))
              have kf78_ : (M71_.1 (12, 0, 0) 11).toInt + ((m : Nat) : Int) = 5 := by rw [(hF75_ (12, 0, 0) 11 (by simp [S_here]))]; exact kf65_
              rcases h73_ with ⟨rfl, h73_⟩ | ⟨rfl, h73_⟩
              · have h79_ : PP M71_ (((s + 1) - 1) + 1) (D + 1) ((M_51.1 (12, 0, 0) 9).toInt + 1) T := h73_.1
                have kf80_ : M71_.1 (12, 0, 0) 13 = 0 := h73_.2
                refine w_if_eq (tgt := 109) dX12_text_100 (by decide) li_1 (fun h9 => (absurd h9 (by decide))) (fun h81_ => ?_)
                refine w_sipush (v := 2002) dX12_text_103 (by decide) ?_
                refine w_goto (tgt := 110) dX12_text_106 (by decide) ?_
                refine w_istore_n (ls' := [(1, vI 2002), (0, vR (12, 0, 0))]) dX12_text_110 rfl (by decide) rfl ?_
                refine w_goto (tgt := 51) dX12_text_111 (by decide) ?_
                refine w_loc (ls' := [(1, vI 2002), (0, vR (12, 0, 0))]) [0, 1] rfl ?_
                exact ih_51 M71_ hI74_ hF76_ 2002 (lf_c_X12_text_16 ) (PP_mono h79_ (lf_c_X12_text_17 M71_ M_51 s D T hs h79_ ) (lf_c_X12_term_8 M_51 a kf25_ kf25_ )) kf78_ (RCH.tail hL_51 ⟨hv0_51, hI_51, hF_51, h23_, h24_, M27_, hI30_, hF31_, hs33_, M36_, hI39_, hF40_, hs42_, M45_, hI48_, hF49_, (Or.inr ⟨hs51_, M58_, hI61_, hF62_, (Or.inr ⟨hs64_, M71_, hI74_, hF75_, (Or.inl ⟨hs77_, h79_, rfl, rfl⟩)⟩)⟩)⟩) (Nat.lt_of_lt_of_le (PP_meas (A := (M_51.1 (12, 0, 0) 9).toInt) (x := v1_51) (x' := (2002 : Int32)) (PP_mono h79_ (Int.le_refl _) (lf_c_X12_text_19 M11_ M1_ M27_ M36_ M45_ M58_ M71_ M_51 Mz m s D a T hs hk hm kf9_ kf18_ kf20_ kv0_51 kf25_ kf25_ kf35_ kf43_ kf52_ kf65_ kf78_ h79_ kf80_ )) rfl (lf_c_X12_term_2 v1_51 h24_ )) (Nat.le_of_lt_succ hm_51))
              · refine w_if_eq (tgt := 109) dX12_text_100 (by decide) li_0 (fun h82_ => ?_) (fun h9 => (absurd h9 (by decide)))
                refine w_iconst (v := 0) dX12_text_109 (by decide) ?_
                refine w_istore_n (ls' := [(1, vI 0), (0, vR (12, 0, 0))]) dX12_text_110 rfl (by decide) rfl ?_
                refine w_goto (tgt := 51) dX12_text_111 (by decide) ?_
                refine w_loc (ls' := [(1, vI 0), (0, vR (12, 0, 0))]) [0, 1] rfl ?_
                exact ih_51 M71_ hI74_ hF76_ 0 (lf_c_X12_text_21 ) (PP_mono h73_ (lf_c_X12_term_22 M71_ M_51 s D T hs h73_ ) (lf_c_X12_term_23 M_51 a kf25_ kf25_ )) kf78_ (RCH.tail hL_51 ⟨hv0_51, hI_51, hF_51, h23_, h24_, M27_, hI30_, hF31_, hs33_, M36_, hI39_, hF40_, hs42_, M45_, hI48_, hF49_, (Or.inr ⟨hs51_, M58_, hI61_, hF62_, (Or.inr ⟨hs64_, M71_, hI74_, hF75_, (Or.inr ⟨hs77_, h73_, rfl, rfl⟩)⟩)⟩)⟩) (Nat.lt_of_lt_of_le (PP_meas (A := (M_51.1 (12, 0, 0) 9).toInt) (x := v1_51) (x' := (0 : Int32)) (PP_mono h73_ (Int.le_refl _) (lf_c_X12_term_24 M11_ M1_ M27_ M36_ M45_ M58_ M71_ M_51 Mz m s D a T hs hk hm kf9_ kf18_ kf20_ kv0_51 kf25_ kf25_ kf35_ kf43_ kf52_ kf65_ kf78_ h73_ )) rfl (lf_c_X12_term_2 v1_51 h24_ )) (Nat.le_of_lt_succ hm_51))
    exact lp22_ _ M11_ hI14_ hF16_ 2000 (lf_c_X12_text_6 ) (PP_mono h19_ (lf_c_X12_text_27 M11_ s D a T hs h19_ ) (lf_c_X12_here_19 a )) kf18_ RCH.refl (Nat.lt_succ_self _)
  · refine w_if_eq (tgt := 19) dX12_text_10 (by decide) li_0 (fun h83_ => ?_) (fun h9 => (absurd h9 (by decide)))
    refine w_aload_n dX12_text_19 rfl 0 rfl ?_
    refine w_bipush (v := 61) dX12_text_20 (by decide) ?_
    refine w_callV (as := [vI 61]) (rest := []) (c_X12_takes l G cy ad ((N + d) + 10) 61 s (D + 1) a T M11_ hI14_ h13_ (by first | decide | (unfold vF; omega) | (unfold vRw; omega))) kV_X12_takes pnn_17 (Nat.le_of_ble_eq_true rfl) m_1591 rfl rfl rfl ic_12 rfl rfl (by decide) (Nat.le_of_ble_eq_true rfl) dX12_text_22 (fun r84_ M85_ q86_ => ?_)
    obtain ⟨hI88_, hF89_, h87_, hs91_⟩ := q86_
    have hF90_ := hF16_.tr hF89_ (fun c k => (fun h => h.elim (fun h => (Or.inl ⟨h.1, h.2.1, h.2.2⟩)) (fun h => h.elim)))
    have kf92_ : (M85_.1 (12, 0, 0) 11).toInt + ((m : Nat) : Int) = 5 := by rw [(hF89_ (12, 0, 0) 11 (by simp [S_here]))]; exact kf18_
    rcases h87_ with ⟨rfl, h87_⟩ | ⟨rfl, h87_⟩
    · have h93_ : PP M85_ (s + 1) (D + 1) (a + 1) T := h87_.1
      have kf94_ : M85_.1 (12, 0, 0) 13 = 0 := h87_.2
      refine w_if_eq (tgt := 34) dX12_text_25 (by decide) li_1 (fun h9 => (absurd h9 (by decide))) (fun h95_ => ?_)
      refine w_sipush (v := 2001) dX12_text_28 (by decide) ?_
      refine w_goto (tgt := 50) dX12_text_31 (by decide) ?_
      refine w_istore_n (ls' := [(1, vI 2001), (0, vR (12, 0, 0))]) dX12_text_50 rfl (by decide) rfl ?_
      have lp96_ : ∀ (nn_51 : Nat) (M_51 : mM) (hI_51 : InvD M_51) (hF_51 : FR (S_par) Mz M_51) (v1_51 : Int32) (hv0_51 : v1_51.toInt = 0 ∨ (2000 ≤ v1_51.toInt ∧ v1_51.toInt ≤ 2002)) (hv1_51 : PP M_51 (s + isX v1_51) (D + 1) a T) (kv0_51 : (M_51.1 (12, 0, 0) 11).toInt + ((m : Nat) : Int) = 5) (hL_51 : RCH (fun x_ y_ => ST_X12_text_51b N m QA QB s D T Mz x_.1 x_.2 y_.1 y_.2) ((2001 : Int32), M85_) (v1_51, M_51)), (2 * (T - (M_51.1 (12, 0, 0) 9).toInt) + isX v1_51).toNat < nn_51 → WP DD l G cy ad yX12_text cX12_text 2 none ((N + d) + 12) 51 [(1, vI v1_51), (0, vR (12, 0, 0))] [] M_51 (fun r M' => InvD M' ∧ FR (S_par) Mz M' ∧ (PP M' s (D + 1) a T ∧ (M'.1 (12, 0, 0) 11).toInt + ((m : Nat) : Int) = 5) ∧ SP_X12_text N m QA QB s D a T Mz M') := by
        intro nn_51
        induction nn_51 with
        | zero => intro M_51 hI_51 hF_51 v1_51 hv0_51 hv1_51 kv0_51 hL_51 hm_51; exact absurd hm_51 (Nat.not_lt_zero _)
        | succ nn_51 ih_51 =>
          intro M_51 hI_51 hF_51 v1_51 hv0_51 hv1_51 kv0_51 hL_51 hm_51
          have h97_ : 0 ≤ isX v1_51 ∧ isX v1_51 ≤ 1 := isX_b v1_51
          refine w_iload_n dX12_text_51 rfl 0 rfl ?_
          refine w_if_le (tgt := 114) dX12_text_52 (by decide) (rfl : v1_51.toInt = v1_51.toInt) (fun h98_ => ?_) (fun h98_ => ?_)
          · exact w_vret rfl dX12_text_114 ⟨hI_51, hF_51, ⟨PP_mono hv1_51 (lf_c_X12_text_0 M_51 s D a T v1_51 hs hv0_51 hv1_51 h97_ h98_ ) (lf_c_X12_opens_41 a ), kv0_51⟩, ⟨M1_, hI4_, hF5_, hs7_, M11_, hI14_, hF15_, (Or.inr ⟨hs17_, M85_, hI88_, hF89_, (Or.inl ⟨hs91_, v1_51, hv0_51, M_51, hL_51, hI_51, hF_51, hv1_51, h97_, h98_, rfl⟩)⟩)⟩⟩
          · have kf99_ : a ≤ (M_51.1 (12, 0, 0) 9).toInt := hv1_51.2.1
            have h100_ : PP M_51 (s + 1) (D + 1) (M_51.1 (12, 0, 0) 9).toInt T := PP_self (PP_mono hv1_51 (by rw [isX_p (lf_c_X12_term_2 v1_51 h98_ )]; exact Int.le_refl _) (Int.le_refl _))
            refine w_aload_n dX12_text_55 rfl 1 rfl ?_
            refine w_callVv (as := []) (rest := []) (c_X12_sum l G cy ad d N m QA QB (s + 1) (D + 1) ((M_51.1 (12, 0, 0) 9).toInt) T M_51 hI_51 hA hB h100_ (lf_c_X12_opens_8 s hs ) kv0_51 hm) kV_X12_sum pnn_17 (Nat.le_of_ble_eq_true rfl) m_1563 rfl rfl rfl ic_12 rfl rfl (by decide) (Nat.le_of_ble_eq_true rfl) dX12_text_56 (fun M101_ q102_ => ?_)
            obtain ⟨hI104_, hF105_, h103_, hs107_⟩ := q102_
            have hF106_ := hF_51.tr hF105_ (fun c k => (fun h => h.elim (fun h => (Or.inl ⟨h.1, h.2.1, h.2.2⟩)) (fun h => h.elim (fun h => (Or.inr (Or.inl ⟨h.1, h.2.1, h.2.2⟩))) (fun h => h.elim (fun h => (Or.inr (Or.inr (Or.inl ⟨h.1, h.2.1, h.2.2⟩)))) (fun h => h.elim (fun h => (Or.inr (Or.inr (Or.inr (Or.inl ⟨h.1, h.2.1, h.2.2⟩))))) (fun h => h.elim (fun h => (Or.inr (Or.inr (Or.inr (Or.inr (Or.inl ⟨h.1, h.2.1, h.2.2⟩)))))) (fun h => h.elim (fun h => (Or.inr (Or.inr (Or.inr (Or.inr (Or.inr (Or.inl ⟨h.1, h.2⟩))))))) (fun h => h.elim))))))))
            have h108_ : PP M101_ (s + 1) ((D + 1) + 1) (M_51.1 (12, 0, 0) 9).toInt T := h103_.1
            have kf109_ : (M101_.1 (12, 0, 0) 11).toInt + ((m : Nat) : Int) = 5 := h103_.2
            refine w_aload_n dX12_text_59 rfl 1 rfl ?_
            refine w_iload_n dX12_text_60 rfl 0 rfl ?_
            refine w_callVv (as := [vI v1_51]) (rest := []) (c_X12_codes l G cy ad ((N + d) + 11) v1_51 (s + 1) ((D + 1) + 1) ((M_51.1 (12, 0, 0) 9).toInt) T (D + 1) M101_ hI104_ h108_ (lf_c_X12_opens_8 s hs ) (stp_op (lf_c_X12_text_5 v1_51 hv0_51 h98_ ))) kV_X12_codes pnn_17 (Nat.le_of_ble_eq_true rfl) m_1583 rfl rfl rfl ic_12 rfl rfl (by decide) (Nat.le_of_ble_eq_true rfl) dX12_text_61 (fun M110_ q111_ => ?_)
            obtain ⟨hI113_, hF114_, h112_, hs116_⟩ := q111_
            have hF115_ := hF106_.tr hF114_ (fun c k => (fun h => h.elim (fun h => (Or.inr (Or.inr (Or.inr (Or.inr (Or.inl ⟨h.1, h.2.1, h.2.2⟩)))))) (fun h => h.elim (fun h => (Or.inr (Or.inr (Or.inr (Or.inr (Or.inr (Or.inl ⟨h.1, h.2⟩))))))) (fun h => h.elim))))
            have kf117_ : (M110_.1 (12, 0, 0) 11).toInt + ((m : Nat) : Int) = 5 := by rw [(hF114_ (12, 0, 0) 11 (by simp [S_codes]))]; exact kf109_
            refine w_aload_n dX12_text_64 rfl 1 rfl ?_
            refine w_bipush (v := 60) dX12_text_65 (by decide) ?_
            refine w_callV (as := [vI 60]) (rest := []) (c_X12_takes l G cy ad ((N + d) + 10) 60 ((s + 1) - 1) (D + 1) ((M_51.1 (12, 0, 0) 9).toInt) T M110_ hI113_ h112_ (by first | decide | (unfold vF; omega) | (unfold vRw; omega))) kV_X12_takes pnn_17 (Nat.le_of_ble_eq_true rfl) m_1591 rfl rfl rfl ic_12 rfl rfl (by decide) (Nat.le_of_ble_eq_true rfl) dX12_text_67 (fun r118_ M119_ q120_ => ?_)
            obtain ⟨hI122_, hF123_, h121_, hs125_⟩ := q120_
            have hF124_ := hF115_.tr hF123_ (fun c k => (fun h => h.elim (fun h => (Or.inl ⟨h.1, h.2.1, h.2.2⟩)) (fun h => h.elim)))
            have kf126_ : (M119_.1 (12, 0, 0) 11).toInt + ((m : Nat) : Int) = 5 := by rw [(hF123_ (12, 0, 0) 11 (by simp [S_here]))]; exact kf117_
            rcases h121_ with ⟨rfl, h121_⟩ | ⟨rfl, h121_⟩
            · have h127_ : PP M119_ (((s + 1) - 1) + 1) (D + 1) ((M_51.1 (12, 0, 0) 9).toInt + 1) T := h121_.1
              have kf128_ : M119_.1 (12, 0, 0) 13 = 0 := h121_.2
              refine w_if_eq (tgt := 79) dX12_text_70 (by decide) li_1 (fun h9 => (absurd h9 (by decide))) (fun h129_ => ?_)
              refine w_sipush (v := 2000) dX12_text_73 (by decide) ?_
              refine w_goto (tgt := 110) dX12_text_76 (by decide) ?_
              refine w_istore_n (ls' := [(1, vI 2000), (0, vR (12, 0, 0))]) dX12_text_110 rfl (by decide) rfl ?_
              refine w_goto (tgt := 51) dX12_text_111 (by decide) ?_
              refine w_loc (ls' := [(1, vI 2000), (0, vR (12, 0, 0))]) [0, 1] rfl ?_
              exact ih_51 M119_ hI122_ hF124_ 2000 (lf_c_X12_text_6 ) (PP_mono h127_ (lf_c_X12_text_7 M119_ M_51 s D T hs h127_ ) (lf_c_X12_term_8 M_51 a kf99_ kf99_ )) kf126_ (RCH.tail hL_51 ⟨hv0_51, hI_51, hF_51, h97_, h98_, M101_, hI104_, hF105_, hs107_, M110_, hI113_, hF114_, hs116_, M119_, hI122_, hF123_, (Or.inl ⟨hs125_, h127_, rfl, rfl⟩)⟩) (Nat.lt_of_lt_of_le (PP_meas (A := (M_51.1 (12, 0, 0) 9).toInt) (x := v1_51) (x' := (2000 : Int32)) (PP_mono h127_ (Int.le_refl _) (lf_c_X12_text_38 M101_ M110_ M119_ M11_ M1_ M85_ M_51 Mz m s D a T hs hk hm kf9_ kf18_ kf92_ kf94_ kv0_51 kf99_ kf99_ kf109_ kf117_ kf126_ h127_ kf128_ )) rfl (lf_c_X12_term_2 v1_51 h98_ )) (Nat.le_of_lt_succ hm_51))
            · refine w_if_eq (tgt := 79) dX12_text_70 (by decide) li_0 (fun h130_ => ?_) (fun h9 => (absurd h9 (by decide)))
              refine w_aload_n dX12_text_79 rfl 1 rfl ?_
              refine w_bipush (v := 61) dX12_text_80 (by decide) ?_
              refine w_callV (as := [vI 61]) (rest := []) (c_X12_takes l G cy ad ((N + d) + 10) 61 ((s + 1) - 1) (D + 1) ((M_51.1 (12, 0, 0) 9).toInt) T M119_ hI122_ h121_ (by first | decide | (unfold vF; omega) | (unfold vRw; omega))) kV_X12_takes pnn_17 (Nat.le_of_ble_eq_true rfl) m_1591 rfl rfl rfl ic_12 rfl rfl (by decide) (Nat.le_of_ble_eq_true rfl) dX12_text_82 (fun r131_ M132_ q133_ => ?_)
              obtain ⟨hI135_, hF136_, h134_, hs138_⟩ := q133_
              have hF137_ := hF124_.tr hF136_ (fun c k => (fun h => h.elim (fun h => (Or.inl ⟨h.1, h.2.1, h.2.2⟩)) (fun h => h.elim)))
              have kf139_ : (M132_.1 (12, 0, 0) 11).toInt + ((m : Nat) : Int) = 5 := by rw [(hF136_ (12, 0, 0) 11 (by simp [S_here]))]; exact kf126_
              rcases h134_ with ⟨rfl, h134_⟩ | ⟨rfl, h134_⟩
              · have h140_ : PP M132_ (((s + 1) - 1) + 1) (D + 1) ((M_51.1 (12, 0, 0) 9).toInt + 1) T := h134_.1
                have kf141_ : M132_.1 (12, 0, 0) 13 = 0 := h134_.2
                refine w_if_eq (tgt := 94) dX12_text_85 (by decide) li_1 (fun h9 => (absurd h9 (by decide))) (fun h142_ => ?_)
                refine w_sipush (v := 2001) dX12_text_88 (by decide) ?_
                refine w_goto (tgt := 110) dX12_text_91 (by decide) ?_
                refine w_istore_n (ls' := [(1, vI 2001), (0, vR (12, 0, 0))]) dX12_text_110 rfl (by decide) rfl ?_
                refine w_goto (tgt := 51) dX12_text_111 (by decide) ?_
                refine w_loc (ls' := [(1, vI 2001), (0, vR (12, 0, 0))]) [0, 1] rfl ?_
                exact ih_51 M132_ hI135_ hF137_ 2001 (lf_c_X12_text_11 ) (PP_mono h140_ (lf_c_X12_text_12 M132_ M_51 s D T hs h140_ ) (lf_c_X12_term_8 M_51 a kf99_ kf99_ )) kf139_ (RCH.tail hL_51 ⟨hv0_51, hI_51, hF_51, h97_, h98_, M101_, hI104_, hF105_, hs107_, M110_, hI113_, hF114_, hs116_, M119_, hI122_, hF123_, (Or.inr ⟨hs125_, M132_, hI135_, hF136_, (Or.inl ⟨hs138_, h140_, rfl, rfl⟩)⟩)⟩) (Nat.lt_of_lt_of_le (PP_meas (A := (M_51.1 (12, 0, 0) 9).toInt) (x := v1_51) (x' := (2001 : Int32)) (PP_mono h140_ (Int.le_refl _) (lf_c_X12_text_43 M101_ M110_ M119_ M11_ M132_ M1_ M85_ M_51 Mz m s D a T hs hk hm kf9_ kf18_ kf92_ kf94_ kv0_51 kf99_ kf99_ kf109_ kf117_ kf126_ kf139_ h140_ kf141_ )) rfl (lf_c_X12_term_2 v1_51 h98_ )) (Nat.le_of_lt_succ hm_51))
              · refine w_if_eq (tgt := 94) dX12_text_85 (by decide) li_0 (fun h143_ => ?_) (fun h9 => (absurd h9 (by decide)))
                refine w_aload_n dX12_text_94 rfl 1 rfl ?_
                refine w_bipush (v := 62) dX12_text_95 (by decide) ?_
                refine w_callV (as := [vI 62]) (rest := []) (c_X12_takes l G cy ad ((N + d) + 10) 62 ((s + 1) - 1) (D + 1) ((M_51.1 (12, 0, 0) 9).toInt) T M132_ hI135_ h134_ (by first | decide | (unfold vF; omega) | (unfold vRw; omega))) kV_X12_takes pnn_17 (Nat.le_of_ble_eq_true rfl) m_1591 rfl rfl rfl ic_12 rfl rfl (by decide) (Nat.le_of_ble_eq_true rfl) dX12_text_97 (fun r144_ M145_ q146_ => ?_)
                obtain ⟨hI148_, hF149_, h147_, hs151_⟩ := q146_
                have hF150_ := hF137_.tr hF149_ (fun c k => (fun h => h.elim (fun h => (Or.inl ⟨h.1, h.2.1, h.2.2⟩)) (fun h => h.elim)))
                have kf152_ : (M145_.1 (12, 0, 0) 11).toInt + ((m : Nat) : Int) = 5 := by rw [(hF149_ (12, 0, 0) 11 (by simp [S_here]))]; exact kf139_
                rcases h147_ with ⟨rfl, h147_⟩ | ⟨rfl, h147_⟩
                · have h153_ : PP M145_ (((s + 1) - 1) + 1) (D + 1) ((M_51.1 (12, 0, 0) 9).toInt + 1) T := h147_.1
                  have kf154_ : M145_.1 (12, 0, 0) 13 = 0 := h147_.2
                  refine w_if_eq (tgt := 109) dX12_text_100 (by decide) li_1 (fun h9 => (absurd h9 (by decide))) (fun h155_ => ?_)
                  refine w_sipush (v := 2002) dX12_text_103 (by decide) ?_
                  refine w_goto (tgt := 110) dX12_text_106 (by decide) ?_
                  refine w_istore_n (ls' := [(1, vI 2002), (0, vR (12, 0, 0))]) dX12_text_110 rfl (by decide) rfl ?_
                  refine w_goto (tgt := 51) dX12_text_111 (by decide) ?_
                  refine w_loc (ls' := [(1, vI 2002), (0, vR (12, 0, 0))]) [0, 1] rfl ?_
                  exact ih_51 M145_ hI148_ hF150_ 2002 (lf_c_X12_text_16 ) (PP_mono h153_ (lf_c_X12_text_17 M145_ M_51 s D T hs h153_ ) (lf_c_X12_term_8 M_51 a kf99_ kf99_ )) kf152_ (RCH.tail hL_51 ⟨hv0_51, hI_51, hF_51, h97_, h98_, M101_, hI104_, hF105_, hs107_, M110_, hI113_, hF114_, hs116_, M119_, hI122_, hF123_, (Or.inr ⟨hs125_, M132_, hI135_, hF136_, (Or.inr ⟨hs138_, M145_, hI148_, hF149_, (Or.inl ⟨hs151_, h153_, rfl, rfl⟩)⟩)⟩)⟩) (Nat.lt_of_lt_of_le (PP_meas (A := (M_51.1 (12, 0, 0) 9).toInt) (x := v1_51) (x' := (2002 : Int32)) (PP_mono h153_ (Int.le_refl _) (lf_c_X12_text_48 M101_ M110_ M119_ M11_ M132_ M145_ M1_ M85_ M_51 Mz m s D a T hs hk hm kf9_ kf18_ kf92_ kf94_ kv0_51 kf99_ kf99_ kf109_ kf117_ kf126_ kf139_ kf152_ h153_ kf154_ )) rfl (lf_c_X12_term_2 v1_51 h98_ )) (Nat.le_of_lt_succ hm_51))
                · refine w_if_eq (tgt := 109) dX12_text_100 (by decide) li_0 (fun h156_ => ?_) (fun h9 => (absurd h9 (by decide)))
                  refine w_iconst (v := 0) dX12_text_109 (by decide) ?_
                  refine w_istore_n (ls' := [(1, vI 0), (0, vR (12, 0, 0))]) dX12_text_110 rfl (by decide) rfl ?_
                  refine w_goto (tgt := 51) dX12_text_111 (by decide) ?_
                  refine w_loc (ls' := [(1, vI 0), (0, vR (12, 0, 0))]) [0, 1] rfl ?_
                  exact ih_51 M145_ hI148_ hF150_ 0 (lf_c_X12_text_21 ) (PP_mono h147_ (lf_c_X12_term_22 M145_ M_51 s D T hs h147_ ) (lf_c_X12_term_23 M_51 a kf99_ kf99_ )) kf152_ (RCH.tail hL_51 ⟨hv0_51, hI_51, hF_51, h97_, h98_, M101_, hI104_, hF105_, hs107_, M110_, hI113_, hF114_, hs116_, M119_, hI122_, hF123_, (Or.inr ⟨hs125_, M132_, hI135_, hF136_, (Or.inr ⟨hs138_, M145_, hI148_, hF149_, (Or.inr ⟨hs151_, h147_, rfl, rfl⟩)⟩)⟩)⟩) (Nat.lt_of_lt_of_le (PP_meas (A := (M_51.1 (12, 0, 0) 9).toInt) (x := v1_51) (x' := (0 : Int32)) (PP_mono h147_ (Int.le_refl _) (lf_c_X12_term_53 M101_ M110_ M119_ M11_ M132_ M145_ M1_ M85_ M_51 Mz m s D a T hs hk hm kf9_ kf18_ kf92_ kf94_ kv0_51 kf99_ kf99_ kf109_ kf117_ kf126_ kf139_ kf152_ h147_ )) rfl (lf_c_X12_term_2 v1_51 h98_ )) (Nat.le_of_lt_succ hm_51))
      exact lp96_ _ M85_ hI88_ hF90_ 2001 (lf_c_X12_text_11 ) (PP_mono h93_ (lf_c_X12_text_56 M85_ s D a T hs h93_ ) (lf_c_X12_here_19 a )) kf92_ RCH.refl (Nat.lt_succ_self _)
    · refine w_if_eq (tgt := 34) dX12_text_25 (by decide) li_0 (fun h157_ => ?_) (fun h9 => (absurd h9 (by decide)))
      refine w_aload_n dX12_text_34 rfl 0 rfl ?_
      refine w_bipush (v := 62) dX12_text_35 (by decide) ?_
      refine w_callV (as := [vI 62]) (rest := []) (c_X12_takes l G cy ad ((N + d) + 10) 62 s (D + 1) a T M85_ hI88_ h87_ (by first | decide | (unfold vF; omega) | (unfold vRw; omega))) kV_X12_takes pnn_17 (Nat.le_of_ble_eq_true rfl) m_1591 rfl rfl rfl ic_12 rfl rfl (by decide) (Nat.le_of_ble_eq_true rfl) dX12_text_37 (fun r158_ M159_ q160_ => ?_)
      obtain ⟨hI162_, hF163_, h161_, hs165_⟩ := q160_
      have hF164_ := hF90_.tr hF163_ (fun c k => (fun h => h.elim (fun h => (Or.inl ⟨h.1, h.2.1, h.2.2⟩)) (fun h => h.elim)))
      have kf166_ : (M159_.1 (12, 0, 0) 11).toInt + ((m : Nat) : Int) = 5 := by rw [(hF163_ (12, 0, 0) 11 (by simp [S_here]))]; exact kf92_
      rcases h161_ with ⟨rfl, h161_⟩ | ⟨rfl, h161_⟩
      · have h167_ : PP M159_ (s + 1) (D + 1) (a + 1) T := h161_.1
        have kf168_ : M159_.1 (12, 0, 0) 13 = 0 := h161_.2
        refine w_if_eq (tgt := 49) dX12_text_40 (by decide) li_1 (fun h9 => (absurd h9 (by decide))) (fun h169_ => ?_)
        refine w_sipush (v := 2002) dX12_text_43 (by decide) ?_
        refine w_goto (tgt := 50) dX12_text_46 (by decide) ?_
        refine w_istore_n (ls' := [(1, vI 2002), (0, vR (12, 0, 0))]) dX12_text_50 rfl (by decide) rfl ?_
        have lp170_ : ∀ (nn_51 : Nat) (M_51 : mM) (hI_51 : InvD M_51) (hF_51 : FR (S_par) Mz M_51) (v1_51 : Int32) (hv0_51 : v1_51.toInt = 0 ∨ (2000 ≤ v1_51.toInt ∧ v1_51.toInt ≤ 2002)) (hv1_51 : PP M_51 (s + isX v1_51) (D + 1) a T) (kv0_51 : (M_51.1 (12, 0, 0) 11).toInt + ((m : Nat) : Int) = 5) (hL_51 : RCH (fun x_ y_ => ST_X12_text_51c N m QA QB s D T Mz x_.1 x_.2 y_.1 y_.2) ((2002 : Int32), M159_) (v1_51, M_51)), (2 * (T - (M_51.1 (12, 0, 0) 9).toInt) + isX v1_51).toNat < nn_51 → WP DD l G cy ad yX12_text cX12_text 2 none ((N + d) + 12) 51 [(1, vI v1_51), (0, vR (12, 0, 0))] [] M_51 (fun r M' => InvD M' ∧ FR (S_par) Mz M' ∧ (PP M' s (D + 1) a T ∧ (M'.1 (12, 0, 0) 11).toInt + ((m : Nat) : Int) = 5) ∧ SP_X12_text N m QA QB s D a T Mz M') := by
          intro nn_51
          induction nn_51 with
          | zero => intro M_51 hI_51 hF_51 v1_51 hv0_51 hv1_51 kv0_51 hL_51 hm_51; exact absurd hm_51 (Nat.not_lt_zero _)
          | succ nn_51 ih_51 =>
            intro M_51 hI_51 hF_51 v1_51 hv0_51 hv1_51 kv0_51 hL_51 hm_51
            have h171_ : 0 ≤ isX v1_51 ∧ isX v1_51 ≤ 1 := isX_b v1_51
            refine w_iload_n dX12_text_51 rfl 0 rfl ?_
            refine w_if_le (tgt := 114) dX12_text_52 (by decide) (rfl : v1_51.toInt = v1_51.toInt) (fun h172_ => ?_) (fun h172_ => ?_)
            · exact w_vret rfl dX12_text_114 ⟨hI_51, hF_51, ⟨PP_mono hv1_51 (lf_c_X12_text_0 M_51 s D a T v1_51 hs hv0_51 hv1_51 h171_ h172_ ) (lf_c_X12_opens_41 a ), kv0_51⟩, ⟨M1_, hI4_, hF5_, hs7_, M11_, hI14_, hF15_, (Or.inr ⟨hs17_, M85_, hI88_, hF89_, (Or.inr ⟨hs91_, M159_, hI162_, hF163_, (Or.inl ⟨hs165_, v1_51, hv0_51, M_51, hL_51, hI_51, hF_51, hv1_51, h171_, h172_, rfl⟩)⟩)⟩)⟩⟩
            · have kf173_ : a ≤ (M_51.1 (12, 0, 0) 9).toInt := hv1_51.2.1
              have h174_ : PP M_51 (s + 1) (D + 1) (M_51.1 (12, 0, 0) 9).toInt T := PP_self (PP_mono hv1_51 (by rw [isX_p (lf_c_X12_term_2 v1_51 h172_ )]; exact Int.le_refl _) (Int.le_refl _))
              refine w_aload_n dX12_text_55 rfl 1 rfl ?_
              refine w_callVv (as := []) (rest := []) (c_X12_sum l G cy ad d N m QA QB (s + 1) (D + 1) ((M_51.1 (12, 0, 0) 9).toInt) T M_51 hI_51 hA hB h174_ (lf_c_X12_opens_8 s hs ) kv0_51 hm) kV_X12_sum pnn_17 (Nat.le_of_ble_eq_true rfl) m_1563 rfl rfl rfl ic_12 rfl rfl (by decide) (Nat.le_of_ble_eq_true rfl) dX12_text_56 (fun M175_ q176_ => ?_)
              obtain ⟨hI178_, hF179_, h177_, hs181_⟩ := q176_
              have hF180_ := hF_51.tr hF179_ (fun c k => (fun h => h.elim (fun h => (Or.inl ⟨h.1, h.2.1, h.2.2⟩)) (fun h => h.elim (fun h => (Or.inr (Or.inl ⟨h.1, h.2.1, h.2.2⟩))) (fun h => h.elim (fun h => (Or.inr (Or.inr (Or.inl ⟨h.1, h.2.1, h.2.2⟩)))) (fun h => h.elim (fun h => (Or.inr (Or.inr (Or.inr (Or.inl ⟨h.1, h.2.1, h.2.2⟩))))) (fun h => h.elim (fun h => (Or.inr (Or.inr (Or.inr (Or.inr (Or.inl ⟨h.1, h.2.1, h.2.2⟩)))))) (fun h => h.elim (fun h => (Or.inr (Or.inr (Or.inr (Or.inr (Or.inr (Or.inl ⟨h.1, h.2⟩))))))) (fun h => h.elim))))))))
              have h182_ : PP M175_ (s + 1) ((D + 1) + 1) (M_51.1 (12, 0, 0) 9).toInt T := h177_.1
              have kf183_ : (M175_.1 (12, 0, 0) 11).toInt + ((m : Nat) : Int) = 5 := h177_.2
              refine w_aload_n dX12_text_59 rfl 1 rfl ?_
              refine w_iload_n dX12_text_60 rfl 0 rfl ?_
              refine w_callVv (as := [vI v1_51]) (rest := []) (c_X12_codes l G cy ad ((N + d) + 11) v1_51 (s + 1) ((D + 1) + 1) ((M_51.1 (12, 0, 0) 9).toInt) T (D + 1) M175_ hI178_ h182_ (lf_c_X12_opens_8 s hs ) (stp_op (lf_c_X12_text_5 v1_51 hv0_51 h172_ ))) kV_X12_codes pnn_17 (Nat.le_of_ble_eq_true rfl) m_1583 rfl rfl rfl ic_12 rfl rfl (by decide) (Nat.le_of_ble_eq_true rfl) dX12_text_61 (fun M184_ q185_ => ?_)
              obtain ⟨hI187_, hF188_, h186_, hs190_⟩ := q185_
              have hF189_ := hF180_.tr hF188_ (fun c k => (fun h => h.elim (fun h => (Or.inr (Or.inr (Or.inr (Or.inr (Or.inl ⟨h.1, h.2.1, h.2.2⟩)))))) (fun h => h.elim (fun h => (Or.inr (Or.inr (Or.inr (Or.inr (Or.inr (Or.inl ⟨h.1, h.2⟩))))))) (fun h => h.elim))))
              have kf191_ : (M184_.1 (12, 0, 0) 11).toInt + ((m : Nat) : Int) = 5 := by rw [(hF188_ (12, 0, 0) 11 (by simp [S_codes]))]; exact kf183_
              refine w_aload_n dX12_text_64 rfl 1 rfl ?_
              refine w_bipush (v := 60) dX12_text_65 (by decide) ?_
              refine w_callV (as := [vI 60]) (rest := []) (c_X12_takes l G cy ad ((N + d) + 10) 60 ((s + 1) - 1) (D + 1) ((M_51.1 (12, 0, 0) 9).toInt) T M184_ hI187_ h186_ (by first | decide | (unfold vF; omega) | (unfold vRw; omega))) kV_X12_takes pnn_17 (Nat.le_of_ble_eq_true rfl) m_1591 rfl rfl rfl ic_12 rfl rfl (by decide) (Nat.le_of_ble_eq_true rfl) dX12_text_67 (fun r192_ M193_ q194_ => ?_)
              obtain ⟨hI196_, hF197_, h195_, hs199_⟩ := q194_
              have hF198_ := hF189_.tr hF197_ (fun c k => (fun h => h.elim (fun h => (Or.inl ⟨h.1, h.2.1, h.2.2⟩)) (fun h => h.elim)))
              have kf200_ : (M193_.1 (12, 0, 0) 11).toInt + ((m : Nat) : Int) = 5 := by rw [(hF197_ (12, 0, 0) 11 (by simp [S_here]))]; exact kf191_
              rcases h195_ with ⟨rfl, h195_⟩ | ⟨rfl, h195_⟩
              · have h201_ : PP M193_ (((s + 1) - 1) + 1) (D + 1) ((M_51.1 (12, 0, 0) 9).toInt + 1) T := h195_.1
                have kf202_ : M193_.1 (12, 0, 0) 13 = 0 := h195_.2
                refine w_if_eq (tgt := 79) dX12_text_70 (by decide) li_1 (fun h9 => (absurd h9 (by decide))) (fun h203_ => ?_)
                refine w_sipush (v := 2000) dX12_text_73 (by decide) ?_
                refine w_goto (tgt := 110) dX12_text_76 (by decide) ?_
                refine w_istore_n (ls' := [(1, vI 2000), (0, vR (12, 0, 0))]) dX12_text_110 rfl (by decide) rfl ?_
                refine w_goto (tgt := 51) dX12_text_111 (by decide) ?_
                refine w_loc (ls' := [(1, vI 2000), (0, vR (12, 0, 0))]) [0, 1] rfl ?_
                exact ih_51 M193_ hI196_ hF198_ 2000 (lf_c_X12_text_6 ) (PP_mono h201_ (lf_c_X12_text_7 M193_ M_51 s D T hs h201_ ) (lf_c_X12_term_8 M_51 a kf173_ kf173_ )) kf200_ (RCH.tail hL_51 ⟨hv0_51, hI_51, hF_51, h171_, h172_, M175_, hI178_, hF179_, hs181_, M184_, hI187_, hF188_, hs190_, M193_, hI196_, hF197_, (Or.inl ⟨hs199_, h201_, rfl, rfl⟩)⟩) (Nat.lt_of_lt_of_le (PP_meas (A := (M_51.1 (12, 0, 0) 9).toInt) (x := v1_51) (x' := (2000 : Int32)) (PP_mono h201_ (Int.le_refl _) (lf_c_X12_text_67 M11_ M159_ M175_ M184_ M193_ M1_ M85_ M_51 Mz m s D a T hs hk hm kf9_ kf18_ kf92_ kf166_ kf168_ kv0_51 kf173_ kf173_ kf183_ kf191_ kf200_ h201_ kf202_ )) rfl (lf_c_X12_term_2 v1_51 h172_ )) (Nat.le_of_lt_succ hm_51))
              · refine w_if_eq (tgt := 79) dX12_text_70 (by decide) li_0 (fun h204_ => ?_) (fun h9 => (absurd h9 (by decide)))
                refine w_aload_n dX12_text_79 rfl 1 rfl ?_
                refine w_bipush (v := 61) dX12_text_80 (by decide) ?_
                refine w_callV (as := [vI 61]) (rest := []) (c_X12_takes l G cy ad ((N + d) + 10) 61 ((s + 1) - 1) (D + 1) ((M_51.1 (12, 0, 0) 9).toInt) T M193_ hI196_ h195_ (by first | decide | (unfold vF; omega) | (unfold vRw; omega))) kV_X12_takes pnn_17 (Nat.le_of_ble_eq_true rfl) m_1591 rfl rfl rfl ic_12 rfl rfl (by decide) (Nat.le_of_ble_eq_true rfl) dX12_text_82 (fun r205_ M206_ q207_ => ?_)
                obtain ⟨hI209_, hF210_, h208_, hs212_⟩ := q207_
                have hF211_ := hF198_.tr hF210_ (fun c k => (fun h => h.elim (fun h => (Or.inl ⟨h.1, h.2.1, h.2.2⟩)) (fun h => h.elim)))
                have kf213_ : (M206_.1 (12, 0, 0) 11).toInt + ((m : Nat) : Int) = 5 := by rw [(hF210_ (12, 0, 0) 11 (by simp [S_here]))]; exact kf200_
                rcases h208_ with ⟨rfl, h208_⟩ | ⟨rfl, h208_⟩
                · have h214_ : PP M206_ (((s + 1) - 1) + 1) (D + 1) ((M_51.1 (12, 0, 0) 9).toInt + 1) T := h208_.1
                  have kf215_ : M206_.1 (12, 0, 0) 13 = 0 := h208_.2
                  refine w_if_eq (tgt := 94) dX12_text_85 (by decide) li_1 (fun h9 => (absurd h9 (by decide))) (fun h216_ => ?_)
                  refine w_sipush (v := 2001) dX12_text_88 (by decide) ?_
                  refine w_goto (tgt := 110) dX12_text_91 (by decide) ?_
                  refine w_istore_n (ls' := [(1, vI 2001), (0, vR (12, 0, 0))]) dX12_text_110 rfl (by decide) rfl ?_
                  refine w_goto (tgt := 51) dX12_text_111 (by decide) ?_
                  refine w_loc (ls' := [(1, vI 2001), (0, vR (12, 0, 0))]) [0, 1] rfl ?_
                  exact ih_51 M206_ hI209_ hF211_ 2001 (lf_c_X12_text_11 ) (PP_mono h214_ (lf_c_X12_text_12 M206_ M_51 s D T hs h214_ ) (lf_c_X12_term_8 M_51 a kf173_ kf173_ )) kf213_ (RCH.tail hL_51 ⟨hv0_51, hI_51, hF_51, h171_, h172_, M175_, hI178_, hF179_, hs181_, M184_, hI187_, hF188_, hs190_, M193_, hI196_, hF197_, (Or.inr ⟨hs199_, M206_, hI209_, hF210_, (Or.inl ⟨hs212_, h214_, rfl, rfl⟩)⟩)⟩) (Nat.lt_of_lt_of_le (PP_meas (A := (M_51.1 (12, 0, 0) 9).toInt) (x := v1_51) (x' := (2001 : Int32)) (PP_mono h214_ (Int.le_refl _) (lf_c_X12_text_72 M11_ M159_ M175_ M184_ M193_ M1_ M206_ M85_ M_51 Mz m s D a T hs hk hm kf9_ kf18_ kf92_ kf166_ kf168_ kv0_51 kf173_ kf173_ kf183_ kf191_ kf200_ kf213_ h214_ kf215_ )) rfl (lf_c_X12_term_2 v1_51 h172_ )) (Nat.le_of_lt_succ hm_51))
                · refine w_if_eq (tgt := 94) dX12_text_85 (by decide) li_0 (fun h217_ => ?_) (fun h9 => (absurd h9 (by decide)))
                  refine w_aload_n dX12_text_94 rfl 1 rfl ?_
                  refine w_bipush (v := 62) dX12_text_95 (by decide) ?_
                  refine w_callV (as := [vI 62]) (rest := []) (c_X12_takes l G cy ad ((N + d) + 10) 62 ((s + 1) - 1) (D + 1) ((M_51.1 (12, 0, 0) 9).toInt) T M206_ hI209_ h208_ (by first | decide | (unfold vF; omega) | (unfold vRw; omega))) kV_X12_takes pnn_17 (Nat.le_of_ble_eq_true rfl) m_1591 rfl rfl rfl ic_12 rfl rfl (by decide) (Nat.le_of_ble_eq_true rfl) dX12_text_97 (fun r218_ M219_ q220_ => ?_)
                  obtain ⟨hI222_, hF223_, h221_, hs225_⟩ := q220_
                  have hF224_ := hF211_.tr hF223_ (fun c k => (fun h => h.elim (fun h => (Or.inl ⟨h.1, h.2.1, h.2.2⟩)) (fun h => h.elim)))
                  have kf226_ : (M219_.1 (12, 0, 0) 11).toInt + ((m : Nat) : Int) = 5 := by rw [(hF223_ (12, 0, 0) 11 (by simp [S_here]))]; exact kf213_
                  rcases h221_ with ⟨rfl, h221_⟩ | ⟨rfl, h221_⟩
                  · have h227_ : PP M219_ (((s + 1) - 1) + 1) (D + 1) ((M_51.1 (12, 0, 0) 9).toInt + 1) T := h221_.1
                    have kf228_ : M219_.1 (12, 0, 0) 13 = 0 := h221_.2
                    refine w_if_eq (tgt := 109) dX12_text_100 (by decide) li_1 (fun h9 => (absurd h9 (by decide))) (fun h229_ => ?_)
                    refine w_sipush (v := 2002) dX12_text_103 (by decide) ?_
                    refine w_goto (tgt := 110) dX12_text_106 (by decide) ?_
                    refine w_istore_n (ls' := [(1, vI 2002), (0, vR (12, 0, 0))]) dX12_text_110 rfl (by decide) rfl ?_
                    refine w_goto (tgt := 51) dX12_text_111 (by decide) ?_
                    refine w_loc (ls' := [(1, vI 2002), (0, vR (12, 0, 0))]) [0, 1] rfl ?_
                    exact ih_51 M219_ hI222_ hF224_ 2002 (lf_c_X12_text_16 ) (PP_mono h227_ (lf_c_X12_text_17 M219_ M_51 s D T hs h227_ ) (lf_c_X12_term_8 M_51 a kf173_ kf173_ )) kf226_ (RCH.tail hL_51 ⟨hv0_51, hI_51, hF_51, h171_, h172_, M175_, hI178_, hF179_, hs181_, M184_, hI187_, hF188_, hs190_, M193_, hI196_, hF197_, (Or.inr ⟨hs199_, M206_, hI209_, hF210_, (Or.inr ⟨hs212_, M219_, hI222_, hF223_, (Or.inl ⟨hs225_, h227_, rfl, rfl⟩)⟩)⟩)⟩) (Nat.lt_of_lt_of_le (PP_meas (A := (M_51.1 (12, 0, 0) 9).toInt) (x := v1_51) (x' := (2002 : Int32)) (PP_mono h227_ (Int.le_refl _) (lf_c_X12_text_77 M11_ M159_ M175_ M184_ M193_ M1_ M206_ M219_ M85_ M_51 Mz m s D a T hs hk hm kf9_ kf18_ kf92_ kf166_ kf168_ kv0_51 kf173_ kf173_ kf183_ kf191_ kf200_ kf213_ kf226_ h227_ kf228_ )) rfl (lf_c_X12_term_2 v1_51 h172_ )) (Nat.le_of_lt_succ hm_51))
                  · refine w_if_eq (tgt := 109) dX12_text_100 (by decide) li_0 (fun h230_ => ?_) (fun h9 => (absurd h9 (by decide)))
                    refine w_iconst (v := 0) dX12_text_109 (by decide) ?_
                    refine w_istore_n (ls' := [(1, vI 0), (0, vR (12, 0, 0))]) dX12_text_110 rfl (by decide) rfl ?_
                    refine w_goto (tgt := 51) dX12_text_111 (by decide) ?_
                    refine w_loc (ls' := [(1, vI 0), (0, vR (12, 0, 0))]) [0, 1] rfl ?_
                    exact ih_51 M219_ hI222_ hF224_ 0 (lf_c_X12_text_21 ) (PP_mono h221_ (lf_c_X12_term_22 M219_ M_51 s D T hs h221_ ) (lf_c_X12_term_23 M_51 a kf173_ kf173_ )) kf226_ (RCH.tail hL_51 ⟨hv0_51, hI_51, hF_51, h171_, h172_, M175_, hI178_, hF179_, hs181_, M184_, hI187_, hF188_, hs190_, M193_, hI196_, hF197_, (Or.inr ⟨hs199_, M206_, hI209_, hF210_, (Or.inr ⟨hs212_, M219_, hI222_, hF223_, (Or.inr ⟨hs225_, h221_, rfl, rfl⟩)⟩)⟩)⟩) (Nat.lt_of_lt_of_le (PP_meas (A := (M_51.1 (12, 0, 0) 9).toInt) (x := v1_51) (x' := (0 : Int32)) (PP_mono h221_ (Int.le_refl _) (lf_c_X12_term_82 M11_ M159_ M175_ M184_ M193_ M1_ M206_ M219_ M85_ M_51 Mz m s D a T hs hk hm kf9_ kf18_ kf92_ kf166_ kf168_ kv0_51 kf173_ kf173_ kf183_ kf191_ kf200_ kf213_ kf226_ h221_ )) rfl (lf_c_X12_term_2 v1_51 h172_ )) (Nat.le_of_lt_succ hm_51))
        exact lp170_ _ M159_ hI162_ hF164_ 2002 (lf_c_X12_text_16 ) (PP_mono h167_ (lf_c_X12_text_85 M159_ s D a T hs h167_ ) (lf_c_X12_here_19 a )) kf166_ RCH.refl (Nat.lt_succ_self _)
      · refine w_if_eq (tgt := 49) dX12_text_40 (by decide) li_0 (fun h231_ => ?_) (fun h9 => (absurd h9 (by decide)))
        refine w_iconst (v := 0) dX12_text_49 (by decide) ?_
        refine w_istore_n (ls' := [(1, vI 0), (0, vR (12, 0, 0))]) dX12_text_50 rfl (by decide) rfl ?_
        have lp232_ : ∀ (nn_51 : Nat) (M_51 : mM) (hI_51 : InvD M_51) (hF_51 : FR (S_par) Mz M_51) (v1_51 : Int32) (hv0_51 : v1_51.toInt = 0 ∨ (2000 ≤ v1_51.toInt ∧ v1_51.toInt ≤ 2002)) (hv1_51 : PP M_51 (s + isX v1_51) (D + 1) a T) (kv0_51 : (M_51.1 (12, 0, 0) 11).toInt + ((m : Nat) : Int) = 5) (hL_51 : RCH (fun x_ y_ => ST_X12_text_51d N m QA QB s D T Mz x_.1 x_.2 y_.1 y_.2) ((0 : Int32), M159_) (v1_51, M_51)), (2 * (T - (M_51.1 (12, 0, 0) 9).toInt) + isX v1_51).toNat < nn_51 → WP DD l G cy ad yX12_text cX12_text 2 none ((N + d) + 12) 51 [(1, vI v1_51), (0, vR (12, 0, 0))] [] M_51 (fun r M' => InvD M' ∧ FR (S_par) Mz M' ∧ (PP M' s (D + 1) a T ∧ (M'.1 (12, 0, 0) 11).toInt + ((m : Nat) : Int) = 5) ∧ SP_X12_text N m QA QB s D a T Mz M') := by
          intro nn_51
          induction nn_51 with
          | zero => intro M_51 hI_51 hF_51 v1_51 hv0_51 hv1_51 kv0_51 hL_51 hm_51; exact absurd hm_51 (Nat.not_lt_zero _)
          | succ nn_51 ih_51 =>
            intro M_51 hI_51 hF_51 v1_51 hv0_51 hv1_51 kv0_51 hL_51 hm_51
            have h233_ : 0 ≤ isX v1_51 ∧ isX v1_51 ≤ 1 := isX_b v1_51
            refine w_iload_n dX12_text_51 rfl 0 rfl ?_
            refine w_if_le (tgt := 114) dX12_text_52 (by decide) (rfl : v1_51.toInt = v1_51.toInt) (fun h234_ => ?_) (fun h234_ => ?_)
            · exact w_vret rfl dX12_text_114 ⟨hI_51, hF_51, ⟨PP_mono hv1_51 (lf_c_X12_text_0 M_51 s D a T v1_51 hs hv0_51 hv1_51 h233_ h234_ ) (lf_c_X12_opens_41 a ), kv0_51⟩, ⟨M1_, hI4_, hF5_, hs7_, M11_, hI14_, hF15_, (Or.inr ⟨hs17_, M85_, hI88_, hF89_, (Or.inr ⟨hs91_, M159_, hI162_, hF163_, (Or.inr ⟨hs165_, v1_51, hv0_51, M_51, hL_51, hI_51, hF_51, hv1_51, h233_, h234_, rfl⟩)⟩)⟩)⟩⟩
            · have kf235_ : a ≤ (M_51.1 (12, 0, 0) 9).toInt := hv1_51.2.1
              have h236_ : PP M_51 (s + 1) (D + 1) (M_51.1 (12, 0, 0) 9).toInt T := PP_self (PP_mono hv1_51 (by rw [isX_p (lf_c_X12_term_2 v1_51 h234_ )]; exact Int.le_refl _) (Int.le_refl _))
              refine w_aload_n dX12_text_55 rfl 1 rfl ?_
              refine w_callVv (as := []) (rest := []) (c_X12_sum l G cy ad d N m QA QB (s + 1) (D + 1) ((M_51.1 (12, 0, 0) 9).toInt) T M_51 hI_51 hA hB h236_ (lf_c_X12_opens_8 s hs ) kv0_51 hm) kV_X12_sum pnn_17 (Nat.le_of_ble_eq_true rfl) m_1563 rfl rfl rfl ic_12 rfl rfl (by decide) (Nat.le_of_ble_eq_true rfl) dX12_text_56 (fun M237_ q238_ => ?_)
              obtain ⟨hI240_, hF241_, h239_, hs243_⟩ := q238_
              have hF242_ := hF_51.tr hF241_ (fun c k => (fun h => h.elim (fun h => (Or.inl ⟨h.1, h.2.1, h.2.2⟩)) (fun h => h.elim (fun h => (Or.inr (Or.inl ⟨h.1, h.2.1, h.2.2⟩))) (fun h => h.elim (fun h => (Or.inr (Or.inr (Or.inl ⟨h.1, h.2.1, h.2.2⟩)))) (fun h => h.elim (fun h => (Or.inr (Or.inr (Or.inr (Or.inl ⟨h.1, h.2.1, h.2.2⟩))))) (fun h => h.elim (fun h => (Or.inr (Or.inr (Or.inr (Or.inr (Or.inl ⟨h.1, h.2.1, h.2.2⟩)))))) (fun h => h.elim (fun h => (Or.inr (Or.inr (Or.inr (Or.inr (Or.inr (Or.inl ⟨h.1, h.2⟩))))))) (fun h => h.elim))))))))
              have h244_ : PP M237_ (s + 1) ((D + 1) + 1) (M_51.1 (12, 0, 0) 9).toInt T := h239_.1
              have kf245_ : (M237_.1 (12, 0, 0) 11).toInt + ((m : Nat) : Int) = 5 := h239_.2
              refine w_aload_n dX12_text_59 rfl 1 rfl ?_
              refine w_iload_n dX12_text_60 rfl 0 rfl ?_
              refine w_callVv (as := [vI v1_51]) (rest := []) (c_X12_codes l G cy ad ((N + d) + 11) v1_51 (s + 1) ((D + 1) + 1) ((M_51.1 (12, 0, 0) 9).toInt) T (D + 1) M237_ hI240_ h244_ (lf_c_X12_opens_8 s hs ) (stp_op (lf_c_X12_text_5 v1_51 hv0_51 h234_ ))) kV_X12_codes pnn_17 (Nat.le_of_ble_eq_true rfl) m_1583 rfl rfl rfl ic_12 rfl rfl (by decide) (Nat.le_of_ble_eq_true rfl) dX12_text_61 (fun M246_ q247_ => ?_)
              obtain ⟨hI249_, hF250_, h248_, hs252_⟩ := q247_
              have hF251_ := hF242_.tr hF250_ (fun c k => (fun h => h.elim (fun h => (Or.inr (Or.inr (Or.inr (Or.inr (Or.inl ⟨h.1, h.2.1, h.2.2⟩)))))) (fun h => h.elim (fun h => (Or.inr (Or.inr (Or.inr (Or.inr (Or.inr (Or.inl ⟨h.1, h.2⟩))))))) (fun h => h.elim))))
              have kf253_ : (M246_.1 (12, 0, 0) 11).toInt + ((m : Nat) : Int) = 5 := by rw [(hF250_ (12, 0, 0) 11 (by simp [S_codes]))]; exact kf245_
              refine w_aload_n dX12_text_64 rfl 1 rfl ?_
              refine w_bipush (v := 60) dX12_text_65 (by decide) ?_
              refine w_callV (as := [vI 60]) (rest := []) (c_X12_takes l G cy ad ((N + d) + 10) 60 ((s + 1) - 1) (D + 1) ((M_51.1 (12, 0, 0) 9).toInt) T M246_ hI249_ h248_ (by first | decide | (unfold vF; omega) | (unfold vRw; omega))) kV_X12_takes pnn_17 (Nat.le_of_ble_eq_true rfl) m_1591 rfl rfl rfl ic_12 rfl rfl (by decide) (Nat.le_of_ble_eq_true rfl) dX12_text_67 (fun r254_ M255_ q256_ => ?_)
              obtain ⟨hI258_, hF259_, h257_, hs261_⟩ := q256_
              have hF260_ := hF251_.tr hF259_ (fun c k => (fun h => h.elim (fun h => (Or.inl ⟨h.1, h.2.1, h.2.2⟩)) (fun h => h.elim)))
              have kf262_ : (M255_.1 (12, 0, 0) 11).toInt + ((m : Nat) : Int) = 5 := by rw [(hF259_ (12, 0, 0) 11 (by simp [S_here]))]; exact kf253_
              rcases h257_ with ⟨rfl, h257_⟩ | ⟨rfl, h257_⟩
              · have h263_ : PP M255_ (((s + 1) - 1) + 1) (D + 1) ((M_51.1 (12, 0, 0) 9).toInt + 1) T := h257_.1
                have kf264_ : M255_.1 (12, 0, 0) 13 = 0 := h257_.2
                refine w_if_eq (tgt := 79) dX12_text_70 (by decide) li_1 (fun h9 => (absurd h9 (by decide))) (fun h265_ => ?_)
                refine w_sipush (v := 2000) dX12_text_73 (by decide) ?_
                refine w_goto (tgt := 110) dX12_text_76 (by decide) ?_
                refine w_istore_n (ls' := [(1, vI 2000), (0, vR (12, 0, 0))]) dX12_text_110 rfl (by decide) rfl ?_
                refine w_goto (tgt := 51) dX12_text_111 (by decide) ?_
                refine w_loc (ls' := [(1, vI 2000), (0, vR (12, 0, 0))]) [0, 1] rfl ?_
                exact ih_51 M255_ hI258_ hF260_ 2000 (lf_c_X12_text_6 ) (PP_mono h263_ (lf_c_X12_text_7 M255_ M_51 s D T hs h263_ ) (lf_c_X12_term_8 M_51 a kf235_ kf235_ )) kf262_ (RCH.tail hL_51 ⟨hv0_51, hI_51, hF_51, h233_, h234_, M237_, hI240_, hF241_, hs243_, M246_, hI249_, hF250_, hs252_, M255_, hI258_, hF259_, (Or.inl ⟨hs261_, h263_, rfl, rfl⟩)⟩) (Nat.lt_of_lt_of_le (PP_meas (A := (M_51.1 (12, 0, 0) 9).toInt) (x := v1_51) (x' := (2000 : Int32)) (PP_mono h263_ (Int.le_refl _) (lf_c_X12_text_96 M11_ M159_ M1_ M237_ M246_ M255_ M85_ M_51 Mz m s D a T hs hk hm kf9_ kf18_ kf92_ kf166_ kv0_51 kf235_ kf235_ kf245_ kf253_ kf262_ h263_ kf264_ )) rfl (lf_c_X12_term_2 v1_51 h234_ )) (Nat.le_of_lt_succ hm_51))
              · refine w_if_eq (tgt := 79) dX12_text_70 (by decide) li_0 (fun h266_ => ?_) (fun h9 => (absurd h9 (by decide)))
                refine w_aload_n dX12_text_79 rfl 1 rfl ?_
                refine w_bipush (v := 61) dX12_text_80 (by decide) ?_
                refine w_callV (as := [vI 61]) (rest := []) (c_X12_takes l G cy ad ((N + d) + 10) 61 ((s + 1) - 1) (D + 1) ((M_51.1 (12, 0, 0) 9).toInt) T M255_ hI258_ h257_ (by first | decide | (unfold vF; omega) | (unfold vRw; omega))) kV_X12_takes pnn_17 (Nat.le_of_ble_eq_true rfl) m_1591 rfl rfl rfl ic_12 rfl rfl (by decide) (Nat.le_of_ble_eq_true rfl) dX12_text_82 (fun r267_ M268_ q269_ => ?_)
                obtain ⟨hI271_, hF272_, h270_, hs274_⟩ := q269_
                have hF273_ := hF260_.tr hF272_ (fun c k => (fun h => h.elim (fun h => (Or.inl ⟨h.1, h.2.1, h.2.2⟩)) (fun h => h.elim)))
                have kf275_ : (M268_.1 (12, 0, 0) 11).toInt + ((m : Nat) : Int) = 5 := by rw [(hF272_ (12, 0, 0) 11 (by simp [S_here]))]; exact kf262_
                rcases h270_ with ⟨rfl, h270_⟩ | ⟨rfl, h270_⟩
                · have h276_ : PP M268_ (((s + 1) - 1) + 1) (D + 1) ((M_51.1 (12, 0, 0) 9).toInt + 1) T := h270_.1
                  have kf277_ : M268_.1 (12, 0, 0) 13 = 0 := h270_.2
                  refine w_if_eq (tgt := 94) dX12_text_85 (by decide) li_1 (fun h9 => (absurd h9 (by decide))) (fun h278_ => ?_)
                  refine w_sipush (v := 2001) dX12_text_88 (by decide) ?_
                  refine w_goto (tgt := 110) dX12_text_91 (by decide) ?_
                  refine w_istore_n (ls' := [(1, vI 2001), (0, vR (12, 0, 0))]) dX12_text_110 rfl (by decide) rfl ?_
                  refine w_goto (tgt := 51) dX12_text_111 (by decide) ?_
                  refine w_loc (ls' := [(1, vI 2001), (0, vR (12, 0, 0))]) [0, 1] rfl ?_
                  exact ih_51 M268_ hI271_ hF273_ 2001 (lf_c_X12_text_11 ) (PP_mono h276_ (lf_c_X12_text_12 M268_ M_51 s D T hs h276_ ) (lf_c_X12_term_8 M_51 a kf235_ kf235_ )) kf275_ (RCH.tail hL_51 ⟨hv0_51, hI_51, hF_51, h233_, h234_, M237_, hI240_, hF241_, hs243_, M246_, hI249_, hF250_, hs252_, M255_, hI258_, hF259_, (Or.inr ⟨hs261_, M268_, hI271_, hF272_, (Or.inl ⟨hs274_, h276_, rfl, rfl⟩)⟩)⟩) (Nat.lt_of_lt_of_le (PP_meas (A := (M_51.1 (12, 0, 0) 9).toInt) (x := v1_51) (x' := (2001 : Int32)) (PP_mono h276_ (Int.le_refl _) (lf_c_X12_text_101 M11_ M159_ M1_ M237_ M246_ M255_ M268_ M85_ M_51 Mz m s D a T hs hk hm kf9_ kf18_ kf92_ kf166_ kv0_51 kf235_ kf235_ kf245_ kf253_ kf262_ kf275_ h276_ kf277_ )) rfl (lf_c_X12_term_2 v1_51 h234_ )) (Nat.le_of_lt_succ hm_51))
                · refine w_if_eq (tgt := 94) dX12_text_85 (by decide) li_0 (fun h279_ => ?_) (fun h9 => (absurd h9 (by decide)))
                  refine w_aload_n dX12_text_94 rfl 1 rfl ?_
                  refine w_bipush (v := 62) dX12_text_95 (by decide) ?_
                  refine w_callV (as := [vI 62]) (rest := []) (c_X12_takes l G cy ad ((N + d) + 10) 62 ((s + 1) - 1) (D + 1) ((M_51.1 (12, 0, 0) 9).toInt) T M268_ hI271_ h270_ (by first | decide | (unfold vF; omega) | (unfold vRw; omega))) kV_X12_takes pnn_17 (Nat.le_of_ble_eq_true rfl) m_1591 rfl rfl rfl ic_12 rfl rfl (by decide) (Nat.le_of_ble_eq_true rfl) dX12_text_97 (fun r280_ M281_ q282_ => ?_)
                  obtain ⟨hI284_, hF285_, h283_, hs287_⟩ := q282_
                  have hF286_ := hF273_.tr hF285_ (fun c k => (fun h => h.elim (fun h => (Or.inl ⟨h.1, h.2.1, h.2.2⟩)) (fun h => h.elim)))
                  have kf288_ : (M281_.1 (12, 0, 0) 11).toInt + ((m : Nat) : Int) = 5 := by rw [(hF285_ (12, 0, 0) 11 (by simp [S_here]))]; exact kf275_
                  rcases h283_ with ⟨rfl, h283_⟩ | ⟨rfl, h283_⟩
                  · have h289_ : PP M281_ (((s + 1) - 1) + 1) (D + 1) ((M_51.1 (12, 0, 0) 9).toInt + 1) T := h283_.1
                    have kf290_ : M281_.1 (12, 0, 0) 13 = 0 := h283_.2
                    refine w_if_eq (tgt := 109) dX12_text_100 (by decide) li_1 (fun h9 => (absurd h9 (by decide))) (fun h291_ => ?_)
                    refine w_sipush (v := 2002) dX12_text_103 (by decide) ?_
                    refine w_goto (tgt := 110) dX12_text_106 (by decide) ?_
                    refine w_istore_n (ls' := [(1, vI 2002), (0, vR (12, 0, 0))]) dX12_text_110 rfl (by decide) rfl ?_
                    refine w_goto (tgt := 51) dX12_text_111 (by decide) ?_
                    refine w_loc (ls' := [(1, vI 2002), (0, vR (12, 0, 0))]) [0, 1] rfl ?_
                    exact ih_51 M281_ hI284_ hF286_ 2002 (lf_c_X12_text_16 ) (PP_mono h289_ (lf_c_X12_text_17 M281_ M_51 s D T hs h289_ ) (lf_c_X12_term_8 M_51 a kf235_ kf235_ )) kf288_ (RCH.tail hL_51 ⟨hv0_51, hI_51, hF_51, h233_, h234_, M237_, hI240_, hF241_, hs243_, M246_, hI249_, hF250_, hs252_, M255_, hI258_, hF259_, (Or.inr ⟨hs261_, M268_, hI271_, hF272_, (Or.inr ⟨hs274_, M281_, hI284_, hF285_, (Or.inl ⟨hs287_, h289_, rfl, rfl⟩)⟩)⟩)⟩) (Nat.lt_of_lt_of_le (PP_meas (A := (M_51.1 (12, 0, 0) 9).toInt) (x := v1_51) (x' := (2002 : Int32)) (PP_mono h289_ (Int.le_refl _) (lf_c_X12_text_106 M11_ M159_ M1_ M237_ M246_ M255_ M268_ M281_ M85_ M_51 Mz m s D a T hs hk hm kf9_ kf18_ kf92_ kf166_ kv0_51 kf235_ kf235_ kf245_ kf253_ kf262_ kf275_ kf288_ h289_ kf290_ )) rfl (lf_c_X12_term_2 v1_51 h234_ )) (Nat.le_of_lt_succ hm_51))
                  · refine w_if_eq (tgt := 109) dX12_text_100 (by decide) li_0 (fun h292_ => ?_) (fun h9 => (absurd h9 (by decide)))
                    refine w_iconst (v := 0) dX12_text_109 (by decide) ?_
                    refine w_istore_n (ls' := [(1, vI 0), (0, vR (12, 0, 0))]) dX12_text_110 rfl (by decide) rfl ?_
                    refine w_goto (tgt := 51) dX12_text_111 (by decide) ?_
                    refine w_loc (ls' := [(1, vI 0), (0, vR (12, 0, 0))]) [0, 1] rfl ?_
                    exact ih_51 M281_ hI284_ hF286_ 0 (lf_c_X12_text_21 ) (PP_mono h283_ (lf_c_X12_term_22 M281_ M_51 s D T hs h283_ ) (lf_c_X12_term_23 M_51 a kf235_ kf235_ )) kf288_ (RCH.tail hL_51 ⟨hv0_51, hI_51, hF_51, h233_, h234_, M237_, hI240_, hF241_, hs243_, M246_, hI249_, hF250_, hs252_, M255_, hI258_, hF259_, (Or.inr ⟨hs261_, M268_, hI271_, hF272_, (Or.inr ⟨hs274_, M281_, hI284_, hF285_, (Or.inr ⟨hs287_, h283_, rfl, rfl⟩)⟩)⟩)⟩) (Nat.lt_of_lt_of_le (PP_meas (A := (M_51.1 (12, 0, 0) 9).toInt) (x := v1_51) (x' := (0 : Int32)) (PP_mono h283_ (Int.le_refl _) (lf_c_X12_term_111 M11_ M159_ M1_ M237_ M246_ M255_ M268_ M281_ M85_ M_51 Mz m s D a T hs hk hm kf9_ kf18_ kf92_ kf166_ kv0_51 kf235_ kf235_ kf245_ kf253_ kf262_ kf275_ kf288_ h283_ )) rfl (lf_c_X12_term_2 v1_51 h234_ )) (Nat.le_of_lt_succ hm_51))
        exact lp232_ _ M159_ hI162_ hF164_ 0 (lf_c_X12_text_21 ) (PP_mono h161_ (lf_c_X12_term_114 M159_ s D a T hs h161_ ) (Int.le_refl _)) kf166_ RCH.refl (Nat.lt_succ_self _)
def SPRd : Nat → (mM → mM → Prop) × (mM → mM → Prop)
  | 0 => (fun M M' => ∃ (s : Int) (D : Nat) (a T : Int), SP_X12_one 0 0 (fun _ _ => False) (fun _ _ => False) s D a T M M', fun M M' => ∃ (s : Int) (D : Nat) (a T : Int), SP_X12_text 0 0 (fun _ _ => False) (fun _ _ => False) s D a T M M')
  | m + 1 => (fun M M' => ∃ (s : Int) (D : Nat) (a T : Int), SP_X12_one (12 * m + 12) (m + 1) (SPRd m).1 (SPRd m).2 s D a T M M', fun M M' => ∃ (s : Int) (D : Nat) (a T : Int), SP_X12_text (12 * m + 12) (m + 1) (SPRd m).1 (SPRd m).2 s D a T M M')
theorem par_rec (l : Launch) (G : va_G) (cy : Nat → ClassId) (ad : rf → Nat) : ∀ m, ONED l G cy ad (12 * m + 12) m (SPRd m).1 ∧ TXTD l G cy ad (12 * m + 12) m (SPRd m).2 := by
  intro m
  induction m with
  | zero => exact ⟨fun d s D a T Mz hIz hp hs hk hm => w_dep (by omega) (w_Q (c_X12_one l G cy ad (d + 3) 0 0 (fun _ _ => False) (fun _ _ => False) s D a T Mz hIz (fun k q => absurd q (by omega)) (fun k q => absurd q (by omega)) hp hs hk hm) (fun _ _ h => ⟨h.1, h.2.1, h.2.2.1, s, D, a, T, h.2.2.2⟩)), fun d s D a T Mz hIz hp hs hk hm => w_dep (by omega) (w_Q (c_X12_text l G cy ad d 0 0 (fun _ _ => False) (fun _ _ => False) s D a T Mz hIz (fun k q => absurd q (by omega)) (fun k q => absurd q (by omega)) hp hs hk hm) (fun _ _ h => ⟨h.1, h.2.1, h.2.2.1, s, D, a, T, h.2.2.2⟩))⟩
  | succ m ih =>
    have h1 : ∀ k : Nat, k + 1 = m + 1 → ONED l G cy ad (12 * m + 12) k (SPRd m).1 := fun k q => by
      obtain rfl : k = m := by omega
      exact ih.1
    have h2 : ∀ k : Nat, k + 1 = m + 1 → TXTD l G cy ad (12 * m + 12) k (SPRd m).2 := fun k q => by
      obtain rfl : k = m := by omega
      exact ih.2
    exact ⟨fun d s D a T Mz hIz hp hs hk hm => w_dep (by omega) (w_Q (c_X12_one l G cy ad (d + 3) (12 * m + 12) (m + 1) (SPRd m).1 (SPRd m).2 s D a T Mz hIz h1 h2 hp hs hk hm) (fun _ _ h => ⟨h.1, h.2.1, h.2.2.1, s, D, a, T, h.2.2.2⟩)), fun d s D a T Mz hIz hp hs hk hm => w_dep (by omega) (w_Q (c_X12_text l G cy ad d (12 * m + 12) (m + 1) (SPRd m).1 (SPRd m).2 s D a T Mz hIz h1 h2 hp hs hk hm) (fun _ _ h => ⟨h.1, h.2.1, h.2.2.1, s, D, a, T, h.2.2.2⟩))⟩
def SP_X12_text5 (T : Int) (Mz : mM) (M_ : mM) : Prop := (SPRd 5).2 Mz M_
theorem c_X12_text5 (l : Launch) (G : va_G) (cy : Nat → ClassId) (ad : rf → Nat) (d : Nat) (T : Int) (Mz : mM) (hIz : InvD Mz) (hp : PP Mz 0 0 0 T) (h0 : (Mz.1 (12, 0, 0) 11).toInt = 0) : WP DD l G cy ad yX12_text cX12_text 2 none (d + 72) 0 [(0, vR (12, 0, 0))] [] Mz (fun r M' => InvD M' ∧ FR (S_par) Mz M' ∧ (PP M' 0 1 0 T) ∧ SP_X12_text5 T Mz M') := w_dep (by omega) (w_Q ((par_rec l G cy ad 5).2 d 0 0 0 T Mz hIz hp (Int.le_refl _) (by omega) (by omega)) (fun _ _ h => ⟨h.1, h.2.1, h.2.2.1.1, h.2.2.2⟩))
end
section
/-! words of the tables that are used, by their places; decode rows; fields -/
theorem li_m10 : ((-10) : Int32).toInt = -10 := by decide
theorem ch_cX12_text__0 : (cX12_text_.data.toList.drop 0).take 36 = [27, 3, 5, 184, 0, 85, 154, 0, 10, 42, 18, 103, 182, 0, 104, 172, 42, 27, 181, 0, 181, 42, 3, 181, 0, 155, 42, 3, 181, 0, 191, 42, 3, 181, 0, 203] := by decide +kernel
theorem dX12_text__0 : decode cX12_text_ 0 = .ok (.iload_n 1, 1) := do_27 (rdb (p := 0) (i := 0) ch_cX12_text__0 rfl)
theorem dX12_text__1 : decode cX12_text_ 1 = .ok (.iconst 0, 1) := do_3 (rdb (p := 0) (i := 1) ch_cX12_text__0 rfl)
theorem dX12_text__2 : decode cX12_text_ 2 = .ok (.iconst 2, 1) := do_5 (rdb (p := 0) (i := 2) ch_cX12_text__0 rfl)
theorem dX12_text__3 : decode cX12_text_ 3 = .ok (.invokestatic 85, 3) := do_184 (rdb (p := 0) (i := 3) ch_cX12_text__0 rfl) (rdb (p := 0) (i := 4) ch_cX12_text__0 rfl) (rdb (p := 0) (i := 5) ch_cX12_text__0 rfl) rfl
theorem dX12_text__6 : decode cX12_text_ 6 = .ok (.ifCond .ne 10, 3) := do_154 (rdb (p := 0) (i := 6) ch_cX12_text__0 rfl) (rdb (p := 0) (i := 7) ch_cX12_text__0 rfl) (rdb (p := 0) (i := 8) ch_cX12_text__0 rfl) (by decide +kernel)
theorem dX12_text__9 : decode cX12_text_ 9 = .ok (.aload_n 0, 1) := do_42 (rdb (p := 0) (i := 9) ch_cX12_text__0 rfl)
theorem dX12_text__10 : decode cX12_text_ 10 = .ok (.ldc 103, 2) := do_18 (rdb (p := 0) (i := 10) ch_cX12_text__0 rfl) (rdb (p := 0) (i := 11) ch_cX12_text__0 rfl)
theorem dX12_text__12 : decode cX12_text_ 12 = .ok (.invokevirtual 104, 3) := do_182 (rdb (p := 0) (i := 12) ch_cX12_text__0 rfl) (rdb (p := 0) (i := 13) ch_cX12_text__0 rfl) (rdb (p := 0) (i := 14) ch_cX12_text__0 rfl) rfl
theorem dX12_text__15 : decode cX12_text_ 15 = .ok (.ireturn, 1) := do_172 (rdb (p := 0) (i := 15) ch_cX12_text__0 rfl)
theorem dX12_text__16 : decode cX12_text_ 16 = .ok (.aload_n 0, 1) := do_42 (rdb (p := 0) (i := 16) ch_cX12_text__0 rfl)
theorem dX12_text__17 : decode cX12_text_ 17 = .ok (.iload_n 1, 1) := do_27 (rdb (p := 0) (i := 17) ch_cX12_text__0 rfl)
theorem dX12_text__18 : decode cX12_text_ 18 = .ok (.putfield 181, 3) := do_181 (rdb (p := 0) (i := 18) ch_cX12_text__0 rfl) (rdb (p := 0) (i := 19) ch_cX12_text__0 rfl) (rdb (p := 0) (i := 20) ch_cX12_text__0 rfl) rfl
theorem dX12_text__21 : decode cX12_text_ 21 = .ok (.aload_n 0, 1) := do_42 (rdb (p := 0) (i := 21) ch_cX12_text__0 rfl)
theorem dX12_text__22 : decode cX12_text_ 22 = .ok (.iconst 0, 1) := do_3 (rdb (p := 0) (i := 22) ch_cX12_text__0 rfl)
theorem dX12_text__23 : decode cX12_text_ 23 = .ok (.putfield 155, 3) := do_181 (rdb (p := 0) (i := 23) ch_cX12_text__0 rfl) (rdb (p := 0) (i := 24) ch_cX12_text__0 rfl) (rdb (p := 0) (i := 25) ch_cX12_text__0 rfl) rfl
theorem dX12_text__26 : decode cX12_text_ 26 = .ok (.aload_n 0, 1) := do_42 (rdb (p := 0) (i := 26) ch_cX12_text__0 rfl)
theorem dX12_text__27 : decode cX12_text_ 27 = .ok (.iconst 0, 1) := do_3 (rdb (p := 0) (i := 27) ch_cX12_text__0 rfl)
theorem dX12_text__28 : decode cX12_text_ 28 = .ok (.putfield 191, 3) := do_181 (rdb (p := 0) (i := 28) ch_cX12_text__0 rfl) (rdb (p := 0) (i := 29) ch_cX12_text__0 rfl) (rdb (p := 0) (i := 30) ch_cX12_text__0 rfl) rfl
theorem dX12_text__31 : decode cX12_text_ 31 = .ok (.aload_n 0, 1) := do_42 (rdb (p := 0) (i := 31) ch_cX12_text__0 rfl)
theorem ch_cX12_text__32 : (cX12_text_.data.toList.drop 32).take 36 = [3, 181, 0, 203, 42, 3, 181, 0, 151, 42, 3, 181, 0, 162, 42, 182, 0, 194, 42, 42, 180, 0, 151, 154, 0, 10, 42, 182, 0, 158, 155, 0, 7, 4, 167, 0] := by decide +kernel
theorem dX12_text__32 : decode cX12_text_ 32 = .ok (.iconst 0, 1) := do_3 (rdb (p := 32) (i := 0) ch_cX12_text__32 rfl)
theorem dX12_text__33 : decode cX12_text_ 33 = .ok (.putfield 203, 3) := do_181 (rdb (p := 32) (i := 1) ch_cX12_text__32 rfl) (rdb (p := 32) (i := 2) ch_cX12_text__32 rfl) (rdb (p := 32) (i := 3) ch_cX12_text__32 rfl) rfl
theorem dX12_text__36 : decode cX12_text_ 36 = .ok (.aload_n 0, 1) := do_42 (rdb (p := 32) (i := 4) ch_cX12_text__32 rfl)
theorem dX12_text__37 : decode cX12_text_ 37 = .ok (.iconst 0, 1) := do_3 (rdb (p := 32) (i := 5) ch_cX12_text__32 rfl)
theorem dX12_text__38 : decode cX12_text_ 38 = .ok (.putfield 151, 3) := do_181 (rdb (p := 32) (i := 6) ch_cX12_text__32 rfl) (rdb (p := 32) (i := 7) ch_cX12_text__32 rfl) (rdb (p := 32) (i := 8) ch_cX12_text__32 rfl) rfl
theorem dX12_text__41 : decode cX12_text_ 41 = .ok (.aload_n 0, 1) := do_42 (rdb (p := 32) (i := 9) ch_cX12_text__32 rfl)
theorem dX12_text__42 : decode cX12_text_ 42 = .ok (.iconst 0, 1) := do_3 (rdb (p := 32) (i := 10) ch_cX12_text__32 rfl)
theorem dX12_text__43 : decode cX12_text_ 43 = .ok (.putfield 162, 3) := do_181 (rdb (p := 32) (i := 11) ch_cX12_text__32 rfl) (rdb (p := 32) (i := 12) ch_cX12_text__32 rfl) (rdb (p := 32) (i := 13) ch_cX12_text__32 rfl) rfl
theorem dX12_text__46 : decode cX12_text_ 46 = .ok (.aload_n 0, 1) := do_42 (rdb (p := 32) (i := 14) ch_cX12_text__32 rfl)
theorem dX12_text__47 : decode cX12_text_ 47 = .ok (.invokevirtual 194, 3) := do_182 (rdb (p := 32) (i := 15) ch_cX12_text__32 rfl) (rdb (p := 32) (i := 16) ch_cX12_text__32 rfl) (rdb (p := 32) (i := 17) ch_cX12_text__32 rfl) rfl
theorem dX12_text__50 : decode cX12_text_ 50 = .ok (.aload_n 0, 1) := do_42 (rdb (p := 32) (i := 18) ch_cX12_text__32 rfl)
theorem dX12_text__51 : decode cX12_text_ 51 = .ok (.aload_n 0, 1) := do_42 (rdb (p := 32) (i := 19) ch_cX12_text__32 rfl)
theorem dX12_text__52 : decode cX12_text_ 52 = .ok (.getfield 151, 3) := do_180 (rdb (p := 32) (i := 20) ch_cX12_text__32 rfl) (rdb (p := 32) (i := 21) ch_cX12_text__32 rfl) (rdb (p := 32) (i := 22) ch_cX12_text__32 rfl) rfl
theorem dX12_text__55 : decode cX12_text_ 55 = .ok (.ifCond .ne 10, 3) := do_154 (rdb (p := 32) (i := 23) ch_cX12_text__32 rfl) (rdb (p := 32) (i := 24) ch_cX12_text__32 rfl) (rdb (p := 32) (i := 25) ch_cX12_text__32 rfl) (by decide +kernel)
theorem dX12_text__58 : decode cX12_text_ 58 = .ok (.aload_n 0, 1) := do_42 (rdb (p := 32) (i := 26) ch_cX12_text__32 rfl)
theorem dX12_text__59 : decode cX12_text_ 59 = .ok (.invokevirtual 158, 3) := do_182 (rdb (p := 32) (i := 27) ch_cX12_text__32 rfl) (rdb (p := 32) (i := 28) ch_cX12_text__32 rfl) (rdb (p := 32) (i := 29) ch_cX12_text__32 rfl) rfl
theorem dX12_text__62 : decode cX12_text_ 62 = .ok (.ifCond .lt 7, 3) := do_155 (rdb (p := 32) (i := 30) ch_cX12_text__32 rfl) (rdb (p := 32) (i := 31) ch_cX12_text__32 rfl) (rdb (p := 32) (i := 32) ch_cX12_text__32 rfl) (by decide +kernel)
theorem ch_cX12_text__64 : (cX12_text_.data.toList.drop 64).take 36 = [7, 4, 167, 0, 4, 3, 181, 0, 151, 42, 180, 0, 9, 7, 3, 79, 42, 180, 0, 151, 153, 0, 11, 16, 246, 42, 180, 0, 155, 100, 172, 42, 180, 0, 9, 17] := by decide +kernel
theorem dX12_text__65 : decode cX12_text_ 65 = .ok (.iconst 1, 1) := do_4 (rdb (p := 64) (i := 1) ch_cX12_text__64 rfl)
theorem dX12_text__66 : decode cX12_text_ 66 = .ok (.goto 4, 3) := do_167 (rdb (p := 64) (i := 2) ch_cX12_text__64 rfl) (rdb (p := 64) (i := 3) ch_cX12_text__64 rfl) (rdb (p := 64) (i := 4) ch_cX12_text__64 rfl) (by decide +kernel)
theorem dX12_text__69 : decode cX12_text_ 69 = .ok (.iconst 0, 1) := do_3 (rdb (p := 64) (i := 5) ch_cX12_text__64 rfl)
theorem dX12_text__70 : decode cX12_text_ 70 = .ok (.putfield 151, 3) := do_181 (rdb (p := 64) (i := 6) ch_cX12_text__64 rfl) (rdb (p := 64) (i := 7) ch_cX12_text__64 rfl) (rdb (p := 64) (i := 8) ch_cX12_text__64 rfl) rfl
theorem dX12_text__73 : decode cX12_text_ 73 = .ok (.aload_n 0, 1) := do_42 (rdb (p := 64) (i := 9) ch_cX12_text__64 rfl)
theorem dX12_text__74 : decode cX12_text_ 74 = .ok (.getfield 9, 3) := do_180 (rdb (p := 64) (i := 10) ch_cX12_text__64 rfl) (rdb (p := 64) (i := 11) ch_cX12_text__64 rfl) (rdb (p := 64) (i := 12) ch_cX12_text__64 rfl) rfl
theorem dX12_text__77 : decode cX12_text_ 77 = .ok (.iconst 4, 1) := do_7 (rdb (p := 64) (i := 13) ch_cX12_text__64 rfl)
theorem dX12_text__78 : decode cX12_text_ 78 = .ok (.iconst 0, 1) := do_3 (rdb (p := 64) (i := 14) ch_cX12_text__64 rfl)
theorem dX12_text__79 : decode cX12_text_ 79 = .ok (.iastore, 1) := do_79 (rdb (p := 64) (i := 15) ch_cX12_text__64 rfl)
theorem dX12_text__80 : decode cX12_text_ 80 = .ok (.aload_n 0, 1) := do_42 (rdb (p := 64) (i := 16) ch_cX12_text__64 rfl)
theorem dX12_text__81 : decode cX12_text_ 81 = .ok (.getfield 151, 3) := do_180 (rdb (p := 64) (i := 17) ch_cX12_text__64 rfl) (rdb (p := 64) (i := 18) ch_cX12_text__64 rfl) (rdb (p := 64) (i := 19) ch_cX12_text__64 rfl) rfl
theorem dX12_text__84 : decode cX12_text_ 84 = .ok (.ifCond .eq 11, 3) := do_153 (rdb (p := 64) (i := 20) ch_cX12_text__64 rfl) (rdb (p := 64) (i := 21) ch_cX12_text__64 rfl) (rdb (p := 64) (i := 22) ch_cX12_text__64 rfl) (by decide +kernel)
theorem dX12_text__87 : decode cX12_text_ 87 = .ok (.bipush (-10), 2) := do_16 (rdb (p := 64) (i := 23) ch_cX12_text__64 rfl) (rdb (p := 64) (i := 24) ch_cX12_text__64 rfl) (by decide +kernel)
theorem dX12_text__89 : decode cX12_text_ 89 = .ok (.aload_n 0, 1) := do_42 (rdb (p := 64) (i := 25) ch_cX12_text__64 rfl)
theorem dX12_text__90 : decode cX12_text_ 90 = .ok (.getfield 155, 3) := do_180 (rdb (p := 64) (i := 26) ch_cX12_text__64 rfl) (rdb (p := 64) (i := 27) ch_cX12_text__64 rfl) (rdb (p := 64) (i := 28) ch_cX12_text__64 rfl) rfl
theorem dX12_text__93 : decode cX12_text_ 93 = .ok (.isub, 1) := do_100 (rdb (p := 64) (i := 29) ch_cX12_text__64 rfl)
theorem dX12_text__94 : decode cX12_text_ 94 = .ok (.ireturn, 1) := do_172 (rdb (p := 64) (i := 30) ch_cX12_text__64 rfl)
theorem dX12_text__95 : decode cX12_text_ 95 = .ok (.aload_n 0, 1) := do_42 (rdb (p := 64) (i := 31) ch_cX12_text__64 rfl)
theorem ch_cX12_text__96 : (cX12_text_.data.toList.drop 96).take 36 = [180, 0, 9, 17, 1, 89, 16, 50, 42, 180, 0, 181, 104, 96, 42, 180, 0, 162, 79, 3, 61, 28, 42, 180, 0, 162, 162, 0, 35, 42, 180, 0, 9, 17, 1, 89] := by decide +kernel
theorem dX12_text__96 : decode cX12_text_ 96 = .ok (.getfield 9, 3) := do_180 (rdb (p := 96) (i := 0) ch_cX12_text__96 rfl) (rdb (p := 96) (i := 1) ch_cX12_text__96 rfl) (rdb (p := 96) (i := 2) ch_cX12_text__96 rfl) rfl
theorem dX12_text__99 : decode cX12_text_ 99 = .ok (.sipush 345, 3) := do_17 (rdb (p := 96) (i := 3) ch_cX12_text__96 rfl) (rdb (p := 96) (i := 4) ch_cX12_text__96 rfl) (rdb (p := 96) (i := 5) ch_cX12_text__96 rfl) (by decide +kernel)
theorem dX12_text__102 : decode cX12_text_ 102 = .ok (.bipush 50, 2) := do_16 (rdb (p := 96) (i := 6) ch_cX12_text__96 rfl) (rdb (p := 96) (i := 7) ch_cX12_text__96 rfl) (by decide +kernel)
theorem dX12_text__104 : decode cX12_text_ 104 = .ok (.aload_n 0, 1) := do_42 (rdb (p := 96) (i := 8) ch_cX12_text__96 rfl)
theorem dX12_text__105 : decode cX12_text_ 105 = .ok (.getfield 181, 3) := do_180 (rdb (p := 96) (i := 9) ch_cX12_text__96 rfl) (rdb (p := 96) (i := 10) ch_cX12_text__96 rfl) (rdb (p := 96) (i := 11) ch_cX12_text__96 rfl) rfl
theorem dX12_text__108 : decode cX12_text_ 108 = .ok (.imul, 1) := do_104 (rdb (p := 96) (i := 12) ch_cX12_text__96 rfl)
theorem dX12_text__109 : decode cX12_text_ 109 = .ok (.iadd, 1) := do_96 (rdb (p := 96) (i := 13) ch_cX12_text__96 rfl)
theorem dX12_text__110 : decode cX12_text_ 110 = .ok (.aload_n 0, 1) := do_42 (rdb (p := 96) (i := 14) ch_cX12_text__96 rfl)
theorem dX12_text__111 : decode cX12_text_ 111 = .ok (.getfield 162, 3) := do_180 (rdb (p := 96) (i := 15) ch_cX12_text__96 rfl) (rdb (p := 96) (i := 16) ch_cX12_text__96 rfl) (rdb (p := 96) (i := 17) ch_cX12_text__96 rfl) rfl
theorem dX12_text__114 : decode cX12_text_ 114 = .ok (.iastore, 1) := do_79 (rdb (p := 96) (i := 18) ch_cX12_text__96 rfl)
theorem dX12_text__115 : decode cX12_text_ 115 = .ok (.iconst 0, 1) := do_3 (rdb (p := 96) (i := 19) ch_cX12_text__96 rfl)
theorem dX12_text__116 : decode cX12_text_ 116 = .ok (.istore_n 2, 1) := do_61 (rdb (p := 96) (i := 20) ch_cX12_text__96 rfl)
theorem dX12_text__117 : decode cX12_text_ 117 = .ok (.iload_n 2, 1) := do_28 (rdb (p := 96) (i := 21) ch_cX12_text__96 rfl)
theorem dX12_text__118 : decode cX12_text_ 118 = .ok (.aload_n 0, 1) := do_42 (rdb (p := 96) (i := 22) ch_cX12_text__96 rfl)
theorem dX12_text__119 : decode cX12_text_ 119 = .ok (.getfield 162, 3) := do_180 (rdb (p := 96) (i := 23) ch_cX12_text__96 rfl) (rdb (p := 96) (i := 24) ch_cX12_text__96 rfl) (rdb (p := 96) (i := 25) ch_cX12_text__96 rfl) rfl
theorem dX12_text__122 : decode cX12_text_ 122 = .ok (.if_icmp .ge 35, 3) := do_162 (rdb (p := 96) (i := 26) ch_cX12_text__96 rfl) (rdb (p := 96) (i := 27) ch_cX12_text__96 rfl) (rdb (p := 96) (i := 28) ch_cX12_text__96 rfl) (by decide +kernel)
theorem dX12_text__125 : decode cX12_text_ 125 = .ok (.aload_n 0, 1) := do_42 (rdb (p := 96) (i := 29) ch_cX12_text__96 rfl)
theorem dX12_text__126 : decode cX12_text_ 126 = .ok (.getfield 9, 3) := do_180 (rdb (p := 96) (i := 30) ch_cX12_text__96 rfl) (rdb (p := 96) (i := 31) ch_cX12_text__96 rfl) (rdb (p := 96) (i := 32) ch_cX12_text__96 rfl) rfl
theorem ch_cX12_text__128 : (cX12_text_.data.toList.drop 128).take 36 = [9, 17, 1, 89, 16, 50, 42, 180, 0, 181, 104, 96, 4, 96, 28, 96, 42, 180, 0, 44, 28, 46, 79, 132, 2, 1, 167, 255, 219, 42, 180, 0, 203, 172] := by decide +kernel
theorem dX12_text__129 : decode cX12_text_ 129 = .ok (.sipush 345, 3) := do_17 (rdb (p := 128) (i := 1) ch_cX12_text__128 rfl) (rdb (p := 128) (i := 2) ch_cX12_text__128 rfl) (rdb (p := 128) (i := 3) ch_cX12_text__128 rfl) (by decide +kernel)
theorem dX12_text__132 : decode cX12_text_ 132 = .ok (.bipush 50, 2) := do_16 (rdb (p := 128) (i := 4) ch_cX12_text__128 rfl) (rdb (p := 128) (i := 5) ch_cX12_text__128 rfl) (by decide +kernel)
theorem dX12_text__134 : decode cX12_text_ 134 = .ok (.aload_n 0, 1) := do_42 (rdb (p := 128) (i := 6) ch_cX12_text__128 rfl)
theorem dX12_text__135 : decode cX12_text_ 135 = .ok (.getfield 181, 3) := do_180 (rdb (p := 128) (i := 7) ch_cX12_text__128 rfl) (rdb (p := 128) (i := 8) ch_cX12_text__128 rfl) (rdb (p := 128) (i := 9) ch_cX12_text__128 rfl) rfl
theorem dX12_text__138 : decode cX12_text_ 138 = .ok (.imul, 1) := do_104 (rdb (p := 128) (i := 10) ch_cX12_text__128 rfl)
theorem dX12_text__139 : decode cX12_text_ 139 = .ok (.iadd, 1) := do_96 (rdb (p := 128) (i := 11) ch_cX12_text__128 rfl)
theorem dX12_text__140 : decode cX12_text_ 140 = .ok (.iconst 1, 1) := do_4 (rdb (p := 128) (i := 12) ch_cX12_text__128 rfl)
theorem dX12_text__141 : decode cX12_text_ 141 = .ok (.iadd, 1) := do_96 (rdb (p := 128) (i := 13) ch_cX12_text__128 rfl)
theorem dX12_text__142 : decode cX12_text_ 142 = .ok (.iload_n 2, 1) := do_28 (rdb (p := 128) (i := 14) ch_cX12_text__128 rfl)
theorem dX12_text__143 : decode cX12_text_ 143 = .ok (.iadd, 1) := do_96 (rdb (p := 128) (i := 15) ch_cX12_text__128 rfl)
theorem dX12_text__144 : decode cX12_text_ 144 = .ok (.aload_n 0, 1) := do_42 (rdb (p := 128) (i := 16) ch_cX12_text__128 rfl)
theorem dX12_text__145 : decode cX12_text_ 145 = .ok (.getfield 44, 3) := do_180 (rdb (p := 128) (i := 17) ch_cX12_text__128 rfl) (rdb (p := 128) (i := 18) ch_cX12_text__128 rfl) (rdb (p := 128) (i := 19) ch_cX12_text__128 rfl) rfl
theorem dX12_text__148 : decode cX12_text_ 148 = .ok (.iload_n 2, 1) := do_28 (rdb (p := 128) (i := 20) ch_cX12_text__128 rfl)
theorem dX12_text__149 : decode cX12_text_ 149 = .ok (.iaload, 1) := do_46 (rdb (p := 128) (i := 21) ch_cX12_text__128 rfl)
theorem dX12_text__150 : decode cX12_text_ 150 = .ok (.iastore, 1) := do_79 (rdb (p := 128) (i := 22) ch_cX12_text__128 rfl)
theorem dX12_text__151 : decode cX12_text_ 151 = .ok (.iinc 2 1, 3) := do_132 (rdb (p := 128) (i := 23) ch_cX12_text__128 rfl) (rdb (p := 128) (i := 24) ch_cX12_text__128 rfl) (rdb (p := 128) (i := 25) ch_cX12_text__128 rfl) (by decide +kernel)
theorem dX12_text__154 : decode cX12_text_ 154 = .ok (.goto (-37), 3) := do_167 (rdb (p := 128) (i := 26) ch_cX12_text__128 rfl) (rdb (p := 128) (i := 27) ch_cX12_text__128 rfl) (rdb (p := 128) (i := 28) ch_cX12_text__128 rfl) (by decide +kernel)
theorem dX12_text__157 : decode cX12_text_ 157 = .ok (.aload_n 0, 1) := do_42 (rdb (p := 128) (i := 29) ch_cX12_text__128 rfl)
theorem dX12_text__158 : decode cX12_text_ 158 = .ok (.getfield 203, 3) := do_180 (rdb (p := 128) (i := 30) ch_cX12_text__128 rfl) (rdb (p := 128) (i := 31) ch_cX12_text__128 rfl) (rdb (p := 128) (i := 32) ch_cX12_text__128 rfl) rfl
theorem ch_cX12_text__160 : (cX12_text_.data.toList.drop 160).take 36 = [203, 172] := by decide +kernel
theorem dX12_text__161 : decode cX12_text_ 161 = .ok (.ireturn, 1) := do_172 (rdb (p := 160) (i := 1) ch_cX12_text__160 rfl)
end
section
def S_c_X12_text_ : rf → Nat → Prop := fun c k => (c.1 = 12 ∧ c.2.1 = 0 ∧ k = 10) ∨ (c.1 = 12 ∧ c.2.1 = 0 ∧ k = 9) ∨ (c.1 = 12 ∧ c.2.1 = 0 ∧ k = 11) ∨ (c.1 = 12 ∧ c.2.1 = 0 ∧ k = 12) ∨ (c.1 = 12 ∧ c.2.1 = 0 ∧ k = 13) ∨ (c.1 = 12 ∧ c.2.1 = 0 ∧ k = 14) ∨ (c.1 = 57 ∧ c.2.1 = 0) ∨ (c.1 = 50 ∧ c.2.1 = 0 ∧ k = 4) ∨ (c.1 = 50 ∧ c.2.1 = 0) ∨ (c.1 = 53 ∧ c.2.1 = 0) ∨ False
def ST_X12_text__117 (v : Int32) (Mz : mM) (v2_117 : Int32) (M_117 : mM) (v2_117y : Int32) (M_117y : mM) : Prop := (0 ≤ v2_117.toInt) ∧ (v2_117.toInt ≤ 49) ∧ (TX M_117 v.toInt.toNat v2_117.toInt) ∧ (InvT v.toInt.toNat M_117) ∧ (FR (S_c_X12_text_) Mz M_117) ∧ ∃ z151_ : Int32, (z151_ = M_117.1 (12, 0, 0) 14) ∧ (0 ≤ z151_.toInt ∧ z151_.toInt ≤ 49) ∧ (z151_.toInt ≤ 48) ∧ (v2_117.toInt < z151_.toInt) ∧ ∃ z159_ : Int32, (z159_ = M_117.1 (12, 0, 0) 10) ∧ (0 ≤ z159_.toInt ∧ z159_.toInt ≤ 2) ∧ (z159_.toInt = v.toInt) ∧ ∃ z163_ : Int32, (z163_.toInt = 50 * z159_.toInt) ∧ ∃ z165_ : Int32, (z165_.toInt = 345 + z163_.toInt) ∧ ∃ z167_ : Int32, (z167_.toInt = z165_.toInt + 1) ∧ ∃ z169_ : Int32, (z169_.toInt = z167_.toInt + v2_117.toInt) ∧ ∃ j173_ : Nat, ((j173_ : Int) = v2_117.toInt) ∧ ∃ z171_ : Int32, (z171_ = M_117.1 (57, 0, 0) j173_) ∧ ∃ j177_ : Nat, ((j177_ : Int) = z169_.toInt) ∧ ∃ M175_ : mM, (M175_ = up M_117 (50, 0, 0) j177_ z171_) ∧ ∃ z186_ : Int32, (z186_.toInt = v2_117.toInt + 1) ∧ v2_117y = z186_ ∧ M_117y = M175_
def SP_X12_text_ (v : Int32) (Mz : mM) (r_ : Int32) (M_ : mM) : Prop := (((SP_X12_within v 0 2 Mz (1 : Int32)) ∧ (0 ≤ v.toInt ∧ v.toInt ≤ 2) ∧ ∃ M7_ : mM, (M7_ = up Mz (12, 0, 0) 10 v) ∧ ∃ M12_ : mM, (M12_ = up M7_ (12, 0, 0) 9 0) ∧ ∃ M18_ : mM, (M18_ = up M12_ (12, 0, 0) 11 0) ∧ ∃ M25_ : mM, (M25_ = up M18_ (12, 0, 0) 12 0) ∧ ∃ M32_ : mM, (M32_ = up M25_ (12, 0, 0) 13 0) ∧ ∃ M39_ : mM, (M39_ = up M32_ (12, 0, 0) 14 0) ∧ (InvD M39_) ∧ ∃ M48_ : mM, (InvD M48_) ∧ (FR (S_par) M39_ M48_) ∧ (SP_X12_text5 ((M39_.1 (50, 0, 0) 4).toInt) M39_ M48_) ∧ ∃ z56_ : Int32, (z56_ = M48_.1 (12, 0, 0) 13) ∧ (0 ≤ z56_.toInt ∧ z56_.toInt ≤ 1) ∧ (((¬ z56_.toInt = 0) ∧ ∃ M61_ : mM, (M61_ = up M48_ (12, 0, 0) 13 1) ∧ (PP M61_ 0 1 0 (M39_.1 (50, 0, 0) 4).toInt) ∧ ∃ M69_ : mM, (M69_ = up M61_ (50, 0, 0) 4 0) ∧ ∃ z76_ : Int32, (z76_ = M69_.1 (12, 0, 0) 13) ∧ (0 ≤ z76_.toInt ∧ z76_.toInt ≤ 1) ∧ (z76_ = 1) ∧ (z76_.toInt = 1) ∧ (¬ z76_.toInt = 0) ∧ ∃ z82_ : Int32, (z82_ = M69_.1 (12, 0, 0) 9) ∧ (0 ≤ z82_.toInt ∧ z82_.toInt ≤ 48) ∧ ∃ z85_ : Int32, (z85_.toInt = -10 - z82_.toInt) ∧ r_ = z85_ ∧ M_ = M69_) ∨ ((z56_.toInt = 0) ∧ ∃ M88_ : mM, (InvD M88_) ∧ (FR (S_here) M48_ M88_) ∧ ∃ r87_ : Int32, (SP_X12_here 0 1 0 ((M39_.1 (50, 0, 0) 4).toInt) M48_ r87_ M88_) ∧ (HB M88_ r87_) ∧ (((r87_.toInt < 0) ∧ ∃ M100_ : mM, (M100_ = up M88_ (12, 0, 0) 13 0) ∧ (PP M100_ 0 1 0 (M39_.1 (50, 0, 0) 4).toInt) ∧ (dpt (M100_.1 (57, 0, 0)) 0 (M100_.1 (12, 0, 0) 14).toInt.toNat = some 1) ∧ ∃ M110_ : mM, (M110_ = up M100_ (50, 0, 0) 4 0) ∧ ∃ z119_ : Int32, (z119_ = M110_.1 (12, 0, 0) 13) ∧ (0 ≤ z119_.toInt ∧ z119_.toInt ≤ 1) ∧ (z119_ = 0) ∧ (z119_.toInt = 0) ∧ (z119_.toInt = 0) ∧ ∃ z126_ : Int32, (z126_ = M110_.1 (12, 0, 0) 10) ∧ (0 ≤ z126_.toInt ∧ z126_.toInt ≤ 2) ∧ (z126_.toInt = v.toInt) ∧ ∃ z130_ : Int32, (z130_.toInt = 50 * z126_.toInt) ∧ ∃ z132_ : Int32, (z132_.toInt = 345 + z130_.toInt) ∧ ∃ z134_ : Int32, (z134_ = M110_.1 (12, 0, 0) 14) ∧ (0 ≤ z134_.toInt ∧ z134_.toInt ≤ 49) ∧ (z134_.toInt ≤ 48) ∧ ∃ j140_ : Nat, ((j140_ : Int) = z132_.toInt) ∧ ∃ M138_ : mM, (M138_ = up M110_ (50, 0, 0) j140_ z134_) ∧ ∃ v2_117 : Int32, (0 ≤ v2_117.toInt) ∧ (v2_117.toInt ≤ 49) ∧ ∃ M_117 : mM, (TX M_117 v.toInt.toNat v2_117.toInt) ∧ (RCH (fun x_ y_ => ST_X12_text__117 v Mz x_.1 x_.2 y_.1 y_.2) ((0 : Int32), M138_) (v2_117, M_117)) ∧ (InvT v.toInt.toNat M_117) ∧ (FR (S_c_X12_text_) Mz M_117) ∧ ∃ z151_ : Int32, (z151_ = M_117.1 (12, 0, 0) 14) ∧ (0 ≤ z151_.toInt ∧ z151_.toInt ≤ 49) ∧ (z151_.toInt ≤ 48) ∧ (z151_.toInt ≤ v2_117.toInt) ∧ ∃ z157_ : Int32, (z157_ = M_117.1 (12, 0, 0) 12) ∧ r_ = z157_ ∧ M_ = M_117) ∨ ((0 ≤ r87_.toInt) ∧ ∃ M188_ : mM, (M188_ = up M88_ (12, 0, 0) 13 1) ∧ (PP M188_ 0 1 0 (M39_.1 (50, 0, 0) 4).toInt) ∧ ∃ M196_ : mM, (M196_ = up M188_ (50, 0, 0) 4 0) ∧ ∃ z203_ : Int32, (z203_ = M196_.1 (12, 0, 0) 13) ∧ (0 ≤ z203_.toInt ∧ z203_.toInt ≤ 1) ∧ (z203_ = 1) ∧ (z203_.toInt = 1) ∧ (¬ z203_.toInt = 0) ∧ ∃ z209_ : Int32, (z209_ = M196_.1 (12, 0, 0) 9) ∧ (0 ≤ z209_.toInt ∧ z209_.toInt ≤ 48) ∧ ∃ z212_ : Int32, (z212_.toInt = -10 - z209_.toInt) ∧ r_ = z212_ ∧ M_ = M196_))))) ∨ ((SP_X12_within v 0 2 Mz (0 : Int32)) ∧ (¬ (0 ≤ v.toInt ∧ v.toInt ≤ 2)) ∧ ∃ M216_ : mM, (InvD M216_) ∧ (FR (S_c_X12_finding) Mz M216_) ∧ ∃ r215_ : Int32, (SP_X12_finding (-1000001) Mz r215_ M216_) ∧ (r215_.toInt = (-1000001)) ∧ r_ = r215_ ∧ M_ = M216_))
theorem lf_c_X12_text__3 : PN 4 (0 : Int32) ∧ (4 < 345 ∨ 493 < 4) := by have q9 := li_0; unfold PN; omega
theorem lf_c_X12_text__5 (z82_ : Int32) (h84_ : 0 ≤ z82_.toInt ∧ z82_.toInt ≤ 48) : -2147483648 ≤ -10 - z82_.toInt ∧ -10 - z82_.toInt < 2147483648 := by omega
theorem lf_c_X12_text__12 (v : Int32) (z126_ : Int32) (z130_ : Int32) (z132_ : Int32) (j140_ : Nat) (h4_ : 0 ≤ v.toInt ∧ v.toInt ≤ 2) (h129_ : z126_.toInt = v.toInt) (h131_ : z130_.toInt = 50 * z126_.toInt) (h133_ : z132_.toInt = 345 + z130_.toInt) (h141_ : (j140_ : Int) = z132_.toInt) : 345 + 50 * v.toInt.toNat ≤ j140_ ∧ j140_ < 395 + 50 * v.toInt.toNat := by omega
theorem lf_c_X12_text__13 (z134_ : Int32) (h136_ : 0 ≤ z134_.toInt ∧ z134_.toInt ≤ 49) : 0 ≤ z134_.toInt := by omega
theorem lf_c_X12_text__14 (v : Int32) (z126_ : Int32) (z130_ : Int32) (z132_ : Int32) (j140_ : Nat) (h4_ : 0 ≤ v.toInt ∧ v.toInt ≤ 2) (h129_ : z126_.toInt = v.toInt) (h131_ : z130_.toInt = 50 * z126_.toInt) (h133_ : z132_.toInt = 345 + z130_.toInt) (h141_ : (j140_ : Int) = z132_.toInt) : j140_ = 345 + 50 * v.toInt.toNat := by omega
theorem lf_c_X12_text__15 (v : Int32) (h4_ : 0 ≤ v.toInt ∧ v.toInt ≤ 2) : v.toInt.toNat < 3 := by omega
theorem lf_c_X12_text__20 (v2_117 : Int32) (z159_ : Int32) (z163_ : Int32) (z165_ : Int32) (z167_ : Int32) (hv0_117 : 0 ≤ v2_117.toInt) (hv1_117 : v2_117.toInt ≤ 49) (h161_ : 0 ≤ z159_.toInt ∧ z159_.toInt ≤ 2) (h164_ : z163_.toInt = 50 * z159_.toInt) (h166_ : z165_.toInt = 345 + z163_.toInt) (h168_ : z167_.toInt = z165_.toInt + 1) : -2147483648 ≤ z167_.toInt + v2_117.toInt ∧ z167_.toInt + v2_117.toInt < 2147483648 := by omega
theorem lf_c_X12_text__21 (v2_117 : Int32) (z151_ : Int32) (hv0_117 : 0 ≤ v2_117.toInt) (h154_ : z151_.toInt ≤ 48) (h155_ : v2_117.toInt < z151_.toInt) : 0 ≤ v2_117.toInt ∧ v2_117.toInt < ((49 : Nat) : Int) := by omega
theorem lf_c_X12_text__22 (v2_117 : Int32) (z159_ : Int32) (z163_ : Int32) (z165_ : Int32) (z167_ : Int32) (z169_ : Int32) (hv0_117 : 0 ≤ v2_117.toInt) (hv1_117 : v2_117.toInt ≤ 49) (h161_ : 0 ≤ z159_.toInt ∧ z159_.toInt ≤ 2) (h164_ : z163_.toInt = 50 * z159_.toInt) (h166_ : z165_.toInt = 345 + z163_.toInt) (h168_ : z167_.toInt = z165_.toInt + 1) (h170_ : z169_.toInt = z167_.toInt + v2_117.toInt) : 0 ≤ z169_.toInt ∧ z169_.toInt < ((3567 : Nat) : Int) := by omega
theorem lf_c_X12_text__23 (v : Int32) (v2_117 : Int32) (z151_ : Int32) (z159_ : Int32) (z163_ : Int32) (z165_ : Int32) (z167_ : Int32) (z169_ : Int32) (j177_ : Nat) (h4_ : 0 ≤ v.toInt ∧ v.toInt ≤ 2) (hv0_117 : 0 ≤ v2_117.toInt) (h154_ : z151_.toInt ≤ 48) (h155_ : v2_117.toInt < z151_.toInt) (h162_ : z159_.toInt = v.toInt) (h164_ : z163_.toInt = 50 * z159_.toInt) (h166_ : z165_.toInt = 345 + z163_.toInt) (h168_ : z167_.toInt = z165_.toInt + 1) (h170_ : z169_.toInt = z167_.toInt + v2_117.toInt) (h178_ : (j177_ : Int) = z169_.toInt) : 345 + 50 * v.toInt.toNat ≤ j177_ ∧ j177_ < 395 + 50 * v.toInt.toNat := by omega
theorem lf_c_X12_text__24 (v2_117 : Int32) (hv0_117 : 0 ≤ v2_117.toInt) (hv1_117 : v2_117.toInt ≤ 49) : -2147483648 ≤ v2_117.toInt + 1 ∧ v2_117.toInt + 1 < 2147483648 := by omega
theorem lf_c_X12_text__26 (v2_117 : Int32) (z151_ : Int32) (z186_ : Int32) (h154_ : z151_.toInt ≤ 48) (h155_ : v2_117.toInt < z151_.toInt) (h187_ : z186_.toInt = v2_117.toInt + 1) : z186_.toInt ≤ 49 := by omega
theorem lf_c_X12_text__27 (v : Int32) (v2_117 : Int32) (z159_ : Int32) (z163_ : Int32) (z165_ : Int32) (z167_ : Int32) (z169_ : Int32) (j177_ : Nat) (h4_ : 0 ≤ v.toInt ∧ v.toInt ≤ 2) (h162_ : z159_.toInt = v.toInt) (h164_ : z163_.toInt = 50 * z159_.toInt) (h166_ : z165_.toInt = 345 + z163_.toInt) (h168_ : z167_.toInt = z165_.toInt + 1) (h170_ : z169_.toInt = z167_.toInt + v2_117.toInt) (h178_ : (j177_ : Int) = z169_.toInt) : (j177_ : Int) = 346 + 50 * v.toInt.toNat + v2_117.toInt := by omega
theorem lf_c_X12_text__31 (v2_117 : Int32) (z151_ : Int32) (z186_ : Int32) (h154_ : z151_.toInt ≤ 48) (h155_ : v2_117.toInt < z151_.toInt) (h187_ : z186_.toInt = v2_117.toInt + 1) : (49 - z186_.toInt).toNat < (49 - v2_117.toInt).toNat := by omega
theorem lf_c_X12_text__33 : (0 : Int32).toInt ≤ 49 := by have q0 := li_0; omega
set_option maxHeartbeats 4000000 in
set_option maxRecDepth 100000 in
theorem c_X12_text_ (l : Launch) (G : va_G) (cy : Nat → ClassId) (ad : rf → Nat) (d : Nat) (v : Int32) (Mz : mM) (hIz : InvD Mz) : WP DD l G cy ad yX12_text_ cX12_text_ 3 (some .int) (d + 73) 0 [(0, vR (12, 0, 0)), (1, vI v)] [] Mz (fun r M' => InvD M' ∧ FR (S_c_X12_text_) Mz M' ∧ (True) ∧ SP_X12_text_ v Mz r M') := by
  have hFz : FR (S_c_X12_text_) Mz Mz := FR.self
  refine w_iload_n dX12_text__0 rfl 1 rfl ?_
  refine w_iconst (v := 0) dX12_text__1 (by decide) ?_
  refine w_iconst (v := 2) dX12_text__2 (by decide) ?_
  refine w_callS (as := [vI v, vI 0, vI 2]) (rest := []) (c_X12_within l G cy ad (d + 72) v 0 2 Mz hIz) kS_X12_within pnn_17 (Nat.le_of_ble_eq_true rfl) m_1427 rfl rfl (by decide) (Nat.le_of_ble_eq_true rfl) dX12_text__3 (fun r1_ M2_ q3_ => ?_)
  obtain ⟨rfl, h4_, hs5_⟩ := q3_
  rcases h4_ with ⟨rfl, h4_⟩ | ⟨rfl, h4_⟩
  · simp only [li_0, li_2] at h4_
    refine w_if_ne (tgt := 16) dX12_text__6 (by decide) li_1 (fun h6_ => ?_) (fun h9 => (absurd h9 (by decide)))
    refine w_aload_n dX12_text__16 rfl 0 rfl ?_
    refine w_iload_n dX12_text__17 rfl 1 rfl ?_
    refine w_putI DD_nd fl_RX12_181 rfl rfl ic_12 dX12_text__18 (fun M7_ hM8_ => ?_)
    have hI9_ := hIz.put hM8_ ⟨h4_, Or.inl (by decide)⟩
    have hF10_ := hFz.put hM8_ (Or.inl ⟨rfl, rfl, rfl⟩)
    have kf11_ : (M7_.1 (12, 0, 0) 10).toInt = v.toInt := by rw [hM8_, up_same]
    refine w_aload_n dX12_text__21 rfl 0 rfl ?_
    refine w_iconst (v := 0) dX12_text__22 (by decide) ?_
    refine w_putI DD_nd fl_RX12_155 rfl rfl ic_12 dX12_text__23 (fun M12_ hM13_ => ?_)
    have hI14_ := hI9_.put hM13_ ⟨⟨by decide, by decide⟩, Or.inl (by decide)⟩
    have hF15_ := hF10_.put hM13_ (Or.inr (Or.inl ⟨rfl, rfl, rfl⟩))
    have kf16_ : (M12_.1 (12, 0, 0) 10).toInt = v.toInt := by rw [(show M12_.1 (12, 0, 0) 10 = M7_.1 (12, 0, 0) 10 by rw [hM13_, up_ne (by simp)])]; exact kf11_
    have kf17_ : (M12_.1 (12, 0, 0) 9).toInt = 0 := by rw [hM13_, up_same]; exact (lf_c_X5_clear2_1 )
    refine w_aload_n dX12_text__26 rfl 0 rfl ?_
    refine w_iconst (v := 0) dX12_text__27 (by decide) ?_
    refine w_putI DD_nd fl_RX12_191 rfl rfl ic_12 dX12_text__28 (fun M18_ hM19_ => ?_)
    have hI20_ := hI14_.put hM19_ ⟨⟨by decide, by decide⟩, Or.inl (by decide)⟩
    have hF21_ := hF15_.put hM19_ (Or.inr (Or.inr (Or.inl ⟨rfl, rfl, rfl⟩)))
    have kf22_ : (M18_.1 (12, 0, 0) 10).toInt = v.toInt := by rw [(show M18_.1 (12, 0, 0) 10 = M12_.1 (12, 0, 0) 10 by rw [hM19_, up_ne (by simp)])]; exact kf16_
    have kf23_ : (M18_.1 (12, 0, 0) 9).toInt = 0 := by rw [(show M18_.1 (12, 0, 0) 9 = M12_.1 (12, 0, 0) 9 by rw [hM19_, up_ne (by simp)])]; exact kf17_
    have kf24_ : (M18_.1 (12, 0, 0) 11).toInt = 0 := by rw [hM19_, up_same]; exact (lf_c_X5_clear2_1 )
    refine w_aload_n dX12_text__31 rfl 0 rfl ?_
    refine w_iconst (v := 0) dX12_text__32 (by decide) ?_
    refine w_putI DD_nd fl_RX12_203 rfl rfl ic_12 dX12_text__33 (fun M25_ hM26_ => ?_)
    have hI27_ := hI20_.put hM26_ ⟨trivial, Or.inl (by decide)⟩
    have hF28_ := hF21_.put hM26_ (Or.inr (Or.inr (Or.inr (Or.inl ⟨rfl, rfl, rfl⟩))))
    have kf29_ : (M25_.1 (12, 0, 0) 10).toInt = v.toInt := by rw [(show M25_.1 (12, 0, 0) 10 = M18_.1 (12, 0, 0) 10 by rw [hM26_, up_ne (by simp)])]; exact kf22_
    have kf30_ : (M25_.1 (12, 0, 0) 9).toInt = 0 := by rw [(show M25_.1 (12, 0, 0) 9 = M18_.1 (12, 0, 0) 9 by rw [hM26_, up_ne (by simp)])]; exact kf23_
    have kf31_ : (M25_.1 (12, 0, 0) 11).toInt = 0 := by rw [(show M25_.1 (12, 0, 0) 11 = M18_.1 (12, 0, 0) 11 by rw [hM26_, up_ne (by simp)])]; exact kf24_
    refine w_aload_n dX12_text__36 rfl 0 rfl ?_
    refine w_iconst (v := 0) dX12_text__37 (by decide) ?_
    refine w_putZ DD_nd fl_RX12_151 rfl rfl ic_12 ⟨by decide, by decide⟩ dX12_text__38 (fun M32_ hM33_ => ?_)
    have hI34_ := hI27_.put hM33_ ⟨⟨by decide, by decide⟩, Or.inl (by decide)⟩
    have hF35_ := hF28_.put hM33_ (Or.inr (Or.inr (Or.inr (Or.inr (Or.inl ⟨rfl, rfl, rfl⟩)))))
    have kf36_ : (M32_.1 (12, 0, 0) 10).toInt = v.toInt := by rw [(show M32_.1 (12, 0, 0) 10 = M25_.1 (12, 0, 0) 10 by rw [hM33_, up_ne (by simp)])]; exact kf29_
    have kf37_ : (M32_.1 (12, 0, 0) 9).toInt = 0 := by rw [(show M32_.1 (12, 0, 0) 9 = M25_.1 (12, 0, 0) 9 by rw [hM33_, up_ne (by simp)])]; exact kf30_
    have kf38_ : (M32_.1 (12, 0, 0) 11).toInt = 0 := by rw [(show M32_.1 (12, 0, 0) 11 = M25_.1 (12, 0, 0) 11 by rw [hM33_, up_ne (by simp)])]; exact kf31_
    refine w_aload_n dX12_text__41 rfl 0 rfl ?_
    refine w_iconst (v := 0) dX12_text__42 (by decide) ?_
    refine w_putI DD_nd fl_RX12_162 rfl rfl ic_12 dX12_text__43 (fun M39_ hM40_ => ?_)
    have hI41_ := hI34_.put hM40_ ⟨⟨by decide, by decide⟩, Or.inl (by decide)⟩
    have hF42_ := hF35_.put hM40_ (Or.inr (Or.inr (Or.inr (Or.inr (Or.inr (Or.inl ⟨rfl, rfl, rfl⟩))))))
    have kf43_ : (M39_.1 (12, 0, 0) 10).toInt = v.toInt := by rw [(show M39_.1 (12, 0, 0) 10 = M32_.1 (12, 0, 0) 10 by rw [hM40_, up_ne (by simp)])]; exact kf36_
    have kf44_ : (M39_.1 (12, 0, 0) 9).toInt = 0 := by rw [(show M39_.1 (12, 0, 0) 9 = M32_.1 (12, 0, 0) 9 by rw [hM40_, up_ne (by simp)])]; exact kf37_
    have kf45_ : (M39_.1 (12, 0, 0) 11).toInt = 0 := by rw [(show M39_.1 (12, 0, 0) 11 = M32_.1 (12, 0, 0) 11 by rw [hM40_, up_ne (by simp)])]; exact kf38_
    have kf46_ : (M39_.1 (12, 0, 0) 14).toInt = 0 := by rw [hM40_, up_same]; exact (lf_c_X5_clear2_1 )
    have h47_ : PP M39_ 0 0 0 (M39_.1 (50, 0, 0) 4).toInt := PP_start (z := 0) kf44_ kf46_ hI41_
    refine w_aload_n dX12_text__46 rfl 0 rfl ?_
    refine w_callVv (as := []) (rest := []) (c_X12_text5 l G cy ad d ((M39_.1 (50, 0, 0) 4).toInt) M39_ hI41_ h47_ kf45_) kV_X12_text pnn_17 (Nat.le_of_ble_eq_true rfl) m_1559 rfl rfl rfl ic_12 rfl rfl (by decide) (Nat.le_of_ble_eq_true rfl) dX12_text__47 (fun M48_ q49_ => ?_)
    obtain ⟨hI51_, hF52_, h50_, hs54_⟩ := q49_
    have hF53_ := hF42_.tr hF52_ (fun c k => (fun h => h.elim (fun h => (Or.inr (Or.inl ⟨h.1, h.2.1, h.2.2⟩))) (fun h => h.elim (fun h => (Or.inr (Or.inr (Or.inl ⟨h.1, h.2.1, h.2.2⟩)))) (fun h => h.elim (fun h => (Or.inr (Or.inr (Or.inr (Or.inl ⟨h.1, h.2.1, h.2.2⟩))))) (fun h => h.elim (fun h => (Or.inr (Or.inr (Or.inr (Or.inr (Or.inl ⟨h.1, h.2.1, h.2.2⟩)))))) (fun h => h.elim (fun h => (Or.inr (Or.inr (Or.inr (Or.inr (Or.inr (Or.inl ⟨h.1, h.2.1, h.2.2⟩))))))) (fun h => h.elim (fun h => (Or.inr (Or.inr (Or.inr (Or.inr (Or.inr (Or.inr (Or.inl ⟨h.1, h.2⟩)))))))) (fun h => h.elim))))))))
    have kf55_ : (M48_.1 (12, 0, 0) 10).toInt = v.toInt := by rw [(hF52_ (12, 0, 0) 10 (by simp [S_par]))]; exact kf43_
    refine w_aload_n dX12_text__50 rfl 0 rfl ?_
    refine w_aload_n dX12_text__51 rfl 0 rfl ?_
    refine w_getI fl_RX12_151 rfl rfl ic_12 dX12_text__52 (fun z56_ e57_ => ?_)
    have h58_ : 0 ≤ z56_.toInt ∧ z56_.toInt ≤ 1 := ofEq (P := fun v => 0 ≤ v.toInt ∧ v.toInt ≤ 1) e57_ (hI51_.1 (12, 0, 0) 13)
    have kf59_ : (M48_.1 (12, 0, 0) 13).toInt = z56_.toInt := by rw [e57_]
    refine w_if_ne (tgt := 65) dX12_text__55 (by decide) (rfl : z56_.toInt = z56_.toInt) (fun h60_ => ?_) (fun h60_ => ?_)
    · refine w_iconst (v := 1) dX12_text__65 (by decide) ?_
      refine w_goto (tgt := 70) dX12_text__66 (by decide) ?_
      refine w_putZ DD_nd fl_RX12_151 rfl rfl ic_12 ⟨by decide, by decide⟩ dX12_text__70 (fun M61_ hM62_ => ?_)
      have hI63_ := hI51_.put hM62_ ⟨⟨by decide, by decide⟩, Or.inl (by decide)⟩
      have hF64_ := hF53_.put hM62_ (Or.inr (Or.inr (Or.inr (Or.inr (Or.inl ⟨rfl, rfl, rfl⟩)))))
      have kf65_ : (M61_.1 (12, 0, 0) 10).toInt = v.toInt := by rw [(show M61_.1 (12, 0, 0) 10 = M48_.1 (12, 0, 0) 10 by rw [hM62_, up_ne (by simp)])]; exact kf55_
      have h66_ : PP M61_ 0 1 0 (M39_.1 (50, 0, 0) 4).toInt := PP_put1 h50_ hM62_
      have kf67_ : M61_.1 (12, 0, 0) 13 = 1 := up_s hM62_
      have kf68_ : (M61_.1 (12, 0, 0) 13).toInt = 1 := by rw [kf67_]; decide
      refine w_aload_n dX12_text__73 rfl 0 rfl ?_
      refine w_getR (c' := (50, 0, 0)) fl_RX12_9 rfl rfl ic_12 dX12_text__74 rfl ?_
      refine w_iconst (v := 4) dX12_text__77 (by decide) ?_
      refine w_iconst (v := 0) dX12_text__78 (by decide) ?_
      refine w_iastL 4 DD_nd rfl rfl ic_50 li_4 (by decide) dX12_text__79 (fun M69_ hM70_ => ?_)
      have hI71_ := hI63_.put50 hM70_ (lf_c_X12_text__3 )
      have hF72_ := hF64_.put hM70_ (Or.inr (Or.inr (Or.inr (Or.inr (Or.inr (Or.inr (Or.inr (Or.inl ⟨rfl, rfl, rfl⟩))))))))
      have kf73_ : (M69_.1 (12, 0, 0) 10).toInt = v.toInt := by rw [(show M69_.1 (12, 0, 0) 10 = M61_.1 (12, 0, 0) 10 by rw [hM70_, up_ne (by simp)])]; exact kf65_
      have kf74_ : M69_.1 (12, 0, 0) 13 = 1 := by rw [(show M69_.1 (12, 0, 0) 13 = M61_.1 (12, 0, 0) 13 by rw [hM70_, up_ne (by simp)])]; exact kf67_
      have kf75_ : (M69_.1 (12, 0, 0) 13).toInt = 1 := by rw [(show M69_.1 (12, 0, 0) 13 = M61_.1 (12, 0, 0) 13 by rw [hM70_, up_ne (by simp)])]; exact kf68_
      refine w_aload_n dX12_text__80 rfl 0 rfl ?_
      refine w_getI fl_RX12_151 rfl rfl ic_12 dX12_text__81 (fun z76_ e77_ => ?_)
      have h78_ : 0 ≤ z76_.toInt ∧ z76_.toInt ≤ 1 := ofEq (P := fun v => 0 ≤ v.toInt ∧ v.toInt ≤ 1) e77_ (hI71_.1 (12, 0, 0) 13)
      have h79_ : z76_ = 1 := by rw [e77_]; exact kf74_
      have h80_ : z76_.toInt = 1 := by rw [e77_]; exact kf75_
      refine w_if_eq (tgt := 95) dX12_text__84 (by decide) (rfl : z76_.toInt = z76_.toInt) (fun h9 => (lf_c_X2_changeAir_0 z76_ h80_ h9 ).elim) (fun h81_ => ?_)
      refine w_bipush (v := (-10)) dX12_text__87 (by decide) ?_
      refine w_aload_n dX12_text__89 rfl 0 rfl ?_
      refine w_getI fl_RX12_155 rfl rfl ic_12 dX12_text__90 (fun z82_ e83_ => ?_)
      have h84_ : 0 ≤ z82_.toInt ∧ z82_.toInt ≤ 48 := ofEq (P := fun v => 0 ≤ v.toInt ∧ v.toInt ≤ 48) e83_ (hI71_.1 (12, 0, 0) 9)
      refine w_isubB dX12_text__93 li_m10 (rfl : z82_.toInt = z82_.toInt) (lf_c_X12_text__5 z82_ h84_ ) (fun z85_ h86_ => ?_)
      exact w_iret rfl dX12_text__94 ⟨hI71_, hF72_, trivial, (Or.inl ⟨hs5_, h4_, M7_, hM8_, M12_, hM13_, M18_, hM19_, M25_, hM26_, M32_, hM33_, M39_, hM40_, hI41_, M48_, hI51_, hF52_, hs54_, z56_, e57_, h58_, (Or.inl ⟨h60_, M61_, hM62_, h66_, M69_, hM70_, z76_, e77_, h78_, h79_, h80_, h81_, z82_, e83_, h84_, z85_, h86_, rfl, rfl⟩)⟩)⟩
    · refine w_aload_n dX12_text__58 rfl 0 rfl ?_
      refine w_callV (as := []) (rest := [vR (12, 0, 0)]) (c_X12_here l G cy ad (d + 72) 0 1 0 ((M39_.1 (50, 0, 0) 4).toInt) M48_ hI51_ h50_) kV_X12_here pnn_17 (Nat.le_of_ble_eq_true rfl) m_1575 rfl rfl rfl ic_12 rfl rfl (by decide) (Nat.le_of_ble_eq_true rfl) dX12_text__59 (fun r87_ M88_ q89_ => ?_)
      obtain ⟨hI91_, hF92_, h90_, hs94_⟩ := q89_
      have hF93_ := hF53_.tr hF92_ (fun c k => (fun h => h.elim (fun h => (Or.inr (Or.inl ⟨h.1, h.2.1, h.2.2⟩))) (fun h => h.elim)))
      have kf95_ : (M88_.1 (12, 0, 0) 10).toInt = v.toInt := by rw [(hF92_ (12, 0, 0) 10 (by simp [S_here]))]; exact kf55_
      have kf96_ : (M88_.1 (12, 0, 0) 13).toInt = z56_.toInt := by rw [(hF92_ (12, 0, 0) 13 (by simp [S_here]))]; exact kf59_
      have h97_ : PP M88_ 0 1 0 (M39_.1 (50, 0, 0) 4).toInt := h90_.1
      have h98_ : HB M88_ r87_ := h90_.2
      refine w_if_lt (tgt := 69) dX12_text__62 (by decide) (rfl : r87_.toInt = r87_.toInt) (fun h99_ => ?_) (fun h99_ => ?_)
      · refine w_iconst (v := 0) dX12_text__69 (by decide) ?_
        refine w_putZ DD_nd fl_RX12_151 rfl rfl ic_12 ⟨by decide, by decide⟩ dX12_text__70 (fun M100_ hM101_ => ?_)
        have hI102_ := hI91_.put hM101_ ⟨⟨by decide, by decide⟩, Or.inl (by decide)⟩
        have hF103_ := hF93_.put hM101_ (Or.inr (Or.inr (Or.inr (Or.inr (Or.inl ⟨rfl, rfl, rfl⟩)))))
        have kf104_ : (M100_.1 (12, 0, 0) 10).toInt = v.toInt := by rw [(show M100_.1 (12, 0, 0) 10 = M88_.1 (12, 0, 0) 10 by rw [hM101_, up_ne (by simp)])]; exact kf95_
        have h105_ : PP M100_ 0 1 0 (M39_.1 (50, 0, 0) 4).toInt := PP_put0 h97_ hM101_ (z0 (kf96_.trans (lf_c_X12_here_4 z56_ h58_ h60_ )))
        have kf106_ : M100_.1 (12, 0, 0) 13 = 0 := up_s hM101_
        have kf107_ : (M100_.1 (12, 0, 0) 13).toInt = 0 := by rw [kf106_]; decide
        have h108_ : dpt (M100_.1 (57, 0, 0)) 0 (M100_.1 (12, 0, 0) 14).toInt.toNat = some 1 := PP_D h105_ kf106_
        have kf109_ : (M100_.1 (12, 0, 0) 14).toInt ≤ 48 := PP_c48 hI102_ h105_ (Int.le_refl _)
        refine w_aload_n dX12_text__73 rfl 0 rfl ?_
        refine w_getR (c' := (50, 0, 0)) fl_RX12_9 rfl rfl ic_12 dX12_text__74 rfl ?_
        refine w_iconst (v := 4) dX12_text__77 (by decide) ?_
        refine w_iconst (v := 0) dX12_text__78 (by decide) ?_
        refine w_iastL 4 DD_nd rfl rfl ic_50 li_4 (by decide) dX12_text__79 (fun M110_ hM111_ => ?_)
        have hI112_ := hI102_.put50 hM111_ (lf_c_X12_text__3 )
        have hF113_ := hF103_.put hM111_ (Or.inr (Or.inr (Or.inr (Or.inr (Or.inr (Or.inr (Or.inr (Or.inl ⟨rfl, rfl, rfl⟩))))))))
        have kf114_ : (M110_.1 (12, 0, 0) 10).toInt = v.toInt := by rw [(show M110_.1 (12, 0, 0) 10 = M100_.1 (12, 0, 0) 10 by rw [hM111_, up_ne (by simp)])]; exact kf104_
        have kf115_ : M110_.1 (12, 0, 0) 13 = 0 := by rw [(show M110_.1 (12, 0, 0) 13 = M100_.1 (12, 0, 0) 13 by rw [hM111_, up_ne (by simp)])]; exact kf106_
        have kf116_ : (M110_.1 (12, 0, 0) 13).toInt = 0 := by rw [(show M110_.1 (12, 0, 0) 13 = M100_.1 (12, 0, 0) 13 by rw [hM111_, up_ne (by simp)])]; exact kf107_
        have kf117_ : dpt (M110_.1 (57, 0, 0)) 0 (M110_.1 (12, 0, 0) 14).toInt.toNat = some 1 := by rw [(show M110_.1 (57, 0, 0) = M100_.1 (57, 0, 0) by rw [hM111_]; exact up_other _ _ (by simp)), (show M110_.1 (12, 0, 0) 14 = M100_.1 (12, 0, 0) 14 by rw [hM111_, up_ne (by simp)])]; exact h108_
        have kf118_ : (M110_.1 (12, 0, 0) 14).toInt ≤ 48 := by rw [(show M110_.1 (12, 0, 0) 14 = M100_.1 (12, 0, 0) 14 by rw [hM111_, up_ne (by simp)])]; exact kf109_
        refine w_aload_n dX12_text__80 rfl 0 rfl ?_
        refine w_getI fl_RX12_151 rfl rfl ic_12 dX12_text__81 (fun z119_ e120_ => ?_)
        have h121_ : 0 ≤ z119_.toInt ∧ z119_.toInt ≤ 1 := ofEq (P := fun v => 0 ≤ v.toInt ∧ v.toInt ≤ 1) e120_ (hI112_.1 (12, 0, 0) 13)
        have h122_ : z119_ = 0 := by rw [e120_]; exact kf115_
        have h123_ : z119_.toInt = 0 := by rw [e120_]; exact kf116_
        refine w_if_eq (tgt := 95) dX12_text__84 (by decide) (rfl : z119_.toInt = z119_.toInt) (fun h124_ => ?_) (fun h9 => (lf_c_X12_kind_4 z119_ h121_ h123_ h9 ).elim)
        have hI125_ : InvT v.toInt.toNat M110_ := InvT.of hI112_
        refine w_aload_n dX12_text__95 rfl 0 rfl ?_
        refine w_getR (c' := (50, 0, 0)) fl_RX12_9 rfl rfl ic_12 dX12_text__96 rfl ?_
        refine w_sipush (v := 345) dX12_text__99 (by decide) ?_
        refine w_bipush (v := 50) dX12_text__102 (by decide) ?_
        refine w_aload_n dX12_text__104 rfl 0 rfl ?_
        refine w_getI fl_RX12_181 rfl rfl ic_12 dX12_text__105 (fun z126_ e127_ => ?_)
        have h128_ : 0 ≤ z126_.toInt ∧ z126_.toInt ≤ 2 := ofEq (P := fun v => 0 ≤ v.toInt ∧ v.toInt ≤ 2) e127_ (hI125_.1 (12, 0, 0) 10)
        have h129_ : z126_.toInt = v.toInt := by rw [e127_]; exact kf114_
        refine w_imulB dX12_text__108 li_50 (rfl : z126_.toInt = z126_.toInt) (lf_c_X12_hasText_0 z126_ h128_ ) (fun z130_ h131_ => ?_)
        refine w_iaddB dX12_text__109 li_345 (rfl : z130_.toInt = z130_.toInt) (lf_c_X12_hasText_1 z126_ z130_ h128_ h131_ ) (fun z132_ h133_ => ?_)
        refine w_aload_n dX12_text__110 rfl 0 rfl ?_
        refine w_getI fl_RX12_162 rfl rfl ic_12 dX12_text__111 (fun z134_ e135_ => ?_)
        have h136_ : 0 ≤ z134_.toInt ∧ z134_.toInt ≤ 49 := ofEq (P := fun v => 0 ≤ v.toInt ∧ v.toInt ≤ 49) e135_ (hI125_.1 (12, 0, 0) 14)
        have h137_ : z134_.toInt ≤ 48 := by rw [e135_]; exact kf118_
        refine w_iast DD_nd rfl rfl ic_50 (rfl : z132_.toInt = z132_.toInt) (lf_c_X12_hasText_2 z126_ z130_ z132_ h128_ h131_ h133_ ) dX12_text__114 (fun j140_ h141_ M138_ hM139_ => ?_)
        have hI142_ := hI125_.putT hM139_ (lf_c_X12_text__12 v z126_ z130_ z132_ j140_ h4_ h129_ h131_ h133_ h141_ )
        have hF143_ := hF113_.put hM139_ (Or.inr (Or.inr (Or.inr (Or.inr (Or.inr (Or.inr (Or.inr (Or.inr (Or.inl ⟨rfl, rfl⟩)))))))))
        have kf144_ : (M138_.1 (12, 0, 0) 10).toInt = v.toInt := by rw [(show M138_.1 (12, 0, 0) 10 = M110_.1 (12, 0, 0) 10 by rw [hM139_, up_ne (by simp)])]; exact kf114_
        have kf145_ : M138_.1 (12, 0, 0) 13 = 0 := by rw [(show M138_.1 (12, 0, 0) 13 = M110_.1 (12, 0, 0) 13 by rw [hM139_, up_ne (by simp)])]; exact kf115_
        have kf146_ : (M138_.1 (12, 0, 0) 13).toInt = 0 := by rw [(show M138_.1 (12, 0, 0) 13 = M110_.1 (12, 0, 0) 13 by rw [hM139_, up_ne (by simp)])]; exact kf116_
        have kf147_ : dpt (M138_.1 (57, 0, 0)) 0 (M138_.1 (12, 0, 0) 14).toInt.toNat = some 1 := by rw [(show M138_.1 (57, 0, 0) = M110_.1 (57, 0, 0) by rw [hM139_]; exact up_other _ _ (by simp)), (show M138_.1 (12, 0, 0) 14 = M110_.1 (12, 0, 0) 14 by rw [hM139_, up_ne (by simp)])]; exact kf117_
        have kf148_ : (M138_.1 (12, 0, 0) 14).toInt ≤ 48 := by rw [(show M138_.1 (12, 0, 0) 14 = M110_.1 (12, 0, 0) 14 by rw [hM139_, up_ne (by simp)])]; exact kf118_
        have h149_ : TX M138_ v.toInt.toNat 0 := TX_0 kf118_ (by rw [← e135_]; exact (lf_c_X12_text__13 z134_ h136_ )) kf117_ hM139_ e135_ (lf_c_X12_text__14 v z126_ z130_ z132_ j140_ h4_ h129_ h131_ h133_ h141_ )
        refine w_iconst (v := 0) dX12_text__115 (by decide) ?_
        refine w_istore_n (ls' := [(2, vI 0), (0, vR (12, 0, 0)), (1, vI v)]) dX12_text__116 rfl (by decide) rfl ?_
        have lp150_ : ∀ (nn_117 : Nat) (M_117 : mM) (hI_117 : InvT v.toInt.toNat M_117) (hF_117 : FR (S_c_X12_text_) Mz M_117) (v2_117 : Int32) (hv0_117 : 0 ≤ v2_117.toInt) (hv1_117 : v2_117.toInt ≤ 49) (hv2_117 : TX M_117 v.toInt.toNat v2_117.toInt) (kv0_117 : (M_117.1 (12, 0, 0) 10).toInt = v.toInt) (kv1_117 : M_117.1 (12, 0, 0) 13 = 0) (kv2_117 : (M_117.1 (12, 0, 0) 13).toInt = 0) (kv3_117 : dpt (M_117.1 (57, 0, 0)) 0 (M_117.1 (12, 0, 0) 14).toInt.toNat = some 1) (kv4_117 : (M_117.1 (12, 0, 0) 14).toInt ≤ 48) (hL_117 : RCH (fun x_ y_ => ST_X12_text__117 v Mz x_.1 x_.2 y_.1 y_.2) ((0 : Int32), M138_) (v2_117, M_117)), (49 - v2_117.toInt).toNat < nn_117 → WP DD l G cy ad yX12_text_ cX12_text_ 3 (some .int) (d + 73) 117 [(2, vI v2_117), (0, vR (12, 0, 0)), (1, vI v)] [] M_117 (fun r M' => InvD M' ∧ FR (S_c_X12_text_) Mz M' ∧ (True) ∧ SP_X12_text_ v Mz r M') := by
          intro nn_117
          induction nn_117 with
          | zero => intro M_117 hI_117 hF_117 v2_117 hv0_117 hv1_117 hv2_117 kv0_117 kv1_117 kv2_117 kv3_117 kv4_117 hL_117 hm_117; exact absurd hm_117 (Nat.not_lt_zero _)
          | succ nn_117 ih_117 =>
            intro M_117 hI_117 hF_117 v2_117 hv0_117 hv1_117 hv2_117 kv0_117 kv1_117 kv2_117 kv3_117 kv4_117 hL_117 hm_117
            refine w_iload_n dX12_text__117 rfl 0 rfl ?_
            refine w_aload_n dX12_text__118 rfl 1 rfl ?_
            refine w_getI fl_RX12_162 rfl rfl ic_12 dX12_text__119 (fun z151_ e152_ => ?_)
            have h153_ : 0 ≤ z151_.toInt ∧ z151_.toInt ≤ 49 := ofEq (P := fun v => 0 ≤ v.toInt ∧ v.toInt ≤ 49) e152_ (hI_117.1 (12, 0, 0) 14)
            have h154_ : z151_.toInt ≤ 48 := by rw [e152_]; exact kv4_117
            refine w_icmp_ge (tgt := 157) dX12_text__122 (by decide) (rfl : v2_117.toInt = v2_117.toInt) (rfl : z151_.toInt = z151_.toInt) (fun h155_ => ?_) (fun h155_ => ?_)
            · have hI156_ : InvD M_117 := TX_end hv2_117 hI_117 (lf_c_X12_text__15 v h4_ ) e152_ (lf_c_X12_findTold_7 v2_117 z151_ h155_ )
              refine w_aload_n dX12_text__157 rfl 1 rfl ?_
              refine w_getI fl_RX12_203 rfl rfl ic_12 dX12_text__158 (fun z157_ e158_ => ?_)
              exact w_iret rfl dX12_text__161 ⟨hI156_, hF_117, trivial, (Or.inl ⟨hs5_, h4_, M7_, hM8_, M12_, hM13_, M18_, hM19_, M25_, hM26_, M32_, hM33_, M39_, hM40_, hI41_, M48_, hI51_, hF52_, hs54_, z56_, e57_, h58_, (Or.inr ⟨h60_, M88_, hI91_, hF92_, r87_, hs94_, h98_, (Or.inl ⟨h99_, M100_, hM101_, h105_, h108_, M110_, hM111_, z119_, e120_, h121_, h122_, h123_, h124_, z126_, e127_, h128_, h129_, z130_, h131_, z132_, h133_, z134_, e135_, h136_, h137_, j140_, h141_, M138_, hM139_, v2_117, hv0_117, hv1_117, M_117, hv2_117, hL_117, hI_117, hF_117, z151_, e152_, h153_, h154_, h155_, z157_, e158_, rfl, rfl⟩)⟩)⟩)⟩
            · refine w_aload_n dX12_text__125 rfl 1 rfl ?_
              refine w_getR (c' := (50, 0, 0)) fl_RX12_9 rfl rfl ic_12 dX12_text__126 rfl ?_
              refine w_sipush (v := 345) dX12_text__129 (by decide) ?_
              refine w_bipush (v := 50) dX12_text__132 (by decide) ?_
              refine w_aload_n dX12_text__134 rfl 1 rfl ?_
              refine w_getI fl_RX12_181 rfl rfl ic_12 dX12_text__135 (fun z159_ e160_ => ?_)
              have h161_ : 0 ≤ z159_.toInt ∧ z159_.toInt ≤ 2 := ofEq (P := fun v => 0 ≤ v.toInt ∧ v.toInt ≤ 2) e160_ (hI_117.1 (12, 0, 0) 10)
              have h162_ : z159_.toInt = v.toInt := by rw [e160_]; exact kv0_117
              refine w_imulB dX12_text__138 li_50 (rfl : z159_.toInt = z159_.toInt) (lf_c_X12_hasText_0 z159_ h161_ ) (fun z163_ h164_ => ?_)
              refine w_iaddB dX12_text__139 li_345 (rfl : z163_.toInt = z163_.toInt) (lf_c_X12_hasText_1 z159_ z163_ h161_ h164_ ) (fun z165_ h166_ => ?_)
              refine w_iconst (v := 1) dX12_text__140 (by decide) ?_
              refine w_iaddB dX12_text__141 (rfl : z165_.toInt = z165_.toInt) li_1 (lf_c_X12_given_2 z159_ z163_ z165_ h161_ h164_ h166_ ) (fun z167_ h168_ => ?_)
              refine w_iload_n dX12_text__142 rfl 0 rfl ?_
              refine w_iaddB dX12_text__143 (rfl : z167_.toInt = z167_.toInt) (rfl : v2_117.toInt = v2_117.toInt) (lf_c_X12_text__20 v2_117 z159_ z163_ z165_ z167_ hv0_117 hv1_117 h161_ h164_ h166_ h168_ ) (fun z169_ h170_ => ?_)
              refine w_aload_n dX12_text__144 rfl 1 rfl ?_
              refine w_getR (c' := (57, 0, 0)) fl_RX12_44 rfl rfl ic_12 dX12_text__145 rfl ?_
              refine w_iload_n dX12_text__148 rfl 0 rfl ?_
              refine w_iald rfl rfl ic_57 (rfl : v2_117.toInt = v2_117.toInt) (lf_c_X12_text__21 v2_117 z151_ hv0_117 h154_ h155_ ) dX12_text__149 (fun j173_ h174_ z171_ e172_ => ?_)
              refine w_iast DD_nd rfl rfl ic_50 (rfl : z169_.toInt = z169_.toInt) (lf_c_X12_text__22 v2_117 z159_ z163_ z165_ z167_ z169_ hv0_117 hv1_117 h161_ h164_ h166_ h168_ h170_ ) dX12_text__150 (fun j177_ h178_ M175_ hM176_ => ?_)
              have hI179_ := hI_117.putT hM176_ (lf_c_X12_text__23 v v2_117 z151_ z159_ z163_ z165_ z167_ z169_ j177_ h4_ hv0_117 h154_ h155_ h162_ h164_ h166_ h168_ h170_ h178_ )
              have hF180_ := hF_117.put hM176_ (Or.inr (Or.inr (Or.inr (Or.inr (Or.inr (Or.inr (Or.inr (Or.inr (Or.inl ⟨rfl, rfl⟩)))))))))
              have kf181_ : (M175_.1 (12, 0, 0) 10).toInt = v.toInt := by rw [(show M175_.1 (12, 0, 0) 10 = M_117.1 (12, 0, 0) 10 by rw [hM176_, up_ne (by simp)])]; exact kv0_117
              have kf182_ : M175_.1 (12, 0, 0) 13 = 0 := by rw [(show M175_.1 (12, 0, 0) 13 = M_117.1 (12, 0, 0) 13 by rw [hM176_, up_ne (by simp)])]; exact kv1_117
              have kf183_ : (M175_.1 (12, 0, 0) 13).toInt = 0 := by rw [(show M175_.1 (12, 0, 0) 13 = M_117.1 (12, 0, 0) 13 by rw [hM176_, up_ne (by simp)])]; exact kv2_117
              have kf184_ : dpt (M175_.1 (57, 0, 0)) 0 (M175_.1 (12, 0, 0) 14).toInt.toNat = some 1 := by rw [(show M175_.1 (57, 0, 0) = M_117.1 (57, 0, 0) by rw [hM176_]; exact up_other _ _ (by simp)), (show M175_.1 (12, 0, 0) 14 = M_117.1 (12, 0, 0) 14 by rw [hM176_, up_ne (by simp)])]; exact kv3_117
              have kf185_ : (M175_.1 (12, 0, 0) 14).toInt ≤ 48 := by rw [(show M175_.1 (12, 0, 0) 14 = M_117.1 (12, 0, 0) 14 by rw [hM176_, up_ne (by simp)])]; exact kv4_117
              refine w_iincB (j := 0) (f := fun z186_ => [(2, vI z186_), (0, vR (12, 0, 0)), (1, vI v)]) dX12_text__151 rfl (by decide) (fun _ => rfl) (rfl : v2_117.toInt = v2_117.toInt) li_1 (lf_c_X12_text__24 v2_117 hv0_117 hv1_117 ) (fun z186_ h187_ => ?_)
              refine w_goto (tgt := 117) dX12_text__154 (by decide) ?_
              refine w_loc (ls' := [(2, vI z186_), (0, vR (12, 0, 0)), (1, vI v)]) [0, 1, 2] rfl ?_
              exact ih_117 M175_ hI179_ hF180_ z186_ (lf_c_X5_takeFrom_3 v2_117 z186_ hv0_117 h187_ ) (lf_c_X12_text__26 v2_117 z151_ z186_ h154_ h155_ h187_ ) (TX_s hv2_117 hM176_ e172_ (lf_c_X12_text__27 v v2_117 z159_ z163_ z165_ z167_ z169_ j177_ h4_ h162_ h164_ h166_ h168_ h170_ h178_ ) (lf_c_X12_lays_6 v2_117 j173_ h174_ ) (lf_c_X12_given_13 v2_117 hv0_117 ) (lf_c_X12_given_25 v2_117 z186_ h187_ )) kf181_ kf182_ kf183_ kf184_ kf185_ (RCH.tail hL_117 ⟨hv0_117, hv1_117, hv2_117, hI_117, hF_117, z151_, e152_, h153_, h154_, h155_, z159_, e160_, h161_, h162_, z163_, h164_, z165_, h166_, z167_, h168_, z169_, h170_, j173_, h174_, z171_, e172_, j177_, h178_, M175_, hM176_, z186_, h187_, rfl, rfl⟩) (Nat.lt_of_lt_of_le (lf_c_X12_text__31 v2_117 z151_ z186_ h154_ h155_ h187_ ) (Nat.le_of_lt_succ hm_117))
        exact lp150_ _ M138_ hI142_ hF143_ 0 (lf_c_X5_takeFrom_5 ) (lf_c_X12_text__33 ) (by rw [li_0]; exact h149_) kf144_ kf145_ kf146_ kf147_ kf148_ RCH.refl (Nat.lt_succ_self _)
      · refine w_iconst (v := 1) dX12_text__65 (by decide) ?_
        refine w_goto (tgt := 70) dX12_text__66 (by decide) ?_
        refine w_putZ DD_nd fl_RX12_151 rfl rfl ic_12 ⟨by decide, by decide⟩ dX12_text__70 (fun M188_ hM189_ => ?_)
        have hI190_ := hI91_.put hM189_ ⟨⟨by decide, by decide⟩, Or.inl (by decide)⟩
        have hF191_ := hF93_.put hM189_ (Or.inr (Or.inr (Or.inr (Or.inr (Or.inl ⟨rfl, rfl, rfl⟩)))))
        have kf192_ : (M188_.1 (12, 0, 0) 10).toInt = v.toInt := by rw [(show M188_.1 (12, 0, 0) 10 = M88_.1 (12, 0, 0) 10 by rw [hM189_, up_ne (by simp)])]; exact kf95_
        have h193_ : PP M188_ 0 1 0 (M39_.1 (50, 0, 0) 4).toInt := PP_put1 h97_ hM189_
        have kf194_ : M188_.1 (12, 0, 0) 13 = 1 := up_s hM189_
        have kf195_ : (M188_.1 (12, 0, 0) 13).toInt = 1 := by rw [kf194_]; decide
        refine w_aload_n dX12_text__73 rfl 0 rfl ?_
        refine w_getR (c' := (50, 0, 0)) fl_RX12_9 rfl rfl ic_12 dX12_text__74 rfl ?_
        refine w_iconst (v := 4) dX12_text__77 (by decide) ?_
        refine w_iconst (v := 0) dX12_text__78 (by decide) ?_
        refine w_iastL 4 DD_nd rfl rfl ic_50 li_4 (by decide) dX12_text__79 (fun M196_ hM197_ => ?_)
        have hI198_ := hI190_.put50 hM197_ (lf_c_X12_text__3 )
        have hF199_ := hF191_.put hM197_ (Or.inr (Or.inr (Or.inr (Or.inr (Or.inr (Or.inr (Or.inr (Or.inl ⟨rfl, rfl, rfl⟩))))))))
        have kf200_ : (M196_.1 (12, 0, 0) 10).toInt = v.toInt := by rw [(show M196_.1 (12, 0, 0) 10 = M188_.1 (12, 0, 0) 10 by rw [hM197_, up_ne (by simp)])]; exact kf192_
        have kf201_ : M196_.1 (12, 0, 0) 13 = 1 := by rw [(show M196_.1 (12, 0, 0) 13 = M188_.1 (12, 0, 0) 13 by rw [hM197_, up_ne (by simp)])]; exact kf194_
        have kf202_ : (M196_.1 (12, 0, 0) 13).toInt = 1 := by rw [(show M196_.1 (12, 0, 0) 13 = M188_.1 (12, 0, 0) 13 by rw [hM197_, up_ne (by simp)])]; exact kf195_
        refine w_aload_n dX12_text__80 rfl 0 rfl ?_
        refine w_getI fl_RX12_151 rfl rfl ic_12 dX12_text__81 (fun z203_ e204_ => ?_)
        have h205_ : 0 ≤ z203_.toInt ∧ z203_.toInt ≤ 1 := ofEq (P := fun v => 0 ≤ v.toInt ∧ v.toInt ≤ 1) e204_ (hI198_.1 (12, 0, 0) 13)
        have h206_ : z203_ = 1 := by rw [e204_]; exact kf201_
        have h207_ : z203_.toInt = 1 := by rw [e204_]; exact kf202_
        refine w_if_eq (tgt := 95) dX12_text__84 (by decide) (rfl : z203_.toInt = z203_.toInt) (fun h9 => (lf_c_X2_changeAir_0 z203_ h207_ h9 ).elim) (fun h208_ => ?_)
        refine w_bipush (v := (-10)) dX12_text__87 (by decide) ?_
        refine w_aload_n dX12_text__89 rfl 0 rfl ?_
        refine w_getI fl_RX12_155 rfl rfl ic_12 dX12_text__90 (fun z209_ e210_ => ?_)
        have h211_ : 0 ≤ z209_.toInt ∧ z209_.toInt ≤ 48 := ofEq (P := fun v => 0 ≤ v.toInt ∧ v.toInt ≤ 48) e210_ (hI198_.1 (12, 0, 0) 9)
        refine w_isubB dX12_text__93 li_m10 (rfl : z209_.toInt = z209_.toInt) (lf_c_X12_text__5 z209_ h211_ ) (fun z212_ h213_ => ?_)
        exact w_iret rfl dX12_text__94 ⟨hI198_, hF199_, trivial, (Or.inl ⟨hs5_, h4_, M7_, hM8_, M12_, hM13_, M18_, hM19_, M25_, hM26_, M32_, hM33_, M39_, hM40_, hI41_, M48_, hI51_, hF52_, hs54_, z56_, e57_, h58_, (Or.inr ⟨h60_, M88_, hI91_, hF92_, r87_, hs94_, h98_, (Or.inr ⟨h99_, M188_, hM189_, h193_, M196_, hM197_, z203_, e204_, h205_, h206_, h207_, h208_, z209_, e210_, h211_, z212_, h213_, rfl, rfl⟩)⟩)⟩)⟩
  · simp only [li_0, li_2] at h4_
    refine w_if_ne (tgt := 16) dX12_text__6 (by decide) li_0 (fun h9 => (absurd h9 (by decide))) (fun h214_ => ?_)
    refine w_aload_n dX12_text__9 rfl 0 rfl ?_
    refine w_ldc (v := (-1000001)) m_1433 dX12_text__10 ?_
    refine w_callV (as := [vI (-1000001)]) (rest := []) (c_X12_finding l G cy ad (d + 72) (-1000001) Mz hIz (by first | decide | (unfold vF; omega) | (unfold vRw; omega))) kV_X12_finding pnn_17 (Nat.le_of_ble_eq_true rfl) m_1434 rfl rfl rfl ic_12 rfl rfl (by decide) (Nat.le_of_ble_eq_true rfl) dX12_text__12 (fun r215_ M216_ q217_ => ?_)
    obtain ⟨hI219_, hF220_, h218_, hs222_⟩ := q217_
    have hF221_ := hFz.tr hF220_ (fun c k => (fun h => h.elim (fun h => (Or.inr (Or.inr (Or.inr (Or.inr (Or.inr (Or.inr (Or.inr (Or.inr (Or.inr (Or.inl ⟨h.1, h.2⟩))))))))))) (fun h => h.elim)))
    simp only [li_m1000001] at h218_
    exact w_iret rfl dX12_text__15 ⟨hI219_, hF221_, trivial, (Or.inr ⟨hs5_, h4_, M216_, hI219_, hF220_, r215_, hs222_, h218_, rfl, rfl⟩)⟩
end
section
/-! ways: neighbours, costs, how far -/
def nbP (c s n : Nat) : Prop := n < 192 ∧ ((s = 0 ∧ n + 16 = c) ∨ (s = 2 ∧ ¬ c % 16 = 15 ∧ n = c + 1) ∨ (s = 4 ∧ n = c + 16) ∨ (s = 6 ∧ ¬ c % 16 = 0 ∧ n + 1 = c))
def XQ (c k : Nat) : Int := (c : Int) % 16 + (if k = 1 then 1 else if k = 3 then -1 else 0)
def YQ (c k : Nat) : Int := (c : Int) / 16 + (if k = 0 then -1 else if k = 2 then 1 else 0)
theorem onq : ∀ c, c < 192 → ∀ k, k < 4 → (onX (nI c) (nI (2 * k)) 1).toInt = XQ c k ∧ (onY (nI c) (nI (2 * k)) 1).toInt = YQ c k := by decide +kernel
/-- on() by one yard, to the four sides -/
theorem on1 {v u r : Int32} (h : onP v u 1 r) (hv : 0 ≤ v.toInt ∧ v.toInt ≤ 191) (hu : u.toInt = 0 ∨ u.toInt = 2 ∨ u.toInt = 4 ∨ u.toInt = 6) : (r.toInt = -1 ∧ ∀ n, ¬ nbP v.toInt.toNat u.toInt.toNat n) ∨ (0 ≤ r.toInt ∧ r.toInt ≤ 191 ∧ nbP v.toInt.toNat u.toInt.toNat r.toInt.toNat) := by
  obtain ⟨c, hc⟩ : ∃ c : Nat, v.toInt = (c : Int) := ⟨v.toInt.toNat, by omega⟩
  obtain ⟨k, hk, hk4⟩ : ∃ k : Nat, u.toInt = ((2 * k : Nat) : Int) ∧ k < 4 := by
    rcases hu with q | q | q | q
    · exact ⟨0, by omega, by omega⟩
    · exact ⟨1, by omega, by omega⟩
    · exact ⟨2, by omega, by omega⟩
    · exact ⟨3, by omega, by omega⟩
  have q := onq c (by omega) k hk4
  rw [← nI_of_toInt hc, ← nI_of_toInt hk] at q
  unfold XQ YQ at q
  unfold onP onIn at h
  rw [q.1, q.2] at h
  unfold nbP
  rw [hc, hk]
  obtain rfl | rfl | rfl | rfl : k = 0 ∨ k = 1 ∨ k = 2 ∨ k = 3 := by omega
  all_goals
    simp at h
    rcases h with ⟨h, h2⟩ | ⟨h, h2⟩
    · right
      refine ⟨by omega, by omega, by omega, by omega⟩
    · left
      refine ⟨h2, fun n => by omega⟩
theorem nbP_sym {c s n : Nat} (h : nbP c s n) (hc : c < 192) : ∃ s', (s' = 0 ∨ s' = 2 ∨ s' = 4 ∨ s' = 6) ∧ nbP n s' c := by
  unfold nbP at *
  rcases h with ⟨h0, h | h | h | h⟩
  · exact ⟨4, by omega, hc, by omega⟩
  · exact ⟨6, by omega, hc, by omega⟩
  · exact ⟨0, by omega, hc, by omega⟩
  · exact ⟨2, by omega, hc, by omega⟩
theorem nbP_fun {c s n n' : Nat} (h : nbP c s n) (h' : nbP c s n') : n = n' := by
  unfold nbP at *
  omega
theorem nbP_s {c s n : Nat} (h : nbP c s n) : s = 0 ∨ s = 2 ∨ s = 4 ∨ s = 6 := by
  unfold nbP at h
  omega
def heldZ (f : Nat → Int32) (w : Int32) (c : Int) : Int := if (f (687 + 384 * w.toInt + c).toNat).toInt < (f (495 + 384 * w.toInt + c).toNat).toInt then 2 else if (f (495 + 384 * w.toInt + c).toNat).toInt < (f (687 + 384 * w.toInt + c).toNat).toInt then 1 else 0
def costZ (f : Nat → Int32) (w : Int32) (c : Int) : Int := if heldZ f w c = 1 then 1 else if heldZ f w c = 0 then 3 else 20
theorem costZ_b (f : Nat → Int32) (w : Int32) (c : Int) : 1 ≤ costZ f w c ∧ costZ f w c ≤ 20 := by
  unfold costZ
  split
  · omega
  · split <;> omega
theorem heldZ_of {f : Nat → Int32} {w : Int32} {c : Int} {j1 j2 : Nat} {z1 z2 : Int32} (h1 : (j1 : Int) = 495 + 384 * w.toInt + c) (h2 : (j2 : Int) = 687 + 384 * w.toInt + c) (e1 : z1 = f j1) (e2 : z2 = f j2) : heldZ f w c = if z2.toInt < z1.toInt then 2 else if z1.toInt < z2.toInt then 1 else 0 := by
  unfold heldZ
  rw [show (495 + 384 * w.toInt + c).toNat = j1 by omega, show (687 + 384 * w.toInt + c).toNat = j2 by omega, ← e1, ← e2]
def gq (f : Nat → Int32) (c : Nat) : Int := (f c).toInt
def FA (f : Nat → Int32) (t : Int) : Prop := ∀ c : Nat, c < 192 → 0 ≤ gq f c ∧ gq f c ≤ 1000000 ∧ ((c : Int) = t → gq f c = 0)
def FB (f g : Nat → Int32) (w : Int32) (t : Int) : Prop := ∀ c : Nat, c < 192 → ¬ (c : Int) = t → gq f c < 1000000 → ∃ s n : Nat, nbP c s n ∧ gq f n + costZ g w n ≤ gq f c
/-- all sides of the cells below k, and of cell k the sides below s, are done -/
def RX (f g : Nat → Int32) (w : Int32) (k s : Int) : Prop := ∀ c : Nat, c < 192 → ∀ s' n : Nat, nbP c s' n → ((c : Int) < k ∨ ((c : Int) = k ∧ (s' : Int) < s)) → gq f n ≤ gq f c + costZ g w c
def FF (f g : Nat → Int32) (w : Int32) (t : Int) : Prop := FA f t ∧ FB f g w t ∧ RX f g w 192 0
/-- the first loop -/
def FZ (f : Nat → Int32) (t k : Int) : Prop := ∀ c : Nat, (c : Int) < k → gq f c = if (c : Int) = t then 0 else 1000000
theorem gq_s (f : Nat → Int32) (j : Nat) (v : Int32) : gq (upd f j v) j = v.toInt := by unfold gq; rw [show upd f j v j = v from if_pos rfl]
theorem gq_o {f : Nat → Int32} {j i : Nat} {v : Int32} (h : ¬ i = j) : gq (upd f j v) i = gq f i := by unfold gq; rw [show upd f j v i = f i from if_neg h]
theorem FZ_step {M M' : mM} {j : Nat} {v : Int32} {t k k' : Int} (h : FZ (M.1 (61, 0, 0)) t k) (he : M' = up M (61, 0, 0) j v) (hj : (j : Int) = k) (hk : k' = k + 1) (hv : v.toInt = if k = t then 0 else 1000000) : FZ (M'.1 (61, 0, 0)) t k' := by
  intro c hc
  rw [he, up_row]
  by_cases e : c = j
  · rw [e, gq_s, hv, hj]
  · rw [gq_o e]; exact h c (by omega)
theorem FZ_end {f g : Nat → Int32} {w : Int32} {t k : Int} (h : FZ f t k) (hk : 192 ≤ k) : FA f t ∧ FB f g w t := by
  refine ⟨fun c hc => ?_, fun c hc ht hl => ?_⟩
  · rw [h c (by omega)]
    split <;> omega
  · rw [h c (by omega), if_neg ht] at hl
    omega
def smF (f : Nat → Int32) : Nat → Nat
  | 0 => 0
  | n + 1 => smF f n + (gq f n).toNat
theorem smF_o {f : Nat → Int32} {j : Nat} {v : Int32} : ∀ n, n ≤ j → smF (upd f j v) n = smF f n
  | 0, _ => rfl
  | n + 1, h => by
    show smF (upd f j v) n + _ = smF f n + _
    rw [smF_o n (by omega), gq_o (by omega)]
theorem smF_lt {f : Nat → Int32} {j : Nat} {v : Int32} (h0 : 0 ≤ v.toInt) (h : v.toInt < gq f j) : ∀ n, j < n → smF (upd f j v) n < smF f n
  | 0, hn => absurd hn (by omega)
  | n + 1, hn => by
    show smF (upd f j v) n + _ < smF f n + _
    by_cases e : n = j
    · rw [smF_o n (by omega), e, gq_s]
      omega
    · rw [gq_o e]
      have := smF_lt h0 h n (by omega)
      omega
/-- one cell comes nearer -/
theorem FI_put {f g : Nat → Int32} {w : Int32} {t : Int} {c s n : Nat} {v : Int32} (ha : FA f t) (hb : FB f g w t) (hc : c < 192) (hn : nbP c s n) (hv : v.toInt = gq f c + costZ g w c) (hl : v.toInt < gq f n) : FA (upd f n v) t ∧ FB (upd f n v) g w t := by
  have hcost := costZ_b g w c
  have hn1 : n < 192 := hn.1
  have hac := ha c hc
  have han := ha n hn1
  have hnc : ¬ c = n := fun q => by rw [← q] at hl; omega
  refine ⟨fun d hd => ?_, fun d hd ht hl2 => ?_⟩
  · by_cases e : d = n
    · rw [e, gq_s]
      exact ⟨by omega, by omega, fun q => by have := han.2.2 q; omega⟩
    · rw [gq_o e]; exact ha d hd
  · by_cases e : d = n
    · obtain ⟨s', h1, h2⟩ := nbP_sym hn hc
      refine ⟨s', c, by rw [e]; exact h2, ?_⟩
      rw [e, gq_s, gq_o hnc]
      omega
    · rw [gq_o e] at hl2 ⊢
      obtain ⟨s', m, h1, h2⟩ := hb d hd ht hl2
      refine ⟨s', m, h1, ?_⟩
      by_cases q : m = n
      · rw [q, gq_s]
        rw [q] at h2
        omega
      · rw [gq_o q]; exact h2
theorem RX_side {f g : Nat → Int32} {w : Int32} {k s s' : Int} (h : RX f g w k s) (hs : s' = s + 2) (hn : ∀ n : Nat, nbP k.toNat s.toNat n → gq f n ≤ gq f k.toNat + costZ g w k.toNat) (h0 : 0 ≤ k ∧ 0 ≤ s) (he : s % 2 = 0) : RX f g w k s' := by
  intro c hc s2 n hnb hq
  rcases hq with q | ⟨q1, q2⟩
  · exact h c hc s2 n hnb (Or.inl q)
  · have := nbP_s hnb
    rcases Int.lt_or_le (s2 : Int) s with q3 | q3
    · exact h c hc s2 n hnb (Or.inr ⟨q1, q3⟩)
    · have e1 : s2 = s.toNat := by omega
      have e2 : c = k.toNat := by omega
      rw [e1, e2] at hnb
      rw [e2]
      exact hn n hnb
theorem RX_cell {f g : Nat → Int32} {w : Int32} {k k' s : Int} (h : RX f g w k s) (hs : 8 ≤ s) (hk : k' = k + 1) : RX f g w k' 0 := by
  intro c hc s2 n hnb hq
  have := nbP_s hnb
  exact h c hc s2 n hnb (by omega)
theorem RX_0 {f g : Nat → Int32} {w : Int32} : RX f g w 0 0 := fun c hc s n hnb hq => by omega
/-- all cells are near -/
theorem FF_near {f g : Nat → Int32} {w : Int32} {t : Int} (h : FF f g w t) (ht : 0 ≤ t ∧ t < 192) : ∀ c : Nat, c < 192 → gq f c < 1000000 := by
  have key : ∀ k : Nat, ∀ c : Nat, c < 192 → ((c % 16 : Nat) : Int) - t % 16 ≤ k ∧ t % 16 - ((c % 16 : Nat) : Int) ≤ k ∧ ((c / 16 : Nat) : Int) - t / 16 ≤ k ∧ t / 16 - ((c / 16 : Nat) : Int) ≤ k ∧ (((c % 16 : Nat) : Int) - t % 16) + (((c / 16 : Nat) : Int) - t / 16) ≤ k ∧ (((c % 16 : Nat) : Int) - t % 16) + (t / 16 - ((c / 16 : Nat) : Int)) ≤ k ∧ (t % 16 - ((c % 16 : Nat) : Int)) + (((c / 16 : Nat) : Int) - t / 16) ≤ k ∧ (t % 16 - ((c % 16 : Nat) : Int)) + (t / 16 - ((c / 16 : Nat) : Int)) ≤ k → gq f c ≤ 20 * k := by
    intro k
    induction k with
    | zero =>
      intro c hc hd
      have e : (c : Int) = t := by omega
      rw [(h.1 c hc).2.2 e]; omega
    | succ k ih =>
      intro c hc hd
      by_cases e : (c : Int) = t
      · rw [(h.1 c hc).2.2 e]; omega
      · have go : ∀ p s : Nat, p < 192 → nbP p s c → (((p % 16 : Nat) : Int) - t % 16 ≤ k ∧ t % 16 - ((p % 16 : Nat) : Int) ≤ k ∧ ((p / 16 : Nat) : Int) - t / 16 ≤ k ∧ t / 16 - ((p / 16 : Nat) : Int) ≤ k ∧ (((p % 16 : Nat) : Int) - t % 16) + (((p / 16 : Nat) : Int) - t / 16) ≤ k ∧ (((p % 16 : Nat) : Int) - t % 16) + (t / 16 - ((p / 16 : Nat) : Int)) ≤ k ∧ (t % 16 - ((p % 16 : Nat) : Int)) + (((p / 16 : Nat) : Int) - t / 16) ≤ k ∧ (t % 16 - ((p % 16 : Nat) : Int)) + (t / 16 - ((p / 16 : Nat) : Int)) ≤ k) → gq f c ≤ 20 * ((k + 1 : Nat) : Int) := fun p s hp hn hd2 => by
          have h1 := ih p hp hd2
          have h2 := h.2.2 p hp s c hn (Or.inl (by omega))
          have h3 := costZ_b g w p
          omega
        by_cases q1 : ((c % 16 : Nat) : Int) < t % 16
        · exact go (c + 1) 6 (by omega) ⟨hc, by omega⟩ (by omega)
        · by_cases q2 : t % 16 < ((c % 16 : Nat) : Int)
          · exact go (c - 1) 2 (by omega) ⟨hc, by omega⟩ (by omega)
          · by_cases q3 : ((c / 16 : Nat) : Int) < t / 16
            · exact go (c + 16) 0 (by omega) ⟨hc, by omega⟩ (by omega)
            · exact go (c - 16) 4 (by omega) ⟨hc, by omega⟩ (by omega)
  intro c hc
  have := key 30 c hc (by omega)
  omega
theorem FF_wit {f g : Nat → Int32} {w : Int32} {t : Int} (h : FF f g w t) (ht : 0 ≤ t ∧ t < 192) {c : Nat} (hc : c < 192) (hct : ¬ (c : Int) = t) : ∃ s n : Nat, nbP c s n ∧ gq f n + costZ g w n = gq f c := by
  obtain ⟨s, n, h1, h2⟩ := h.2.1 c hc hct (FF_near h ht c hc)
  obtain ⟨s', h3, h4⟩ := nbP_sym h1 hc
  have h5 := h.2.2 n h1.1 s' c h4 (Or.inl (by have := h1.1; omega))
  exact ⟨s, n, h1, by omega⟩
theorem FI_putM {M M' : mM} {w z : Int32} {t : Int} {c s r j : Nat} (ha : FA (M.1 (61, 0, 0)) t) (hb : FB (M.1 (61, 0, 0)) (M.1 (50, 0, 0)) w t) (he : M' = up M (61, 0, 0) j z) (hc : c < 192) (hn : nbP c s r) (hj : j = r) (hv : z.toInt = gq (M.1 (61, 0, 0)) c + costZ (M.1 (50, 0, 0)) w c) (hl : z.toInt < gq (M.1 (61, 0, 0)) j) : FA (M'.1 (61, 0, 0)) t ∧ FB (M'.1 (61, 0, 0)) (M'.1 (50, 0, 0)) w t ∧ smF (M'.1 (61, 0, 0)) 192 < smF (M.1 (61, 0, 0)) 192 ∧ z.toInt = gq (M'.1 (61, 0, 0)) c + costZ (M'.1 (50, 0, 0)) w c := by
  subst hj
  have e0 : M'.1 (61, 0, 0) = upd (M.1 (61, 0, 0)) j z := by rw [he, up_row]
  have e1 : M'.1 (50, 0, 0) = M.1 (50, 0, 0) := by rw [he]; exact up_other _ _ (by decide)
  have hcost := costZ_b (M.1 (50, 0, 0)) w c
  have hac := ha c hc
  have hnc : ¬ c = j := fun q => by rw [← q] at hl; omega
  have h := FI_put ha hb hc hn hv hl
  rw [e0, e1]
  exact ⟨h.1, h.2, smF_lt (by omega) hl 192 hn.1, by rw [gq_o hnc]; exact hv⟩
theorem RX_none {f g : Nat → Int32} {w : Int32} {k s s' : Int} (h : RX f g w k s) (hs : s' = s + 2) (h0 : 0 ≤ k ∧ 0 ≤ s) (he : s % 2 = 0) (hn : ∀ n : Nat, ¬ nbP k.toNat s.toNat n) : RX f g w k s' := RX_side h hs (fun n q => absurd q (hn n)) h0 he
theorem RX_some {f g : Nat → Int32} {w z v : Int32} {k s s' : Int} {r j : Nat} (h : RX f g w k s) (hs : s' = s + 2) (h0 : 0 ≤ k ∧ 0 ≤ s) (he : s % 2 = 0) (hn : nbP k.toNat s.toNat r) (hz : z = f j) (hj : j = r) (hv : v.toInt = gq f k.toNat + costZ g w (k.toNat : Nat)) (hl : z.toInt ≤ v.toInt) : RX f g w k s' := RX_side h hs (fun n q => by
  rw [nbP_fun q hn, ← hj]
  show (f j).toInt ≤ _
  rw [← hz]
  omega) h0 he
theorem RX_e {f g : Nat → Int32} {w : Int32} {k k' s s' : Int} (h : RX f g w k s) (hk : k' = k) (hs : s' = s) : RX f g w k' s' := by rw [hk, hs]; exact h
/-- a side from k on is right -/
def WI (f g : Nat → Int32) (w : Int32) (c : Nat) (k : Int) : Prop := ∃ s n : Nat, nbP c s n ∧ k ≤ (s : Int) ∧ gq f n + costZ g w n = gq f c
theorem WI_le {f g : Nat → Int32} {w : Int32} {c : Nat} {k : Int} (h : WI f g w c k) : k ≤ 6 := by
  obtain ⟨s, n, h1, h2, h3⟩ := h
  have := nbP_s h1
  omega
theorem WI_0 {f g : Nat → Int32} {w : Int32} {t k : Int} {c : Nat} (h : FF f g w t) (ht : 0 ≤ t ∧ t < 192) (hc : c < 192) (hct : ¬ (c : Int) = t) (hk : k = 0) : WI f g w c k := by
  obtain ⟨s, n, h1, h2⟩ := FF_wit h ht hc hct
  exact ⟨s, n, h1, by omega, h2⟩
theorem WI_s {f g : Nat → Int32} {w : Int32} {c : Nat} {k k' : Int} (h : WI f g w c k) (he : k % 2 = 0) (hk : k' = k + 2) (hn : ∀ n : Nat, nbP c k.toNat n → ¬ gq f n + costZ g w n = gq f c) : WI f g w c k' := by
  obtain ⟨s, n, h1, h2, h3⟩ := h
  have hs := nbP_s h1
  refine ⟨s, n, h1, ?_, h3⟩
  rcases Int.lt_or_le k s with q | q
  · omega
  · exfalso
    have e : s = k.toNat := by omega
    rw [e] at h1
    exact hn n h1 h3
theorem WI_no {f g : Nat → Int32} {w z zc r2 r3 rc : Int32} {c j jc : Nat} {k x : Int} (h2 : nbP c k.toNat r2.toInt.toNat) (h3 : nbP c k.toNat r3.toInt.toNat) (h30 : 0 ≤ r3.toInt) (hz : z = f j) (hj : (j : Int) = r2.toInt) (hzc : zc = f jc) (hjc : jc = c) (hr : rc.toInt = costZ g w r3.toInt) (hx : x = z.toInt + rc.toInt) (hne : ¬ x = zc.toInt) : ∀ n : Nat, nbP c k.toNat n → ¬ gq f n + costZ g w n = gq f c := by
  intro n hn q
  have e2 : n = r2.toInt.toNat := nbP_fun hn h2
  have e3 : n = r3.toInt.toNat := nbP_fun hn h3
  refine hne ?_
  rw [hx, hz, hzc, hr, hjc]
  have e4 : j = n := by omega
  have e5 : r3.toInt = (n : Int) := by omega
  rw [e4, e5]
  exact q
end
section
/-! words of the tables that are used, by their places; decode rows; fields -/
end
section
def SP_heldZ (v : Int32) (u : Int32) (Mz : mM) (r_ : Int32) : Prop := ∃ r1_ : Int32, (SP_X12_yes v u Mz r1_) ∧ (r1_.toInt = 495 + 384 * v.toInt + u.toInt) ∧ ∃ j8_ : Nat, ((j8_ : Int) = r1_.toInt) ∧ ∃ z6_ : Int32, (z6_ = Mz.1 (50, 0, 0) j8_) ∧ ∃ r10_ : Int32, (SP_X12_no v u Mz r10_) ∧ (r10_.toInt = 687 + 384 * v.toInt + u.toInt) ∧ ∃ j17_ : Nat, ((j17_ : Int) = r10_.toInt) ∧ ∃ z15_ : Int32, (z15_ = Mz.1 (50, 0, 0) j17_) ∧ (((z6_.toInt ≤ z15_.toInt) ∧ (((z15_.toInt ≤ z6_.toInt) ∧ r_ = 0) ∨ ((z6_.toInt < z15_.toInt) ∧ r_ = 1))) ∨ ((z15_.toInt < z6_.toInt) ∧ r_ = 2))
theorem lf_c_heldZ_2 (Mz : mM) (v : Int32) (u : Int32) (r1_ : Int32) (j8_ : Nat) (z6_ : Int32) (r10_ : Int32) (j17_ : Nat) (z15_ : Int32) (hv : 0 ≤ v.toInt ∧ v.toInt ≤ 7) (hu : -1 ≤ u.toInt ∧ u.toInt ≤ 191) (h4_ : r1_.toInt = 495 + 384 * v.toInt + u.toInt) (h9_ : (j8_ : Int) = r1_.toInt) (e7_ : z6_ = Mz.1 (50, 0, 0) j8_) (h13_ : r10_.toInt = 687 + 384 * v.toInt + u.toInt) (h18_ : (j17_ : Int) = r10_.toInt) (e16_ : z15_ = Mz.1 (50, 0, 0) j17_) (h19_ : z6_.toInt ≤ z15_.toInt) (h20_ : z15_.toInt ≤ z6_.toInt) : (0 : Int32).toInt = if z15_.toInt < z6_.toInt then 2 else if z6_.toInt < z15_.toInt then 1 else 0 := by have r_v := rngI v; have r_u := rngI u; have r_r1_ := rngI r1_; have r_z6_ := rngI z6_; have r_r10_ := rngI r10_; have r_z15_ := rngI z15_; have q0 := li_0; (repeat' split) <;> omega
theorem lf_c_heldZ_3 (v : Int32) (u : Int32) (r1_ : Int32) (j8_ : Nat) (h4_ : r1_.toInt = 495 + 384 * v.toInt + u.toInt) (h9_ : (j8_ : Int) = r1_.toInt) : (j8_ : Int) = 495 + 384 * v.toInt + u.toInt := by omega
theorem lf_c_heldZ_4 (v : Int32) (u : Int32) (r10_ : Int32) (j17_ : Nat) (h13_ : r10_.toInt = 687 + 384 * v.toInt + u.toInt) (h18_ : (j17_ : Int) = r10_.toInt) : (j17_ : Int) = 687 + 384 * v.toInt + u.toInt := by omega
theorem lf_c_heldZ_5 (Mz : mM) (v : Int32) (u : Int32) (r1_ : Int32) (j8_ : Nat) (z6_ : Int32) (r10_ : Int32) (j17_ : Nat) (z15_ : Int32) (hv : 0 ≤ v.toInt ∧ v.toInt ≤ 7) (hu : -1 ≤ u.toInt ∧ u.toInt ≤ 191) (h4_ : r1_.toInt = 495 + 384 * v.toInt + u.toInt) (h9_ : (j8_ : Int) = r1_.toInt) (e7_ : z6_ = Mz.1 (50, 0, 0) j8_) (h13_ : r10_.toInt = 687 + 384 * v.toInt + u.toInt) (h18_ : (j17_ : Int) = r10_.toInt) (e16_ : z15_ = Mz.1 (50, 0, 0) j17_) (h19_ : z6_.toInt ≤ z15_.toInt) (h20_ : z6_.toInt < z15_.toInt) : (1 : Int32).toInt = if z15_.toInt < z6_.toInt then 2 else if z6_.toInt < z15_.toInt then 1 else 0 := by have r_v := rngI v; have r_u := rngI u; have r_r1_ := rngI r1_; have r_z6_ := rngI z6_; have r_r10_ := rngI r10_; have r_z15_ := rngI z15_; have q0 := li_1; (repeat' split) <;> omega
theorem lf_c_heldZ_8 (Mz : mM) (v : Int32) (u : Int32) (r1_ : Int32) (j8_ : Nat) (z6_ : Int32) (r10_ : Int32) (j17_ : Nat) (z15_ : Int32) (hv : 0 ≤ v.toInt ∧ v.toInt ≤ 7) (hu : -1 ≤ u.toInt ∧ u.toInt ≤ 191) (h4_ : r1_.toInt = 495 + 384 * v.toInt + u.toInt) (h9_ : (j8_ : Int) = r1_.toInt) (e7_ : z6_ = Mz.1 (50, 0, 0) j8_) (h13_ : r10_.toInt = 687 + 384 * v.toInt + u.toInt) (h18_ : (j17_ : Int) = r10_.toInt) (e16_ : z15_ = Mz.1 (50, 0, 0) j17_) (h19_ : z15_.toInt < z6_.toInt) : (2 : Int32).toInt = if z15_.toInt < z6_.toInt then 2 else if z6_.toInt < z15_.toInt then 1 else 0 := by have r_v := rngI v; have r_u := rngI u; have r_r1_ := rngI r1_; have r_z6_ := rngI z6_; have r_r10_ := rngI r10_; have r_z15_ := rngI z15_; have q0 := li_2; (repeat' split) <;> omega
set_option maxHeartbeats 4000000 in
set_option maxRecDepth 100000 in
theorem c_heldZ (l : Launch) (G : va_G) (cy : Nat → ClassId) (ad : rf → Nat) (d : Nat) (v : Int32) (u : Int32) (Mz : mM) (hIz : InvD Mz) (hv : 0 ≤ v.toInt ∧ v.toInt ≤ 7) (hu : -1 ≤ u.toInt ∧ u.toInt ≤ 191) : WP DD l G cy ad yX12_held cX12_held 5 (some .int) (d + 2) 0 [(0, vR (12, 0, 0)), (1, vI v), (2, vI u)] [] Mz (fun r M' => Mz = M' ∧ (0 ≤ r.toInt ∧ r.toInt ≤ 2 ∧ r.toInt = heldZ (M'.1 (50, 0, 0)) v u.toInt) ∧ SP_heldZ v u Mz r) := by
  refine w_aload_n dX12_held_0 rfl 0 rfl ?_
  refine w_getR (c' := (50, 0, 0)) fl_RX12_9 rfl rfl ic_12 dX12_held_1 rfl ?_
  refine w_aload_n dX12_held_4 rfl 0 rfl ?_
  refine w_iload_n dX12_held_5 rfl 1 rfl ?_
  refine w_iload_n dX12_held_6 rfl 2 rfl ?_
  refine w_callV (as := [vI v, vI u]) (rest := [vR (50, 0, 0)]) (c_X12_yes l G cy ad (d + 1) v u Mz hIz hv hu) kV_X12_yes pnn_17 (Nat.le_of_ble_eq_true rfl) m_1683 rfl rfl rfl ic_12 rfl rfl (by decide) (Nat.le_of_ble_eq_true rfl) dX12_held_7 (fun r1_ M2_ q3_ => ?_)
  obtain ⟨rfl, h4_, hs5_⟩ := q3_
  refine w_iald rfl rfl ic_50 (rfl : r1_.toInt = r1_.toInt) (lf_c_X12_held_0 v u r1_ hv hu h4_ ) dX12_held_10 (fun j8_ h9_ z6_ e7_ => ?_)
  refine w_istore_n (ls' := [(3, vI z6_), (0, vR (12, 0, 0)), (1, vI v), (2, vI u)]) dX12_held_11 rfl (by decide) rfl ?_
  refine w_aload_n dX12_held_12 rfl 1 rfl ?_
  refine w_getR (c' := (50, 0, 0)) fl_RX12_9 rfl rfl ic_12 dX12_held_13 rfl ?_
  refine w_aload_n dX12_held_16 rfl 1 rfl ?_
  refine w_iload_n dX12_held_17 rfl 2 rfl ?_
  refine w_iload_n dX12_held_18 rfl 3 rfl ?_
  refine w_callV (as := [vI v, vI u]) (rest := [vR (50, 0, 0)]) (c_X12_no l G cy ad d v u Mz hIz hv hu) kV_X12_no pnn_17 (Nat.le_of_ble_eq_true rfl) m_1679 rfl rfl rfl ic_12 rfl rfl (by decide) (Nat.le_of_ble_eq_true rfl) dX12_held_19 (fun r10_ M11_ q12_ => ?_)
  obtain ⟨rfl, h13_, hs14_⟩ := q12_
  refine w_iald rfl rfl ic_50 (rfl : r10_.toInt = r10_.toInt) (lf_c_X12_held_1 v u r1_ j8_ r10_ hv hu h4_ h9_ h13_ ) dX12_held_22 (fun j17_ h18_ z15_ e16_ => ?_)
  refine w_istore (ls' := [(4, vI z15_), (3, vI z6_), (0, vR (12, 0, 0)), (1, vI v), (2, vI u)]) dX12_held_23 (by decide) rfl ?_
  refine w_iload_n dX12_held_25 rfl 1 rfl ?_
  refine w_iload dX12_held_26 0 rfl ?_
  refine w_icmp_le (tgt := 35) dX12_held_28 (by decide) (rfl : z6_.toInt = z6_.toInt) (rfl : z15_.toInt = z15_.toInt) (fun h19_ => ?_) (fun h19_ => ?_)
  · refine w_iload dX12_held_35 0 rfl ?_
    refine w_iload_n dX12_held_37 rfl 1 rfl ?_
    refine w_icmp_le (tgt := 45) dX12_held_38 (by decide) (rfl : z15_.toInt = z15_.toInt) (rfl : z6_.toInt = z6_.toInt) (fun h20_ => ?_) (fun h20_ => ?_)
    · refine w_iconst (v := 0) dX12_held_45 (by decide) ?_
      exact w_iret rfl dX12_held_46 ⟨rfl, ⟨by decide, by decide, (by rw [heldZ_of (lf_c_heldZ_3 v u r1_ j8_ h4_ h9_ ) (lf_c_heldZ_4 v u r10_ j17_ h13_ h18_ ) e7_ e16_]; exact (lf_c_heldZ_2 Mz v u r1_ j8_ z6_ r10_ j17_ z15_ hv hu h4_ h9_ e7_ h13_ h18_ e16_ h19_ h20_ ))⟩, ⟨r1_, hs5_, h4_, j8_, h9_, z6_, e7_, r10_, hs14_, h13_, j17_, h18_, z15_, e16_, (Or.inl ⟨h19_, (Or.inl ⟨h20_, rfl⟩)⟩)⟩⟩
    · refine w_iconst (v := 1) dX12_held_41 (by decide) ?_
      refine w_goto (tgt := 46) dX12_held_42 (by decide) ?_
      exact w_iret rfl dX12_held_46 ⟨rfl, ⟨by decide, by decide, (by rw [heldZ_of (lf_c_heldZ_3 v u r1_ j8_ h4_ h9_ ) (lf_c_heldZ_4 v u r10_ j17_ h13_ h18_ ) e7_ e16_]; exact (lf_c_heldZ_5 Mz v u r1_ j8_ z6_ r10_ j17_ z15_ hv hu h4_ h9_ e7_ h13_ h18_ e16_ h19_ h20_ ))⟩, ⟨r1_, hs5_, h4_, j8_, h9_, z6_, e7_, r10_, hs14_, h13_, j17_, h18_, z15_, e16_, (Or.inl ⟨h19_, (Or.inr ⟨h20_, rfl⟩)⟩)⟩⟩
  · refine w_iconst (v := 2) dX12_held_31 (by decide) ?_
    refine w_goto (tgt := 46) dX12_held_32 (by decide) ?_
    exact w_iret rfl dX12_held_46 ⟨rfl, ⟨by decide, by decide, (by rw [heldZ_of (lf_c_heldZ_3 v u r1_ j8_ h4_ h9_ ) (lf_c_heldZ_4 v u r10_ j17_ h13_ h18_ ) e7_ e16_]; exact (lf_c_heldZ_8 Mz v u r1_ j8_ z6_ r10_ j17_ z15_ hv hu h4_ h9_ e7_ h13_ h18_ e16_ h19_ ))⟩, ⟨r1_, hs5_, h4_, j8_, h9_, z6_, e7_, r10_, hs14_, h13_, j17_, h18_, z15_, e16_, (Or.inr ⟨h19_, rfl⟩)⟩⟩
def SP_costZ (v : Int32) (u : Int32) (Mz : mM) (r_ : Int32) : Prop := ∃ r1_ : Int32, (SP_heldZ v u Mz r1_) ∧ (0 ≤ r1_.toInt ∧ r1_.toInt ≤ 2 ∧ r1_.toInt = heldZ (Mz.1 (50, 0, 0)) v u.toInt) ∧ (((¬ r1_.toInt = 1) ∧ (((¬ r1_.toInt = 0) ∧ r_ = 20) ∨ ((r1_.toInt = 0) ∧ r_ = 3))) ∨ ((r1_.toInt = 1) ∧ r_ = 1))
theorem lf_c_costZ_0 (Mz : mM) (v : Int32) (u : Int32) (r1_ : Int32) (hv : 0 ≤ v.toInt ∧ v.toInt ≤ 7) (hu : -1 ≤ u.toInt ∧ u.toInt ≤ 191) (h4_ : 0 ≤ r1_.toInt ∧ r1_.toInt ≤ 2 ∧ r1_.toInt = heldZ (Mz.1 (50, 0, 0)) v u.toInt) (h6_ : ¬ r1_.toInt = 1) (h7_ : ¬ r1_.toInt = 0) : (20 : Int32).toInt = if r1_.toInt = 1 then 1 else if r1_.toInt = 0 then 3 else 20 := by have r_v := rngI v; have r_u := rngI u; have r_r1_ := rngI r1_; have q0 := li_20; (repeat' split) <;> omega
theorem lf_c_costZ_1 (Mz : mM) (v : Int32) (u : Int32) (r1_ : Int32) (hv : 0 ≤ v.toInt ∧ v.toInt ≤ 7) (hu : -1 ≤ u.toInt ∧ u.toInt ≤ 191) (h4_ : 0 ≤ r1_.toInt ∧ r1_.toInt ≤ 2 ∧ r1_.toInt = heldZ (Mz.1 (50, 0, 0)) v u.toInt) (h6_ : ¬ r1_.toInt = 1) (h7_ : r1_.toInt = 0) : (3 : Int32).toInt = if r1_.toInt = 1 then 1 else if r1_.toInt = 0 then 3 else 20 := by have r_v := rngI v; have r_u := rngI u; have r_r1_ := rngI r1_; have q0 := li_3; (repeat' split) <;> omega
theorem lf_c_costZ_2 (Mz : mM) (v : Int32) (u : Int32) (r1_ : Int32) (hv : 0 ≤ v.toInt ∧ v.toInt ≤ 7) (hu : -1 ≤ u.toInt ∧ u.toInt ≤ 191) (h4_ : 0 ≤ r1_.toInt ∧ r1_.toInt ≤ 2 ∧ r1_.toInt = heldZ (Mz.1 (50, 0, 0)) v u.toInt) (h6_ : r1_.toInt = 1) : (1 : Int32).toInt = if r1_.toInt = 1 then 1 else if r1_.toInt = 0 then 3 else 20 := by have r_v := rngI v; have r_u := rngI u; have r_r1_ := rngI r1_; have q0 := li_1; (repeat' split) <;> omega
set_option maxHeartbeats 4000000 in
set_option maxRecDepth 100000 in
theorem c_costZ (l : Launch) (G : va_G) (cy : Nat → ClassId) (ad : rf → Nat) (d : Nat) (v : Int32) (u : Int32) (Mz : mM) (hIz : InvD Mz) (hv : 0 ≤ v.toInt ∧ v.toInt ≤ 7) (hu : -1 ≤ u.toInt ∧ u.toInt ≤ 191) : WP DD l G cy ad yX12_cost cX12_cost 4 (some .int) (d + 3) 0 [(0, vR (12, 0, 0)), (1, vI v), (2, vI u)] [] Mz (fun r M' => Mz = M' ∧ (1 ≤ r.toInt ∧ r.toInt ≤ 20 ∧ r.toInt = costZ (M'.1 (50, 0, 0)) v u.toInt) ∧ SP_costZ v u Mz r) := by
  refine w_aload_n dX12_cost_0 rfl 0 rfl ?_
  refine w_iload_n dX12_cost_1 rfl 1 rfl ?_
  refine w_iload_n dX12_cost_2 rfl 2 rfl ?_
  refine w_callV (as := [vI v, vI u]) (rest := []) (c_heldZ l G cy ad d v u Mz hIz hv hu) kV_X12_held pnn_17 (Nat.le_of_ble_eq_true rfl) m_1695 rfl rfl rfl ic_12 rfl rfl (by decide) (Nat.le_of_ble_eq_true rfl) dX12_cost_3 (fun r1_ M2_ q3_ => ?_)
  obtain ⟨rfl, h4_, hs5_⟩ := q3_
  refine w_istore_n (ls' := [(3, vI r1_), (0, vR (12, 0, 0)), (1, vI v), (2, vI u)]) dX12_cost_6 rfl (by decide) rfl ?_
  refine w_iload_n dX12_cost_7 rfl 0 rfl ?_
  refine w_iconst (v := 1) dX12_cost_8 (by decide) ?_
  refine w_icmp_ne (tgt := 16) dX12_cost_9 (by decide) (rfl : r1_.toInt = r1_.toInt) li_1 (fun h6_ => ?_) (fun h6_ => ?_)
  · refine w_iload_n dX12_cost_16 rfl 0 rfl ?_
    refine w_if_ne (tgt := 24) dX12_cost_17 (by decide) (rfl : r1_.toInt = r1_.toInt) (fun h7_ => ?_) (fun h7_ => ?_)
    · refine w_bipush (v := 20) dX12_cost_24 (by decide) ?_
      exact w_iret rfl dX12_cost_26 ⟨rfl, ⟨by decide, by decide, (by unfold costZ; rw [← h4_.2.2]; exact (lf_c_costZ_0 Mz v u r1_ hv hu h4_ h6_ h7_ ))⟩, ⟨r1_, hs5_, h4_, (Or.inl ⟨h6_, (Or.inl ⟨h7_, rfl⟩)⟩)⟩⟩
    · refine w_iconst (v := 3) dX12_cost_20 (by decide) ?_
      refine w_goto (tgt := 26) dX12_cost_21 (by decide) ?_
      exact w_iret rfl dX12_cost_26 ⟨rfl, ⟨by decide, by decide, (by unfold costZ; rw [← h4_.2.2]; exact (lf_c_costZ_1 Mz v u r1_ hv hu h4_ h6_ h7_ ))⟩, ⟨r1_, hs5_, h4_, (Or.inl ⟨h6_, (Or.inr ⟨h7_, rfl⟩)⟩)⟩⟩
  · refine w_iconst (v := 1) dX12_cost_12 (by decide) ?_
    refine w_goto (tgt := 26) dX12_cost_13 (by decide) ?_
    exact w_iret rfl dX12_cost_26 ⟨rfl, ⟨by decide, by decide, (by unfold costZ; rw [← h4_.2.2]; exact (lf_c_costZ_2 Mz v u r1_ hv hu h4_ h6_ ))⟩, ⟨r1_, hs5_, h4_, (Or.inr ⟨h6_, rfl⟩)⟩⟩
theorem c_on1 (l : Launch) (G : va_G) (cy : Nat → ClassId) (ad : rf → Nat) (d : Nat) (v : Int32) (u : Int32) (Mz : mM) (hIz : InvD Mz) (hv : 0 ≤ v.toInt ∧ v.toInt ≤ 191) (hu : u.toInt = 0 ∨ u.toInt = 2 ∨ u.toInt = 4 ∨ u.toInt = 6) : WP DD l G cy ad yX12_on cX12_on 6 (some .int) (d + 1) 0 [(0, vR (12, 0, 0)), (1, vI v), (2, vI u), (3, vI 1)] [] Mz (fun r M' => Mz = M' ∧ ((r.toInt = -1 ∧ ∀ n : Nat, ¬ nbP v.toInt.toNat u.toInt.toNat n) ∨ (0 ≤ r.toInt ∧ r.toInt ≤ 191 ∧ nbP v.toInt.toNat u.toInt.toNat r.toInt.toNat))) := w_Q (c_X12_on l G cy ad d v u 1 Mz hIz (by omega)) (fun r M' h => ⟨h.1, on1 h.2.1.1 hv hu⟩)
end
section
/-! words of the tables that are used, by their places; decode rows; fields -/
theorem m_70 : Cond.selects yX12_cost.cls yX12_cost yX12_cost ∈ BASE := bmem 70 (by decide +kernel) rfl
set_option maxRecDepth 20000 in
theorem m_1342 : Cond.fieldLink RX12 57 "ClickStreetModel" "far" "[I" ∈ BASE := bmT6 64 rfl rfl
set_option maxRecDepth 20000 in
theorem m_1770 : Cond.constant RX12 304 (1000000) ∈ BASE := bmT8 12 rfl rfl
set_option maxRecDepth 20000 in
theorem m_1771 : Cond.methodLink RX12 305 yX12_cost ∈ BASE := bmT8 13 rfl rfl
set_option maxRecDepth 20000 in
theorem m_1773 : Cond.instanceMethod yX12_cost ∈ BASE := bmT8 15 rfl rfl
set_option maxRecDepth 20000 in
theorem m_1774 : Cond.code yX12_cost cX12_cost 4 (some .int) ∈ BASE := bmT8 16 rfl rfl
theorem kV_X12_cost : KV yX12_cost cX12_cost 4 (some .int) 2 := ⟨m_1773, m_70, m_92, m_1774, nhM_17, nhV_17, pdn_8⟩
theorem fl_RX12_57 : FLK RX12 57 12 19 (.array .int) true := ⟨RX12, TX12, 33, tyX12, rfl, inB12, tyX12_ok, nmX12, by decide, rfl, rfl, Or.inl m_1342⟩
theorem ch_cX12_findFar_0 : (cX12_findFar.data.toList.drop 0).take 36 = [3, 62, 29, 17, 0, 192, 162, 0, 27, 42, 180, 0, 57, 29, 29, 28, 160, 0, 7, 3, 167, 0, 6, 19, 1, 48, 79, 132, 3, 1, 167, 255, 228, 4, 62, 29] := by decide +kernel
theorem dX12_findFar_0 : decode cX12_findFar 0 = .ok (.iconst 0, 1) := do_3 (rdb (p := 0) (i := 0) ch_cX12_findFar_0 rfl)
theorem dX12_findFar_1 : decode cX12_findFar 1 = .ok (.istore_n 3, 1) := do_62 (rdb (p := 0) (i := 1) ch_cX12_findFar_0 rfl)
theorem dX12_findFar_2 : decode cX12_findFar 2 = .ok (.iload_n 3, 1) := do_29 (rdb (p := 0) (i := 2) ch_cX12_findFar_0 rfl)
theorem dX12_findFar_3 : decode cX12_findFar 3 = .ok (.sipush 192, 3) := do_17 (rdb (p := 0) (i := 3) ch_cX12_findFar_0 rfl) (rdb (p := 0) (i := 4) ch_cX12_findFar_0 rfl) (rdb (p := 0) (i := 5) ch_cX12_findFar_0 rfl) (by decide +kernel)
theorem dX12_findFar_6 : decode cX12_findFar 6 = .ok (.if_icmp .ge 27, 3) := do_162 (rdb (p := 0) (i := 6) ch_cX12_findFar_0 rfl) (rdb (p := 0) (i := 7) ch_cX12_findFar_0 rfl) (rdb (p := 0) (i := 8) ch_cX12_findFar_0 rfl) (by decide +kernel)
theorem dX12_findFar_9 : decode cX12_findFar 9 = .ok (.aload_n 0, 1) := do_42 (rdb (p := 0) (i := 9) ch_cX12_findFar_0 rfl)
theorem dX12_findFar_10 : decode cX12_findFar 10 = .ok (.getfield 57, 3) := do_180 (rdb (p := 0) (i := 10) ch_cX12_findFar_0 rfl) (rdb (p := 0) (i := 11) ch_cX12_findFar_0 rfl) (rdb (p := 0) (i := 12) ch_cX12_findFar_0 rfl) rfl
theorem dX12_findFar_13 : decode cX12_findFar 13 = .ok (.iload_n 3, 1) := do_29 (rdb (p := 0) (i := 13) ch_cX12_findFar_0 rfl)
theorem dX12_findFar_14 : decode cX12_findFar 14 = .ok (.iload_n 3, 1) := do_29 (rdb (p := 0) (i := 14) ch_cX12_findFar_0 rfl)
theorem dX12_findFar_15 : decode cX12_findFar 15 = .ok (.iload_n 2, 1) := do_28 (rdb (p := 0) (i := 15) ch_cX12_findFar_0 rfl)
theorem dX12_findFar_16 : decode cX12_findFar 16 = .ok (.if_icmp .ne 7, 3) := do_160 (rdb (p := 0) (i := 16) ch_cX12_findFar_0 rfl) (rdb (p := 0) (i := 17) ch_cX12_findFar_0 rfl) (rdb (p := 0) (i := 18) ch_cX12_findFar_0 rfl) (by decide +kernel)
theorem dX12_findFar_19 : decode cX12_findFar 19 = .ok (.iconst 0, 1) := do_3 (rdb (p := 0) (i := 19) ch_cX12_findFar_0 rfl)
theorem dX12_findFar_20 : decode cX12_findFar 20 = .ok (.goto 6, 3) := do_167 (rdb (p := 0) (i := 20) ch_cX12_findFar_0 rfl) (rdb (p := 0) (i := 21) ch_cX12_findFar_0 rfl) (rdb (p := 0) (i := 22) ch_cX12_findFar_0 rfl) (by decide +kernel)
theorem dX12_findFar_23 : decode cX12_findFar 23 = .ok (.ldc_w 304, 3) := do_19 (rdb (p := 0) (i := 23) ch_cX12_findFar_0 rfl) (rdb (p := 0) (i := 24) ch_cX12_findFar_0 rfl) (rdb (p := 0) (i := 25) ch_cX12_findFar_0 rfl) rfl
theorem dX12_findFar_26 : decode cX12_findFar 26 = .ok (.iastore, 1) := do_79 (rdb (p := 0) (i := 26) ch_cX12_findFar_0 rfl)
theorem dX12_findFar_27 : decode cX12_findFar 27 = .ok (.iinc 3 1, 3) := do_132 (rdb (p := 0) (i := 27) ch_cX12_findFar_0 rfl) (rdb (p := 0) (i := 28) ch_cX12_findFar_0 rfl) (rdb (p := 0) (i := 29) ch_cX12_findFar_0 rfl) (by decide +kernel)
theorem dX12_findFar_30 : decode cX12_findFar 30 = .ok (.goto (-28), 3) := do_167 (rdb (p := 0) (i := 30) ch_cX12_findFar_0 rfl) (rdb (p := 0) (i := 31) ch_cX12_findFar_0 rfl) (rdb (p := 0) (i := 32) ch_cX12_findFar_0 rfl) (by decide +kernel)
theorem ch_cX12_findFar_32 : (cX12_findFar.data.toList.drop 32).take 36 = [228, 4, 62, 29, 153, 0, 97, 3, 62, 3, 54, 4, 21, 4, 17, 0, 192, 162, 0, 81, 42, 180, 0, 57, 21, 4, 46, 42, 27, 21, 4, 182, 1, 49, 96, 54] := by decide +kernel
theorem dX12_findFar_33 : decode cX12_findFar 33 = .ok (.iconst 1, 1) := do_4 (rdb (p := 32) (i := 1) ch_cX12_findFar_32 rfl)
theorem dX12_findFar_34 : decode cX12_findFar 34 = .ok (.istore_n 3, 1) := do_62 (rdb (p := 32) (i := 2) ch_cX12_findFar_32 rfl)
theorem dX12_findFar_35 : decode cX12_findFar 35 = .ok (.iload_n 3, 1) := do_29 (rdb (p := 32) (i := 3) ch_cX12_findFar_32 rfl)
theorem dX12_findFar_36 : decode cX12_findFar 36 = .ok (.ifCond .eq 97, 3) := do_153 (rdb (p := 32) (i := 4) ch_cX12_findFar_32 rfl) (rdb (p := 32) (i := 5) ch_cX12_findFar_32 rfl) (rdb (p := 32) (i := 6) ch_cX12_findFar_32 rfl) (by decide +kernel)
theorem dX12_findFar_39 : decode cX12_findFar 39 = .ok (.iconst 0, 1) := do_3 (rdb (p := 32) (i := 7) ch_cX12_findFar_32 rfl)
theorem dX12_findFar_40 : decode cX12_findFar 40 = .ok (.istore_n 3, 1) := do_62 (rdb (p := 32) (i := 8) ch_cX12_findFar_32 rfl)
theorem dX12_findFar_41 : decode cX12_findFar 41 = .ok (.iconst 0, 1) := do_3 (rdb (p := 32) (i := 9) ch_cX12_findFar_32 rfl)
theorem dX12_findFar_42 : decode cX12_findFar 42 = .ok (.istore 4, 2) := do_54 (rdb (p := 32) (i := 10) ch_cX12_findFar_32 rfl) (rdb (p := 32) (i := 11) ch_cX12_findFar_32 rfl)
theorem dX12_findFar_44 : decode cX12_findFar 44 = .ok (.iload 4, 2) := do_21 (rdb (p := 32) (i := 12) ch_cX12_findFar_32 rfl) (rdb (p := 32) (i := 13) ch_cX12_findFar_32 rfl)
theorem dX12_findFar_46 : decode cX12_findFar 46 = .ok (.sipush 192, 3) := do_17 (rdb (p := 32) (i := 14) ch_cX12_findFar_32 rfl) (rdb (p := 32) (i := 15) ch_cX12_findFar_32 rfl) (rdb (p := 32) (i := 16) ch_cX12_findFar_32 rfl) (by decide +kernel)
theorem dX12_findFar_49 : decode cX12_findFar 49 = .ok (.if_icmp .ge 81, 3) := do_162 (rdb (p := 32) (i := 17) ch_cX12_findFar_32 rfl) (rdb (p := 32) (i := 18) ch_cX12_findFar_32 rfl) (rdb (p := 32) (i := 19) ch_cX12_findFar_32 rfl) (by decide +kernel)
theorem dX12_findFar_52 : decode cX12_findFar 52 = .ok (.aload_n 0, 1) := do_42 (rdb (p := 32) (i := 20) ch_cX12_findFar_32 rfl)
theorem dX12_findFar_53 : decode cX12_findFar 53 = .ok (.getfield 57, 3) := do_180 (rdb (p := 32) (i := 21) ch_cX12_findFar_32 rfl) (rdb (p := 32) (i := 22) ch_cX12_findFar_32 rfl) (rdb (p := 32) (i := 23) ch_cX12_findFar_32 rfl) rfl
theorem dX12_findFar_56 : decode cX12_findFar 56 = .ok (.iload 4, 2) := do_21 (rdb (p := 32) (i := 24) ch_cX12_findFar_32 rfl) (rdb (p := 32) (i := 25) ch_cX12_findFar_32 rfl)
theorem dX12_findFar_58 : decode cX12_findFar 58 = .ok (.iaload, 1) := do_46 (rdb (p := 32) (i := 26) ch_cX12_findFar_32 rfl)
theorem dX12_findFar_59 : decode cX12_findFar 59 = .ok (.aload_n 0, 1) := do_42 (rdb (p := 32) (i := 27) ch_cX12_findFar_32 rfl)
theorem dX12_findFar_60 : decode cX12_findFar 60 = .ok (.iload_n 1, 1) := do_27 (rdb (p := 32) (i := 28) ch_cX12_findFar_32 rfl)
theorem dX12_findFar_61 : decode cX12_findFar 61 = .ok (.iload 4, 2) := do_21 (rdb (p := 32) (i := 29) ch_cX12_findFar_32 rfl) (rdb (p := 32) (i := 30) ch_cX12_findFar_32 rfl)
theorem dX12_findFar_63 : decode cX12_findFar 63 = .ok (.invokevirtual 305, 3) := do_182 (rdb (p := 32) (i := 31) ch_cX12_findFar_32 rfl) (rdb (p := 32) (i := 32) ch_cX12_findFar_32 rfl) (rdb (p := 32) (i := 33) ch_cX12_findFar_32 rfl) rfl
theorem ch_cX12_findFar_64 : (cX12_findFar.data.toList.drop 64).take 36 = [1, 49, 96, 54, 5, 3, 54, 6, 21, 6, 16, 8, 162, 0, 48, 42, 21, 4, 21, 6, 4, 182, 0, 234, 54, 7, 21, 7, 155, 0, 26, 21, 5, 42, 180, 0] := by decide +kernel
theorem dX12_findFar_66 : decode cX12_findFar 66 = .ok (.iadd, 1) := do_96 (rdb (p := 64) (i := 2) ch_cX12_findFar_64 rfl)
theorem dX12_findFar_67 : decode cX12_findFar 67 = .ok (.istore 5, 2) := do_54 (rdb (p := 64) (i := 3) ch_cX12_findFar_64 rfl) (rdb (p := 64) (i := 4) ch_cX12_findFar_64 rfl)
theorem dX12_findFar_69 : decode cX12_findFar 69 = .ok (.iconst 0, 1) := do_3 (rdb (p := 64) (i := 5) ch_cX12_findFar_64 rfl)
theorem dX12_findFar_70 : decode cX12_findFar 70 = .ok (.istore 6, 2) := do_54 (rdb (p := 64) (i := 6) ch_cX12_findFar_64 rfl) (rdb (p := 64) (i := 7) ch_cX12_findFar_64 rfl)
theorem dX12_findFar_72 : decode cX12_findFar 72 = .ok (.iload 6, 2) := do_21 (rdb (p := 64) (i := 8) ch_cX12_findFar_64 rfl) (rdb (p := 64) (i := 9) ch_cX12_findFar_64 rfl)
theorem dX12_findFar_74 : decode cX12_findFar 74 = .ok (.bipush 8, 2) := do_16 (rdb (p := 64) (i := 10) ch_cX12_findFar_64 rfl) (rdb (p := 64) (i := 11) ch_cX12_findFar_64 rfl) (by decide +kernel)
theorem dX12_findFar_76 : decode cX12_findFar 76 = .ok (.if_icmp .ge 48, 3) := do_162 (rdb (p := 64) (i := 12) ch_cX12_findFar_64 rfl) (rdb (p := 64) (i := 13) ch_cX12_findFar_64 rfl) (rdb (p := 64) (i := 14) ch_cX12_findFar_64 rfl) (by decide +kernel)
theorem dX12_findFar_79 : decode cX12_findFar 79 = .ok (.aload_n 0, 1) := do_42 (rdb (p := 64) (i := 15) ch_cX12_findFar_64 rfl)
theorem dX12_findFar_80 : decode cX12_findFar 80 = .ok (.iload 4, 2) := do_21 (rdb (p := 64) (i := 16) ch_cX12_findFar_64 rfl) (rdb (p := 64) (i := 17) ch_cX12_findFar_64 rfl)
theorem dX12_findFar_82 : decode cX12_findFar 82 = .ok (.iload 6, 2) := do_21 (rdb (p := 64) (i := 18) ch_cX12_findFar_64 rfl) (rdb (p := 64) (i := 19) ch_cX12_findFar_64 rfl)
theorem dX12_findFar_84 : decode cX12_findFar 84 = .ok (.iconst 1, 1) := do_4 (rdb (p := 64) (i := 20) ch_cX12_findFar_64 rfl)
theorem dX12_findFar_85 : decode cX12_findFar 85 = .ok (.invokevirtual 234, 3) := do_182 (rdb (p := 64) (i := 21) ch_cX12_findFar_64 rfl) (rdb (p := 64) (i := 22) ch_cX12_findFar_64 rfl) (rdb (p := 64) (i := 23) ch_cX12_findFar_64 rfl) rfl
theorem dX12_findFar_88 : decode cX12_findFar 88 = .ok (.istore 7, 2) := do_54 (rdb (p := 64) (i := 24) ch_cX12_findFar_64 rfl) (rdb (p := 64) (i := 25) ch_cX12_findFar_64 rfl)
theorem dX12_findFar_90 : decode cX12_findFar 90 = .ok (.iload 7, 2) := do_21 (rdb (p := 64) (i := 26) ch_cX12_findFar_64 rfl) (rdb (p := 64) (i := 27) ch_cX12_findFar_64 rfl)
theorem dX12_findFar_92 : decode cX12_findFar 92 = .ok (.ifCond .lt 26, 3) := do_155 (rdb (p := 64) (i := 28) ch_cX12_findFar_64 rfl) (rdb (p := 64) (i := 29) ch_cX12_findFar_64 rfl) (rdb (p := 64) (i := 30) ch_cX12_findFar_64 rfl) (by decide +kernel)
theorem dX12_findFar_95 : decode cX12_findFar 95 = .ok (.iload 5, 2) := do_21 (rdb (p := 64) (i := 31) ch_cX12_findFar_64 rfl) (rdb (p := 64) (i := 32) ch_cX12_findFar_64 rfl)
theorem ch_cX12_findFar_96 : (cX12_findFar.data.toList.drop 96).take 36 = [5, 42, 180, 0, 57, 21, 7, 46, 162, 0, 14, 42, 180, 0, 57, 21, 7, 21, 5, 79, 4, 62, 132, 6, 2, 167, 255, 207, 132, 4, 1, 167, 255, 173, 167, 255] := by decide +kernel
theorem dX12_findFar_97 : decode cX12_findFar 97 = .ok (.aload_n 0, 1) := do_42 (rdb (p := 96) (i := 1) ch_cX12_findFar_96 rfl)
theorem dX12_findFar_98 : decode cX12_findFar 98 = .ok (.getfield 57, 3) := do_180 (rdb (p := 96) (i := 2) ch_cX12_findFar_96 rfl) (rdb (p := 96) (i := 3) ch_cX12_findFar_96 rfl) (rdb (p := 96) (i := 4) ch_cX12_findFar_96 rfl) rfl
theorem dX12_findFar_101 : decode cX12_findFar 101 = .ok (.iload 7, 2) := do_21 (rdb (p := 96) (i := 5) ch_cX12_findFar_96 rfl) (rdb (p := 96) (i := 6) ch_cX12_findFar_96 rfl)
theorem dX12_findFar_103 : decode cX12_findFar 103 = .ok (.iaload, 1) := do_46 (rdb (p := 96) (i := 7) ch_cX12_findFar_96 rfl)
theorem dX12_findFar_104 : decode cX12_findFar 104 = .ok (.if_icmp .ge 14, 3) := do_162 (rdb (p := 96) (i := 8) ch_cX12_findFar_96 rfl) (rdb (p := 96) (i := 9) ch_cX12_findFar_96 rfl) (rdb (p := 96) (i := 10) ch_cX12_findFar_96 rfl) (by decide +kernel)
theorem dX12_findFar_107 : decode cX12_findFar 107 = .ok (.aload_n 0, 1) := do_42 (rdb (p := 96) (i := 11) ch_cX12_findFar_96 rfl)
theorem dX12_findFar_108 : decode cX12_findFar 108 = .ok (.getfield 57, 3) := do_180 (rdb (p := 96) (i := 12) ch_cX12_findFar_96 rfl) (rdb (p := 96) (i := 13) ch_cX12_findFar_96 rfl) (rdb (p := 96) (i := 14) ch_cX12_findFar_96 rfl) rfl
theorem dX12_findFar_111 : decode cX12_findFar 111 = .ok (.iload 7, 2) := do_21 (rdb (p := 96) (i := 15) ch_cX12_findFar_96 rfl) (rdb (p := 96) (i := 16) ch_cX12_findFar_96 rfl)
theorem dX12_findFar_113 : decode cX12_findFar 113 = .ok (.iload 5, 2) := do_21 (rdb (p := 96) (i := 17) ch_cX12_findFar_96 rfl) (rdb (p := 96) (i := 18) ch_cX12_findFar_96 rfl)
theorem dX12_findFar_115 : decode cX12_findFar 115 = .ok (.iastore, 1) := do_79 (rdb (p := 96) (i := 19) ch_cX12_findFar_96 rfl)
theorem dX12_findFar_116 : decode cX12_findFar 116 = .ok (.iconst 1, 1) := do_4 (rdb (p := 96) (i := 20) ch_cX12_findFar_96 rfl)
theorem dX12_findFar_117 : decode cX12_findFar 117 = .ok (.istore_n 3, 1) := do_62 (rdb (p := 96) (i := 21) ch_cX12_findFar_96 rfl)
theorem dX12_findFar_118 : decode cX12_findFar 118 = .ok (.iinc 6 2, 3) := do_132 (rdb (p := 96) (i := 22) ch_cX12_findFar_96 rfl) (rdb (p := 96) (i := 23) ch_cX12_findFar_96 rfl) (rdb (p := 96) (i := 24) ch_cX12_findFar_96 rfl) (by decide +kernel)
theorem dX12_findFar_121 : decode cX12_findFar 121 = .ok (.goto (-49), 3) := do_167 (rdb (p := 96) (i := 25) ch_cX12_findFar_96 rfl) (rdb (p := 96) (i := 26) ch_cX12_findFar_96 rfl) (rdb (p := 96) (i := 27) ch_cX12_findFar_96 rfl) (by decide +kernel)
theorem dX12_findFar_124 : decode cX12_findFar 124 = .ok (.iinc 4 1, 3) := do_132 (rdb (p := 96) (i := 28) ch_cX12_findFar_96 rfl) (rdb (p := 96) (i := 29) ch_cX12_findFar_96 rfl) (rdb (p := 96) (i := 30) ch_cX12_findFar_96 rfl) (by decide +kernel)
theorem dX12_findFar_127 : decode cX12_findFar 127 = .ok (.goto (-83), 3) := do_167 (rdb (p := 96) (i := 31) ch_cX12_findFar_96 rfl) (rdb (p := 96) (i := 32) ch_cX12_findFar_96 rfl) (rdb (p := 96) (i := 33) ch_cX12_findFar_96 rfl) (by decide +kernel)
theorem ch_cX12_findFar_128 : (cX12_findFar.data.toList.drop 128).take 36 = [255, 173, 167, 255, 161, 177] := by decide +kernel
theorem dX12_findFar_130 : decode cX12_findFar 130 = .ok (.goto (-95), 3) := do_167 (rdb (p := 128) (i := 2) ch_cX12_findFar_128 rfl) (rdb (p := 128) (i := 3) ch_cX12_findFar_128 rfl) (rdb (p := 128) (i := 4) ch_cX12_findFar_128 rfl) (by decide +kernel)
theorem dX12_findFar_133 : decode cX12_findFar 133 = .ok (.return_, 1) := do_177 (rdb (p := 128) (i := 5) ch_cX12_findFar_128 rfl)
end
section
def S_c_X12_findFar : rf → Nat → Prop := fun c k => (c.1 = 61 ∧ c.2.1 = 0) ∨ False
def ST_X12_findFar_72 (v : Int32) (u : Int32) (Mz : mM) (M_35 : mM) (v4_44 : Int32) (z20_ : Int32) (v6_72 : Int32) (v3_72 : Int32) (M_72 : mM) (v6_72y : Int32) (v3_72y : Int32) (M_72y : mM) : Prop := (0 ≤ v6_72.toInt) ∧ (v6_72.toInt ≤ 8) ∧ (v6_72.toInt % 2 = 0) ∧ (0 ≤ v3_72.toInt ∧ v3_72.toInt ≤ 1) ∧ (v3_72.toInt = 0 → RX (M_72.1 (61, 0, 0)) (M_72.1 (50, 0, 0)) v v4_44.toInt v6_72.toInt) ∧ (smF (M_72.1 (61, 0, 0)) 192 + v3_72.toInt.toNat ≤ smF (M_35.1 (61, 0, 0)) 192) ∧ (z20_.toInt = gq (M_72.1 (61, 0, 0)) v4_44.toInt.toNat + costZ (M_72.1 (50, 0, 0)) v ((v4_44.toInt.toNat : Nat) : Int)) ∧ (InvD M_72) ∧ (FR (S_c_X12_findFar) Mz M_72) ∧ (v6_72.toInt < 8) ∧ ∃ r26_ : Int32, (((r26_.toInt = -1 ∧ ∀ n : Nat, ¬ nbP v4_44.toInt.toNat v6_72.toInt.toNat n) ∨ (0 ≤ r26_.toInt ∧ r26_.toInt ≤ 191 ∧ nbP v4_44.toInt.toNat v6_72.toInt.toNat r26_.toInt.toNat))) ∧ (((r26_.toInt < 0) ∧ ∃ z32_ : Int32, (z32_.toInt = v6_72.toInt + 2) ∧ v6_72y = z32_ ∧ v3_72y = v3_72 ∧ M_72y = M_72) ∨ ((0 ≤ r26_.toInt) ∧ ∃ j36_ : Nat, ((j36_ : Int) = r26_.toInt) ∧ ∃ z34_ : Int32, (z34_ = M_72.1 (61, 0, 0) j36_) ∧ (0 ≤ z34_.toInt ∧ z34_.toInt ≤ 1000000) ∧ (((z34_.toInt ≤ z20_.toInt) ∧ ∃ z40_ : Int32, (z40_.toInt = v6_72.toInt + 2) ∧ v6_72y = z40_ ∧ v3_72y = v3_72 ∧ M_72y = M_72) ∨ ((z20_.toInt < z34_.toInt) ∧ ∃ j44_ : Nat, ((j44_ : Int) = r26_.toInt) ∧ ∃ M42_ : mM, (M42_ = up M_72 (61, 0, 0) j44_ z20_) ∧ (FA (M42_.1 (61, 0, 0)) u.toInt) ∧ (FB (M42_.1 (61, 0, 0)) (M42_.1 (50, 0, 0)) v u.toInt) ∧ (smF (M42_.1 (61, 0, 0)) 192 < smF (M_72.1 (61, 0, 0)) 192) ∧ (z20_.toInt = gq (M42_.1 (61, 0, 0)) v4_44.toInt.toNat + costZ (M42_.1 (50, 0, 0)) v ((v4_44.toInt.toNat : Nat) : Int)) ∧ ∃ z53_ : Int32, (z53_.toInt = v6_72.toInt + 2) ∧ v6_72y = z53_ ∧ v3_72y = 1 ∧ M_72y = M42_))))
def ST_X12_findFar_44 (v : Int32) (u : Int32) (Mz : mM) (M_35 : mM) (v4_44 : Int32) (v3_44 : Int32) (M_44 : mM) (v4_44y : Int32) (v3_44y : Int32) (M_44y : mM) : Prop := (0 ≤ v4_44.toInt) ∧ (v4_44.toInt ≤ 192) ∧ (0 ≤ v3_44.toInt ∧ v3_44.toInt ≤ 1) ∧ (v3_44.toInt = 0 → RX (M_44.1 (61, 0, 0)) (M_44.1 (50, 0, 0)) v v4_44.toInt 0) ∧ (smF (M_44.1 (61, 0, 0)) 192 + v3_44.toInt.toNat ≤ smF (M_35.1 (61, 0, 0)) 192) ∧ (InvD M_44) ∧ (FR (S_c_X12_findFar) Mz M_44) ∧ (v4_44.toInt < 192) ∧ ∃ j12_ : Nat, ((j12_ : Int) = v4_44.toInt) ∧ ∃ z10_ : Int32, (z10_ = M_44.1 (61, 0, 0) j12_) ∧ (0 ≤ z10_.toInt ∧ z10_.toInt ≤ 1000000) ∧ ∃ r15_ : Int32, (SP_costZ v v4_44 M_44 r15_) ∧ (1 ≤ r15_.toInt ∧ r15_.toInt ≤ 20 ∧ r15_.toInt = costZ (M_44.1 (50, 0, 0)) v v4_44.toInt) ∧ ∃ z20_ : Int32, (z20_.toInt = z10_.toInt + r15_.toInt) ∧ ∃ v6_72 : Int32, (0 ≤ v6_72.toInt) ∧ (v6_72.toInt ≤ 8) ∧ (v6_72.toInt % 2 = 0) ∧ ∃ v3_72 : Int32, (0 ≤ v3_72.toInt ∧ v3_72.toInt ≤ 1) ∧ ∃ M_72 : mM, (v3_72.toInt = 0 → RX (M_72.1 (61, 0, 0)) (M_72.1 (50, 0, 0)) v v4_44.toInt v6_72.toInt) ∧ (smF (M_72.1 (61, 0, 0)) 192 + v3_72.toInt.toNat ≤ smF (M_35.1 (61, 0, 0)) 192) ∧ (z20_.toInt = gq (M_72.1 (61, 0, 0)) v4_44.toInt.toNat + costZ (M_72.1 (50, 0, 0)) v ((v4_44.toInt.toNat : Nat) : Int)) ∧ (RCH (fun x_ y_ => ST_X12_findFar_72 v u Mz M_35 v4_44 z20_ x_.1 x_.2.1 x_.2.2 y_.1 y_.2.1 y_.2.2) ((0 : Int32), v3_44, M_44) (v6_72, v3_72, M_72)) ∧ (InvD M_72) ∧ (FR (S_c_X12_findFar) Mz M_72) ∧ (8 ≤ v6_72.toInt) ∧ ∃ z24_ : Int32, (z24_.toInt = v4_44.toInt + 1) ∧ v4_44y = z24_ ∧ v3_44y = v3_72 ∧ M_44y = M_72
def ST_X12_findFar_35 (v : Int32) (u : Int32) (Mz : mM) (v3_35 : Int32) (M_35 : mM) (v3_35y : Int32) (M_35y : mM) : Prop := (0 ≤ v3_35.toInt ∧ v3_35.toInt ≤ 1) ∧ (v3_35.toInt = 0 → RX (M_35.1 (61, 0, 0)) (M_35.1 (50, 0, 0)) v 192 0) ∧ (InvD M_35) ∧ (FR (S_c_X12_findFar) Mz M_35) ∧ (¬ v3_35.toInt = 0) ∧ ∃ v4_44 : Int32, (0 ≤ v4_44.toInt) ∧ (v4_44.toInt ≤ 192) ∧ ∃ v3_44 : Int32, (0 ≤ v3_44.toInt ∧ v3_44.toInt ≤ 1) ∧ ∃ M_44 : mM, (v3_44.toInt = 0 → RX (M_44.1 (61, 0, 0)) (M_44.1 (50, 0, 0)) v v4_44.toInt 0) ∧ (smF (M_44.1 (61, 0, 0)) 192 + v3_44.toInt.toNat ≤ smF (M_35.1 (61, 0, 0)) 192) ∧ (RCH (fun x_ y_ => ST_X12_findFar_44 v u Mz M_35 x_.1 x_.2.1 x_.2.2 y_.1 y_.2.1 y_.2.2) ((0 : Int32), (0 : Int32), M_35) (v4_44, v3_44, M_44)) ∧ (InvD M_44) ∧ (FR (S_c_X12_findFar) Mz M_44) ∧ (192 ≤ v4_44.toInt) ∧ v3_35y = v3_44 ∧ M_35y = M_44
def ST_X12_findFar_2 (u : Int32) (Mz : mM) (v3_2 : Int32) (M_2 : mM) (v3_2y : Int32) (M_2y : mM) : Prop := (0 ≤ v3_2.toInt) ∧ (v3_2.toInt ≤ 192) ∧ (FZ (M_2.1 (61, 0, 0)) u.toInt v3_2.toInt) ∧ (InvD M_2) ∧ (FR (S_c_X12_findFar) Mz M_2) ∧ (v3_2.toInt < 192) ∧ (((¬ v3_2.toInt = u.toInt) ∧ ∃ j58_ : Nat, ((j58_ : Int) = v3_2.toInt) ∧ ∃ M56_ : mM, (M56_ = up M_2 (61, 0, 0) j58_ 1000000) ∧ ∃ z62_ : Int32, (z62_.toInt = v3_2.toInt + 1) ∧ v3_2y = z62_ ∧ M_2y = M56_) ∨ ((v3_2.toInt = u.toInt) ∧ ∃ j66_ : Nat, ((j66_ : Int) = v3_2.toInt) ∧ ∃ M64_ : mM, (M64_ = up M_2 (61, 0, 0) j66_ 0) ∧ ∃ z70_ : Int32, (z70_.toInt = v3_2.toInt + 1) ∧ v3_2y = z70_ ∧ M_2y = M64_))
def SP_X12_findFar (v : Int32) (u : Int32) (Mz : mM) (M_ : mM) : Prop := ∃ v3_2 : Int32, (0 ≤ v3_2.toInt) ∧ (v3_2.toInt ≤ 192) ∧ ∃ M_2 : mM, (FZ (M_2.1 (61, 0, 0)) u.toInt v3_2.toInt) ∧ (RCH (fun x_ y_ => ST_X12_findFar_2 u Mz x_.1 x_.2 y_.1 y_.2) ((0 : Int32), Mz) (v3_2, M_2)) ∧ (InvD M_2) ∧ (FR (S_c_X12_findFar) Mz M_2) ∧ (192 ≤ v3_2.toInt) ∧ (FA (M_2.1 (61, 0, 0)) u.toInt) ∧ (FB (M_2.1 (61, 0, 0)) (M_2.1 (50, 0, 0)) v u.toInt) ∧ ∃ v3_35 : Int32, (0 ≤ v3_35.toInt ∧ v3_35.toInt ≤ 1) ∧ ∃ M_35 : mM, (v3_35.toInt = 0 → RX (M_35.1 (61, 0, 0)) (M_35.1 (50, 0, 0)) v 192 0) ∧ (RCH (fun x_ y_ => ST_X12_findFar_35 v u Mz x_.1 x_.2 y_.1 y_.2) ((1 : Int32), M_2) (v3_35, M_35)) ∧ (InvD M_35) ∧ (FR (S_c_X12_findFar) Mz M_35) ∧ (v3_35.toInt = 0) ∧ M_ = M_35
theorem lf_c_X12_findFar_0 (v3_2 : Int32) (h2_ : 192 ≤ v3_2.toInt) : 192 ≤ v3_2.toInt := by omega
theorem lf_c_X12_findFar_2 (v4_44 : Int32) (hv1_44 : v4_44.toInt ≤ 192) (h9_ : 192 ≤ v4_44.toInt) : 192 = v4_44.toInt := by omega
theorem lf_c_X12_findFar_3 (M_2 : mM) (M_35 : mM) (M_44 : mM) (v : Int32) (u : Int32) (v3_2 : Int32) (v3_35 : Int32) (v4_44 : Int32) (v3_44 : Int32) (hv : 0 ≤ v.toInt ∧ v.toInt ≤ 7) (hu : 0 ≤ u.toInt ∧ u.toInt ≤ 191) (hv0_2 : 0 ≤ v3_2.toInt) (hv1_2 : v3_2.toInt ≤ 192) (hv2_2 : FZ (M_2.1 (61, 0, 0)) u.toInt v3_2.toInt) (h2_ : 192 ≤ v3_2.toInt) (h4_ : FA (M_2.1 (61, 0, 0)) u.toInt) (h5_ : FB (M_2.1 (61, 0, 0)) (M_2.1 (50, 0, 0)) v u.toInt) (hv0_35 : 0 ≤ v3_35.toInt ∧ v3_35.toInt ≤ 1) (hv1_35 : v3_35.toInt = 0 → RX (M_35.1 (61, 0, 0)) (M_35.1 (50, 0, 0)) v 192 0) (kv0_35 : FA (M_35.1 (61, 0, 0)) u.toInt) (kv1_35 : FB (M_35.1 (61, 0, 0)) (M_35.1 (50, 0, 0)) v u.toInt) (h7_ : ¬ v3_35.toInt = 0) (hv0_44 : 0 ≤ v4_44.toInt) (hv1_44 : v4_44.toInt ≤ 192) (hv2_44 : 0 ≤ v3_44.toInt ∧ v3_44.toInt ≤ 1) (hv3_44 : v3_44.toInt = 0 → RX (M_44.1 (61, 0, 0)) (M_44.1 (50, 0, 0)) v v4_44.toInt 0) (hv4_44 : smF (M_44.1 (61, 0, 0)) 192 + v3_44.toInt.toNat ≤ smF (M_35.1 (61, 0, 0)) 192) (kv0_44 : FA (M_44.1 (61, 0, 0)) u.toInt) (kv1_44 : FB (M_44.1 (61, 0, 0)) (M_44.1 (50, 0, 0)) v u.toInt) (h9_ : 192 ≤ v4_44.toInt) : 2 * smF (M_44.1 (61, 0, 0)) 192 + v3_44.toInt.toNat < 2 * smF (M_35.1 (61, 0, 0)) 192 + v3_35.toInt.toNat := by have r_v := rngI v; have r_u := rngI u; have r_v3_2 := rngI v3_2; have r_v3_35 := rngI v3_35; have r_v4_44 := rngI v4_44; have r_v3_44 := rngI v3_44; omega
theorem lf_c_X12_findFar_5 (v4_44 : Int32) (j12_ : Nat) (h9_ : v4_44.toInt < 192) (h13_ : (j12_ : Int) = v4_44.toInt) : j12_ < 192 := by omega
theorem lf_c_X12_findFar_8 (M_44 : mM) (v : Int32) (v4_44 : Int32) (z10_ : Int32) (r15_ : Int32) (h14_ : 0 ≤ z10_.toInt ∧ z10_.toInt ≤ 1000000) (h18_ : 1 ≤ r15_.toInt ∧ r15_.toInt ≤ 20 ∧ r15_.toInt = costZ (M_44.1 (50, 0, 0)) v v4_44.toInt) : -2147483648 ≤ z10_.toInt + r15_.toInt ∧ z10_.toInt + r15_.toInt < 2147483648 := by omega
theorem lf_c_X12_findFar_12 (v6_72 : Int32) (h23_ : 8 ≤ v6_72.toInt) : 8 ≤ v6_72.toInt := by omega
theorem lf_c_X12_findFar_14 (M_2 : mM) (M_35 : mM) (M_44 : mM) (M_72 : mM) (v : Int32) (u : Int32) (v3_2 : Int32) (v3_35 : Int32) (v4_44 : Int32) (v3_44 : Int32) (j12_ : Nat) (z10_ : Int32) (r15_ : Int32) (z20_ : Int32) (v6_72 : Int32) (v3_72 : Int32) (z24_ : Int32) (hv : 0 ≤ v.toInt ∧ v.toInt ≤ 7) (hu : 0 ≤ u.toInt ∧ u.toInt ≤ 191) (hv0_2 : 0 ≤ v3_2.toInt) (hv1_2 : v3_2.toInt ≤ 192) (hv2_2 : FZ (M_2.1 (61, 0, 0)) u.toInt v3_2.toInt) (h2_ : 192 ≤ v3_2.toInt) (h4_ : FA (M_2.1 (61, 0, 0)) u.toInt) (h5_ : FB (M_2.1 (61, 0, 0)) (M_2.1 (50, 0, 0)) v u.toInt) (hv0_35 : 0 ≤ v3_35.toInt ∧ v3_35.toInt ≤ 1) (hv1_35 : v3_35.toInt = 0 → RX (M_35.1 (61, 0, 0)) (M_35.1 (50, 0, 0)) v 192 0) (kv0_35 : FA (M_35.1 (61, 0, 0)) u.toInt) (kv1_35 : FB (M_35.1 (61, 0, 0)) (M_35.1 (50, 0, 0)) v u.toInt) (h7_ : ¬ v3_35.toInt = 0) (hv0_44 : 0 ≤ v4_44.toInt) (hv1_44 : v4_44.toInt ≤ 192) (hv2_44 : 0 ≤ v3_44.toInt ∧ v3_44.toInt ≤ 1) (hv3_44 : v3_44.toInt = 0 → RX (M_44.1 (61, 0, 0)) (M_44.1 (50, 0, 0)) v v4_44.toInt 0) (hv4_44 : smF (M_44.1 (61, 0, 0)) 192 + v3_44.toInt.toNat ≤ smF (M_35.1 (61, 0, 0)) 192) (kv0_44 : FA (M_44.1 (61, 0, 0)) u.toInt) (kv1_44 : FB (M_44.1 (61, 0, 0)) (M_44.1 (50, 0, 0)) v u.toInt) (h9_ : v4_44.toInt < 192) (h13_ : (j12_ : Int) = v4_44.toInt) (e11_ : z10_ = M_44.1 (61, 0, 0) j12_) (h14_ : 0 ≤ z10_.toInt ∧ z10_.toInt ≤ 1000000) (h18_ : 1 ≤ r15_.toInt ∧ r15_.toInt ≤ 20 ∧ r15_.toInt = costZ (M_44.1 (50, 0, 0)) v v4_44.toInt) (h21_ : z20_.toInt = z10_.toInt + r15_.toInt) (hv0_72 : 0 ≤ v6_72.toInt) (hv1_72 : v6_72.toInt ≤ 8) (hv2_72 : v6_72.toInt % 2 = 0) (hv3_72 : 0 ≤ v3_72.toInt ∧ v3_72.toInt ≤ 1) (hv4_72 : v3_72.toInt = 0 → RX (M_72.1 (61, 0, 0)) (M_72.1 (50, 0, 0)) v v4_44.toInt v6_72.toInt) (hv5_72 : smF (M_72.1 (61, 0, 0)) 192 + v3_72.toInt.toNat ≤ smF (M_35.1 (61, 0, 0)) 192) (hv6_72 : z20_.toInt = gq (M_72.1 (61, 0, 0)) v4_44.toInt.toNat + costZ (M_72.1 (50, 0, 0)) v ((v4_44.toInt.toNat : Nat) : Int)) (kv0_72 : FA (M_72.1 (61, 0, 0)) u.toInt) (kv1_72 : FB (M_72.1 (61, 0, 0)) (M_72.1 (50, 0, 0)) v u.toInt) (h23_ : 8 ≤ v6_72.toInt) (h25_ : z24_.toInt = v4_44.toInt + 1) : smF (M_72.1 (61, 0, 0)) 192 + v3_72.toInt.toNat ≤ smF (M_35.1 (61, 0, 0)) 192 := by have r_v := rngI v; have r_u := rngI u; have r_v3_2 := rngI v3_2; have r_v3_35 := rngI v3_35; have r_v4_44 := rngI v4_44; have r_v3_44 := rngI v3_44; have r_z10_ := rngI z10_; have r_r15_ := rngI r15_; have r_z20_ := rngI z20_; have r_v6_72 := rngI v6_72; have r_v3_72 := rngI v3_72; have r_z24_ := rngI z24_; omega
theorem lf_c_X12_findFar_15 (v4_44 : Int32) (z24_ : Int32) (h9_ : v4_44.toInt < 192) (h25_ : z24_.toInt = v4_44.toInt + 1) : (192 - z24_.toInt).toNat < (192 - v4_44.toInt).toNat := by omega
theorem lf_c_X12_findFar_17 (M_2 : mM) (M_35 : mM) (M_44 : mM) (M_72 : mM) (v : Int32) (u : Int32) (v3_2 : Int32) (v3_35 : Int32) (v4_44 : Int32) (v3_44 : Int32) (j12_ : Nat) (z10_ : Int32) (r15_ : Int32) (z20_ : Int32) (v6_72 : Int32) (v3_72 : Int32) (hv : 0 ≤ v.toInt ∧ v.toInt ≤ 7) (hu : 0 ≤ u.toInt ∧ u.toInt ≤ 191) (hv0_2 : 0 ≤ v3_2.toInt) (hv1_2 : v3_2.toInt ≤ 192) (hv2_2 : FZ (M_2.1 (61, 0, 0)) u.toInt v3_2.toInt) (h2_ : 192 ≤ v3_2.toInt) (h4_ : FA (M_2.1 (61, 0, 0)) u.toInt) (h5_ : FB (M_2.1 (61, 0, 0)) (M_2.1 (50, 0, 0)) v u.toInt) (hv0_35 : 0 ≤ v3_35.toInt ∧ v3_35.toInt ≤ 1) (hv1_35 : v3_35.toInt = 0 → RX (M_35.1 (61, 0, 0)) (M_35.1 (50, 0, 0)) v 192 0) (kv0_35 : FA (M_35.1 (61, 0, 0)) u.toInt) (kv1_35 : FB (M_35.1 (61, 0, 0)) (M_35.1 (50, 0, 0)) v u.toInt) (h7_ : ¬ v3_35.toInt = 0) (hv0_44 : 0 ≤ v4_44.toInt) (hv1_44 : v4_44.toInt ≤ 192) (hv2_44 : 0 ≤ v3_44.toInt ∧ v3_44.toInt ≤ 1) (hv3_44 : v3_44.toInt = 0 → RX (M_44.1 (61, 0, 0)) (M_44.1 (50, 0, 0)) v v4_44.toInt 0) (hv4_44 : smF (M_44.1 (61, 0, 0)) 192 + v3_44.toInt.toNat ≤ smF (M_35.1 (61, 0, 0)) 192) (kv0_44 : FA (M_44.1 (61, 0, 0)) u.toInt) (kv1_44 : FB (M_44.1 (61, 0, 0)) (M_44.1 (50, 0, 0)) v u.toInt) (h9_ : v4_44.toInt < 192) (h13_ : (j12_ : Int) = v4_44.toInt) (e11_ : z10_ = M_44.1 (61, 0, 0) j12_) (h14_ : 0 ≤ z10_.toInt ∧ z10_.toInt ≤ 1000000) (h18_ : 1 ≤ r15_.toInt ∧ r15_.toInt ≤ 20 ∧ r15_.toInt = costZ (M_44.1 (50, 0, 0)) v v4_44.toInt) (h21_ : z20_.toInt = z10_.toInt + r15_.toInt) (hv0_72 : 0 ≤ v6_72.toInt) (hv1_72 : v6_72.toInt ≤ 8) (hv2_72 : v6_72.toInt % 2 = 0) (hv3_72 : 0 ≤ v3_72.toInt ∧ v3_72.toInt ≤ 1) (hv4_72 : v3_72.toInt = 0 → RX (M_72.1 (61, 0, 0)) (M_72.1 (50, 0, 0)) v v4_44.toInt v6_72.toInt) (hv5_72 : smF (M_72.1 (61, 0, 0)) 192 + v3_72.toInt.toNat ≤ smF (M_35.1 (61, 0, 0)) 192) (hv6_72 : z20_.toInt = gq (M_72.1 (61, 0, 0)) v4_44.toInt.toNat + costZ (M_72.1 (50, 0, 0)) v ((v4_44.toInt.toNat : Nat) : Int)) (kv0_72 : FA (M_72.1 (61, 0, 0)) u.toInt) (kv1_72 : FB (M_72.1 (61, 0, 0)) (M_72.1 (50, 0, 0)) v u.toInt) (h23_ : v6_72.toInt < 8) : v6_72.toInt = 0 ∨ v6_72.toInt = 2 ∨ v6_72.toInt = 4 ∨ v6_72.toInt = 6 := by have r_v := rngI v; have r_u := rngI u; have r_v3_2 := rngI v3_2; have r_v3_35 := rngI v3_35; have r_v4_44 := rngI v4_44; have r_v3_44 := rngI v3_44; have r_z10_ := rngI z10_; have r_r15_ := rngI r15_; have r_z20_ := rngI z20_; have r_v6_72 := rngI v6_72; have r_v3_72 := rngI v3_72; subst e11_; omega
theorem lf_c_X12_findFar_20 (M_2 : mM) (M_35 : mM) (M_44 : mM) (M_72 : mM) (v : Int32) (u : Int32) (v3_2 : Int32) (v3_35 : Int32) (v4_44 : Int32) (v3_44 : Int32) (j12_ : Nat) (z10_ : Int32) (r15_ : Int32) (z20_ : Int32) (v6_72 : Int32) (v3_72 : Int32) (r26_ : Int32) (z32_ : Int32) (hv : 0 ≤ v.toInt ∧ v.toInt ≤ 7) (hu : 0 ≤ u.toInt ∧ u.toInt ≤ 191) (hv0_2 : 0 ≤ v3_2.toInt) (hv1_2 : v3_2.toInt ≤ 192) (hv2_2 : FZ (M_2.1 (61, 0, 0)) u.toInt v3_2.toInt) (h2_ : 192 ≤ v3_2.toInt) (h4_ : FA (M_2.1 (61, 0, 0)) u.toInt) (h5_ : FB (M_2.1 (61, 0, 0)) (M_2.1 (50, 0, 0)) v u.toInt) (hv0_35 : 0 ≤ v3_35.toInt ∧ v3_35.toInt ≤ 1) (hv1_35 : v3_35.toInt = 0 → RX (M_35.1 (61, 0, 0)) (M_35.1 (50, 0, 0)) v 192 0) (kv0_35 : FA (M_35.1 (61, 0, 0)) u.toInt) (kv1_35 : FB (M_35.1 (61, 0, 0)) (M_35.1 (50, 0, 0)) v u.toInt) (h7_ : ¬ v3_35.toInt = 0) (hv0_44 : 0 ≤ v4_44.toInt) (hv1_44 : v4_44.toInt ≤ 192) (hv2_44 : 0 ≤ v3_44.toInt ∧ v3_44.toInt ≤ 1) (hv3_44 : v3_44.toInt = 0 → RX (M_44.1 (61, 0, 0)) (M_44.1 (50, 0, 0)) v v4_44.toInt 0) (hv4_44 : smF (M_44.1 (61, 0, 0)) 192 + v3_44.toInt.toNat ≤ smF (M_35.1 (61, 0, 0)) 192) (kv0_44 : FA (M_44.1 (61, 0, 0)) u.toInt) (kv1_44 : FB (M_44.1 (61, 0, 0)) (M_44.1 (50, 0, 0)) v u.toInt) (h9_ : v4_44.toInt < 192) (h13_ : (j12_ : Int) = v4_44.toInt) (e11_ : z10_ = M_44.1 (61, 0, 0) j12_) (h14_ : 0 ≤ z10_.toInt ∧ z10_.toInt ≤ 1000000) (h18_ : 1 ≤ r15_.toInt ∧ r15_.toInt ≤ 20 ∧ r15_.toInt = costZ (M_44.1 (50, 0, 0)) v v4_44.toInt) (h21_ : z20_.toInt = z10_.toInt + r15_.toInt) (hv0_72 : 0 ≤ v6_72.toInt) (hv1_72 : v6_72.toInt ≤ 8) (hv2_72 : v6_72.toInt % 2 = 0) (hv3_72 : 0 ≤ v3_72.toInt ∧ v3_72.toInt ≤ 1) (hv4_72 : v3_72.toInt = 0 → RX (M_72.1 (61, 0, 0)) (M_72.1 (50, 0, 0)) v v4_44.toInt v6_72.toInt) (hv5_72 : smF (M_72.1 (61, 0, 0)) 192 + v3_72.toInt.toNat ≤ smF (M_35.1 (61, 0, 0)) 192) (hv6_72 : z20_.toInt = gq (M_72.1 (61, 0, 0)) v4_44.toInt.toNat + costZ (M_72.1 (50, 0, 0)) v ((v4_44.toInt.toNat : Nat) : Int)) (kv0_72 : FA (M_72.1 (61, 0, 0)) u.toInt) (kv1_72 : FB (M_72.1 (61, 0, 0)) (M_72.1 (50, 0, 0)) v u.toInt) (h23_ : v6_72.toInt < 8) (h29_ : ((r26_.toInt = -1 ∧ ∀ n : Nat, ¬ nbP v4_44.toInt.toNat v6_72.toInt.toNat n) ∨ (0 ≤ r26_.toInt ∧ r26_.toInt ≤ 191 ∧ nbP v4_44.toInt.toNat v6_72.toInt.toNat r26_.toInt.toNat))) (h31_ : r26_.toInt < 0) (h33_ : z32_.toInt = v6_72.toInt + 2) : z32_.toInt ≤ 8 := by have r_v := rngI v; have r_u := rngI u; have r_v3_2 := rngI v3_2; have r_v3_35 := rngI v3_35; have r_v4_44 := rngI v4_44; have r_v3_44 := rngI v3_44; have r_z10_ := rngI z10_; have r_r15_ := rngI r15_; have r_z20_ := rngI z20_; have r_v6_72 := rngI v6_72; have r_v3_72 := rngI v3_72; have r_r26_ := rngI r26_; have r_z32_ := rngI z32_; subst e11_; omega
theorem lf_c_X12_findFar_21 (M_2 : mM) (M_35 : mM) (M_44 : mM) (M_72 : mM) (v : Int32) (u : Int32) (v3_2 : Int32) (v3_35 : Int32) (v4_44 : Int32) (v3_44 : Int32) (j12_ : Nat) (z10_ : Int32) (r15_ : Int32) (z20_ : Int32) (v6_72 : Int32) (v3_72 : Int32) (r26_ : Int32) (z32_ : Int32) (hv : 0 ≤ v.toInt ∧ v.toInt ≤ 7) (hu : 0 ≤ u.toInt ∧ u.toInt ≤ 191) (hv0_2 : 0 ≤ v3_2.toInt) (hv1_2 : v3_2.toInt ≤ 192) (hv2_2 : FZ (M_2.1 (61, 0, 0)) u.toInt v3_2.toInt) (h2_ : 192 ≤ v3_2.toInt) (h4_ : FA (M_2.1 (61, 0, 0)) u.toInt) (h5_ : FB (M_2.1 (61, 0, 0)) (M_2.1 (50, 0, 0)) v u.toInt) (hv0_35 : 0 ≤ v3_35.toInt ∧ v3_35.toInt ≤ 1) (hv1_35 : v3_35.toInt = 0 → RX (M_35.1 (61, 0, 0)) (M_35.1 (50, 0, 0)) v 192 0) (kv0_35 : FA (M_35.1 (61, 0, 0)) u.toInt) (kv1_35 : FB (M_35.1 (61, 0, 0)) (M_35.1 (50, 0, 0)) v u.toInt) (h7_ : ¬ v3_35.toInt = 0) (hv0_44 : 0 ≤ v4_44.toInt) (hv1_44 : v4_44.toInt ≤ 192) (hv2_44 : 0 ≤ v3_44.toInt ∧ v3_44.toInt ≤ 1) (hv3_44 : v3_44.toInt = 0 → RX (M_44.1 (61, 0, 0)) (M_44.1 (50, 0, 0)) v v4_44.toInt 0) (hv4_44 : smF (M_44.1 (61, 0, 0)) 192 + v3_44.toInt.toNat ≤ smF (M_35.1 (61, 0, 0)) 192) (kv0_44 : FA (M_44.1 (61, 0, 0)) u.toInt) (kv1_44 : FB (M_44.1 (61, 0, 0)) (M_44.1 (50, 0, 0)) v u.toInt) (h9_ : v4_44.toInt < 192) (h13_ : (j12_ : Int) = v4_44.toInt) (e11_ : z10_ = M_44.1 (61, 0, 0) j12_) (h14_ : 0 ≤ z10_.toInt ∧ z10_.toInt ≤ 1000000) (h18_ : 1 ≤ r15_.toInt ∧ r15_.toInt ≤ 20 ∧ r15_.toInt = costZ (M_44.1 (50, 0, 0)) v v4_44.toInt) (h21_ : z20_.toInt = z10_.toInt + r15_.toInt) (hv0_72 : 0 ≤ v6_72.toInt) (hv1_72 : v6_72.toInt ≤ 8) (hv2_72 : v6_72.toInt % 2 = 0) (hv3_72 : 0 ≤ v3_72.toInt ∧ v3_72.toInt ≤ 1) (hv4_72 : v3_72.toInt = 0 → RX (M_72.1 (61, 0, 0)) (M_72.1 (50, 0, 0)) v v4_44.toInt v6_72.toInt) (hv5_72 : smF (M_72.1 (61, 0, 0)) 192 + v3_72.toInt.toNat ≤ smF (M_35.1 (61, 0, 0)) 192) (hv6_72 : z20_.toInt = gq (M_72.1 (61, 0, 0)) v4_44.toInt.toNat + costZ (M_72.1 (50, 0, 0)) v ((v4_44.toInt.toNat : Nat) : Int)) (kv0_72 : FA (M_72.1 (61, 0, 0)) u.toInt) (kv1_72 : FB (M_72.1 (61, 0, 0)) (M_72.1 (50, 0, 0)) v u.toInt) (h23_ : v6_72.toInt < 8) (h29_ : ((r26_.toInt = -1 ∧ ∀ n : Nat, ¬ nbP v4_44.toInt.toNat v6_72.toInt.toNat n) ∨ (0 ≤ r26_.toInt ∧ r26_.toInt ≤ 191 ∧ nbP v4_44.toInt.toNat v6_72.toInt.toNat r26_.toInt.toNat))) (h31_ : r26_.toInt < 0) (h33_ : z32_.toInt = v6_72.toInt + 2) : z32_.toInt % 2 = 0 := by have r_v := rngI v; have r_u := rngI u; have r_v3_2 := rngI v3_2; have r_v3_35 := rngI v3_35; have r_v4_44 := rngI v4_44; have r_v3_44 := rngI v3_44; have r_z10_ := rngI z10_; have r_r15_ := rngI r15_; have r_z20_ := rngI z20_; have r_v6_72 := rngI v6_72; have r_v3_72 := rngI v3_72; have r_r26_ := rngI r26_; have r_z32_ := rngI z32_; subst e11_; omega
theorem lf_c_X12_findFar_22 (v6_72 : Int32) (z32_ : Int32) (h33_ : z32_.toInt = v6_72.toInt + 2) : z32_.toInt = v6_72.toInt + 2 := by omega
theorem lf_c_X12_findFar_23 (v4_44 : Int32) (v6_72 : Int32) (hv0_44 : 0 ≤ v4_44.toInt) (hv0_72 : 0 ≤ v6_72.toInt) : 0 ≤ v4_44.toInt ∧ 0 ≤ v6_72.toInt := by omega
theorem lf_c_X12_findFar_24 (v6_72 : Int32) (hv2_72 : v6_72.toInt % 2 = 0) : v6_72.toInt % 2 = 0 := by omega
theorem lf_c_X12_findFar_25 (r26_ : Int32) (h31_ : r26_.toInt < 0) : ¬ 0 ≤ r26_.toInt := by omega
theorem lf_c_X12_findFar_26 (M_2 : mM) (M_35 : mM) (M_44 : mM) (M_72 : mM) (v : Int32) (u : Int32) (v3_2 : Int32) (v3_35 : Int32) (v4_44 : Int32) (v3_44 : Int32) (j12_ : Nat) (z10_ : Int32) (r15_ : Int32) (z20_ : Int32) (v6_72 : Int32) (v3_72 : Int32) (r26_ : Int32) (z32_ : Int32) (hv : 0 ≤ v.toInt ∧ v.toInt ≤ 7) (hu : 0 ≤ u.toInt ∧ u.toInt ≤ 191) (hv0_2 : 0 ≤ v3_2.toInt) (hv1_2 : v3_2.toInt ≤ 192) (hv2_2 : FZ (M_2.1 (61, 0, 0)) u.toInt v3_2.toInt) (h2_ : 192 ≤ v3_2.toInt) (h4_ : FA (M_2.1 (61, 0, 0)) u.toInt) (h5_ : FB (M_2.1 (61, 0, 0)) (M_2.1 (50, 0, 0)) v u.toInt) (hv0_35 : 0 ≤ v3_35.toInt ∧ v3_35.toInt ≤ 1) (hv1_35 : v3_35.toInt = 0 → RX (M_35.1 (61, 0, 0)) (M_35.1 (50, 0, 0)) v 192 0) (kv0_35 : FA (M_35.1 (61, 0, 0)) u.toInt) (kv1_35 : FB (M_35.1 (61, 0, 0)) (M_35.1 (50, 0, 0)) v u.toInt) (h7_ : ¬ v3_35.toInt = 0) (hv0_44 : 0 ≤ v4_44.toInt) (hv1_44 : v4_44.toInt ≤ 192) (hv2_44 : 0 ≤ v3_44.toInt ∧ v3_44.toInt ≤ 1) (hv3_44 : v3_44.toInt = 0 → RX (M_44.1 (61, 0, 0)) (M_44.1 (50, 0, 0)) v v4_44.toInt 0) (hv4_44 : smF (M_44.1 (61, 0, 0)) 192 + v3_44.toInt.toNat ≤ smF (M_35.1 (61, 0, 0)) 192) (kv0_44 : FA (M_44.1 (61, 0, 0)) u.toInt) (kv1_44 : FB (M_44.1 (61, 0, 0)) (M_44.1 (50, 0, 0)) v u.toInt) (h9_ : v4_44.toInt < 192) (h13_ : (j12_ : Int) = v4_44.toInt) (e11_ : z10_ = M_44.1 (61, 0, 0) j12_) (h14_ : 0 ≤ z10_.toInt ∧ z10_.toInt ≤ 1000000) (h18_ : 1 ≤ r15_.toInt ∧ r15_.toInt ≤ 20 ∧ r15_.toInt = costZ (M_44.1 (50, 0, 0)) v v4_44.toInt) (h21_ : z20_.toInt = z10_.toInt + r15_.toInt) (hv0_72 : 0 ≤ v6_72.toInt) (hv1_72 : v6_72.toInt ≤ 8) (hv2_72 : v6_72.toInt % 2 = 0) (hv3_72 : 0 ≤ v3_72.toInt ∧ v3_72.toInt ≤ 1) (hv4_72 : v3_72.toInt = 0 → RX (M_72.1 (61, 0, 0)) (M_72.1 (50, 0, 0)) v v4_44.toInt v6_72.toInt) (hv5_72 : smF (M_72.1 (61, 0, 0)) 192 + v3_72.toInt.toNat ≤ smF (M_35.1 (61, 0, 0)) 192) (hv6_72 : z20_.toInt = gq (M_72.1 (61, 0, 0)) v4_44.toInt.toNat + costZ (M_72.1 (50, 0, 0)) v ((v4_44.toInt.toNat : Nat) : Int)) (kv0_72 : FA (M_72.1 (61, 0, 0)) u.toInt) (kv1_72 : FB (M_72.1 (61, 0, 0)) (M_72.1 (50, 0, 0)) v u.toInt) (h23_ : v6_72.toInt < 8) (h29_ : ((r26_.toInt = -1 ∧ ∀ n : Nat, ¬ nbP v4_44.toInt.toNat v6_72.toInt.toNat n) ∨ (0 ≤ r26_.toInt ∧ r26_.toInt ≤ 191 ∧ nbP v4_44.toInt.toNat v6_72.toInt.toNat r26_.toInt.toNat))) (h31_ : r26_.toInt < 0) (h33_ : z32_.toInt = v6_72.toInt + 2) : smF (M_72.1 (61, 0, 0)) 192 + v3_72.toInt.toNat ≤ smF (M_35.1 (61, 0, 0)) 192 := by have r_v := rngI v; have r_u := rngI u; have r_v3_2 := rngI v3_2; have r_v3_35 := rngI v3_35; have r_v4_44 := rngI v4_44; have r_v3_44 := rngI v3_44; have r_z10_ := rngI z10_; have r_r15_ := rngI r15_; have r_z20_ := rngI z20_; have r_v6_72 := rngI v6_72; have r_v3_72 := rngI v3_72; have r_r26_ := rngI r26_; have r_z32_ := rngI z32_; omega
theorem lf_c_X12_findFar_27 (v6_72 : Int32) (z32_ : Int32) (h23_ : v6_72.toInt < 8) (h33_ : z32_.toInt = v6_72.toInt + 2) : (8 - z32_.toInt).toNat < (8 - v6_72.toInt).toNat := by omega
theorem lf_c_X12_findFar_28 (M_2 : mM) (M_35 : mM) (M_44 : mM) (M_72 : mM) (v : Int32) (u : Int32) (v3_2 : Int32) (v3_35 : Int32) (v4_44 : Int32) (v3_44 : Int32) (j12_ : Nat) (z10_ : Int32) (r15_ : Int32) (z20_ : Int32) (v6_72 : Int32) (v3_72 : Int32) (r26_ : Int32) (hv : 0 ≤ v.toInt ∧ v.toInt ≤ 7) (hu : 0 ≤ u.toInt ∧ u.toInt ≤ 191) (hv0_2 : 0 ≤ v3_2.toInt) (hv1_2 : v3_2.toInt ≤ 192) (hv2_2 : FZ (M_2.1 (61, 0, 0)) u.toInt v3_2.toInt) (h2_ : 192 ≤ v3_2.toInt) (h4_ : FA (M_2.1 (61, 0, 0)) u.toInt) (h5_ : FB (M_2.1 (61, 0, 0)) (M_2.1 (50, 0, 0)) v u.toInt) (hv0_35 : 0 ≤ v3_35.toInt ∧ v3_35.toInt ≤ 1) (hv1_35 : v3_35.toInt = 0 → RX (M_35.1 (61, 0, 0)) (M_35.1 (50, 0, 0)) v 192 0) (kv0_35 : FA (M_35.1 (61, 0, 0)) u.toInt) (kv1_35 : FB (M_35.1 (61, 0, 0)) (M_35.1 (50, 0, 0)) v u.toInt) (h7_ : ¬ v3_35.toInt = 0) (hv0_44 : 0 ≤ v4_44.toInt) (hv1_44 : v4_44.toInt ≤ 192) (hv2_44 : 0 ≤ v3_44.toInt ∧ v3_44.toInt ≤ 1) (hv3_44 : v3_44.toInt = 0 → RX (M_44.1 (61, 0, 0)) (M_44.1 (50, 0, 0)) v v4_44.toInt 0) (hv4_44 : smF (M_44.1 (61, 0, 0)) 192 + v3_44.toInt.toNat ≤ smF (M_35.1 (61, 0, 0)) 192) (kv0_44 : FA (M_44.1 (61, 0, 0)) u.toInt) (kv1_44 : FB (M_44.1 (61, 0, 0)) (M_44.1 (50, 0, 0)) v u.toInt) (h9_ : v4_44.toInt < 192) (h13_ : (j12_ : Int) = v4_44.toInt) (e11_ : z10_ = M_44.1 (61, 0, 0) j12_) (h14_ : 0 ≤ z10_.toInt ∧ z10_.toInt ≤ 1000000) (h18_ : 1 ≤ r15_.toInt ∧ r15_.toInt ≤ 20 ∧ r15_.toInt = costZ (M_44.1 (50, 0, 0)) v v4_44.toInt) (h21_ : z20_.toInt = z10_.toInt + r15_.toInt) (hv0_72 : 0 ≤ v6_72.toInt) (hv1_72 : v6_72.toInt ≤ 8) (hv2_72 : v6_72.toInt % 2 = 0) (hv3_72 : 0 ≤ v3_72.toInt ∧ v3_72.toInt ≤ 1) (hv4_72 : v3_72.toInt = 0 → RX (M_72.1 (61, 0, 0)) (M_72.1 (50, 0, 0)) v v4_44.toInt v6_72.toInt) (hv5_72 : smF (M_72.1 (61, 0, 0)) 192 + v3_72.toInt.toNat ≤ smF (M_35.1 (61, 0, 0)) 192) (hv6_72 : z20_.toInt = gq (M_72.1 (61, 0, 0)) v4_44.toInt.toNat + costZ (M_72.1 (50, 0, 0)) v ((v4_44.toInt.toNat : Nat) : Int)) (kv0_72 : FA (M_72.1 (61, 0, 0)) u.toInt) (kv1_72 : FB (M_72.1 (61, 0, 0)) (M_72.1 (50, 0, 0)) v u.toInt) (h23_ : v6_72.toInt < 8) (h29_ : ((r26_.toInt = -1 ∧ ∀ n : Nat, ¬ nbP v4_44.toInt.toNat v6_72.toInt.toNat n) ∨ (0 ≤ r26_.toInt ∧ r26_.toInt ≤ 191 ∧ nbP v4_44.toInt.toNat v6_72.toInt.toNat r26_.toInt.toNat))) (h31_ : 0 ≤ r26_.toInt) : 0 ≤ r26_.toInt ∧ r26_.toInt < ((192 : Nat) : Int) := by have r_v := rngI v; have r_u := rngI u; have r_v3_2 := rngI v3_2; have r_v3_35 := rngI v3_35; have r_v4_44 := rngI v4_44; have r_v3_44 := rngI v3_44; have r_z10_ := rngI z10_; have r_r15_ := rngI r15_; have r_z20_ := rngI z20_; have r_v6_72 := rngI v6_72; have r_v3_72 := rngI v3_72; have r_r26_ := rngI r26_; subst e11_; omega
theorem lf_c_X12_findFar_29 (M_2 : mM) (M_35 : mM) (M_44 : mM) (M_72 : mM) (v : Int32) (u : Int32) (v3_2 : Int32) (v3_35 : Int32) (v4_44 : Int32) (v3_44 : Int32) (j12_ : Nat) (z10_ : Int32) (r15_ : Int32) (z20_ : Int32) (v6_72 : Int32) (v3_72 : Int32) (r26_ : Int32) (j36_ : Nat) (z34_ : Int32) (hv : 0 ≤ v.toInt ∧ v.toInt ≤ 7) (hu : 0 ≤ u.toInt ∧ u.toInt ≤ 191) (hv0_2 : 0 ≤ v3_2.toInt) (hv1_2 : v3_2.toInt ≤ 192) (hv2_2 : FZ (M_2.1 (61, 0, 0)) u.toInt v3_2.toInt) (h2_ : 192 ≤ v3_2.toInt) (h4_ : FA (M_2.1 (61, 0, 0)) u.toInt) (h5_ : FB (M_2.1 (61, 0, 0)) (M_2.1 (50, 0, 0)) v u.toInt) (hv0_35 : 0 ≤ v3_35.toInt ∧ v3_35.toInt ≤ 1) (hv1_35 : v3_35.toInt = 0 → RX (M_35.1 (61, 0, 0)) (M_35.1 (50, 0, 0)) v 192 0) (kv0_35 : FA (M_35.1 (61, 0, 0)) u.toInt) (kv1_35 : FB (M_35.1 (61, 0, 0)) (M_35.1 (50, 0, 0)) v u.toInt) (h7_ : ¬ v3_35.toInt = 0) (hv0_44 : 0 ≤ v4_44.toInt) (hv1_44 : v4_44.toInt ≤ 192) (hv2_44 : 0 ≤ v3_44.toInt ∧ v3_44.toInt ≤ 1) (hv3_44 : v3_44.toInt = 0 → RX (M_44.1 (61, 0, 0)) (M_44.1 (50, 0, 0)) v v4_44.toInt 0) (hv4_44 : smF (M_44.1 (61, 0, 0)) 192 + v3_44.toInt.toNat ≤ smF (M_35.1 (61, 0, 0)) 192) (kv0_44 : FA (M_44.1 (61, 0, 0)) u.toInt) (kv1_44 : FB (M_44.1 (61, 0, 0)) (M_44.1 (50, 0, 0)) v u.toInt) (h9_ : v4_44.toInt < 192) (h13_ : (j12_ : Int) = v4_44.toInt) (e11_ : z10_ = M_44.1 (61, 0, 0) j12_) (h14_ : 0 ≤ z10_.toInt ∧ z10_.toInt ≤ 1000000) (h18_ : 1 ≤ r15_.toInt ∧ r15_.toInt ≤ 20 ∧ r15_.toInt = costZ (M_44.1 (50, 0, 0)) v v4_44.toInt) (h21_ : z20_.toInt = z10_.toInt + r15_.toInt) (hv0_72 : 0 ≤ v6_72.toInt) (hv1_72 : v6_72.toInt ≤ 8) (hv2_72 : v6_72.toInt % 2 = 0) (hv3_72 : 0 ≤ v3_72.toInt ∧ v3_72.toInt ≤ 1) (hv4_72 : v3_72.toInt = 0 → RX (M_72.1 (61, 0, 0)) (M_72.1 (50, 0, 0)) v v4_44.toInt v6_72.toInt) (hv5_72 : smF (M_72.1 (61, 0, 0)) 192 + v3_72.toInt.toNat ≤ smF (M_35.1 (61, 0, 0)) 192) (hv6_72 : z20_.toInt = gq (M_72.1 (61, 0, 0)) v4_44.toInt.toNat + costZ (M_72.1 (50, 0, 0)) v ((v4_44.toInt.toNat : Nat) : Int)) (kv0_72 : FA (M_72.1 (61, 0, 0)) u.toInt) (kv1_72 : FB (M_72.1 (61, 0, 0)) (M_72.1 (50, 0, 0)) v u.toInt) (h23_ : v6_72.toInt < 8) (h29_ : ((r26_.toInt = -1 ∧ ∀ n : Nat, ¬ nbP v4_44.toInt.toNat v6_72.toInt.toNat n) ∨ (0 ≤ r26_.toInt ∧ r26_.toInt ≤ 191 ∧ nbP v4_44.toInt.toNat v6_72.toInt.toNat r26_.toInt.toNat))) (h31_ : 0 ≤ r26_.toInt) (h37_ : (j36_ : Int) = r26_.toInt) (e35_ : z34_ = M_72.1 (61, 0, 0) j36_) : j36_ < 192 := by have r_v := rngI v; have r_u := rngI u; have r_v3_2 := rngI v3_2; have r_v3_35 := rngI v3_35; have r_v4_44 := rngI v4_44; have r_v3_44 := rngI v3_44; have r_z10_ := rngI z10_; have r_r15_ := rngI r15_; have r_z20_ := rngI z20_; have r_v6_72 := rngI v6_72; have r_v3_72 := rngI v3_72; have r_r26_ := rngI r26_; have r_z34_ := rngI z34_; subst e11_; subst e35_; omega
theorem lf_c_X12_findFar_33 (M_2 : mM) (M_35 : mM) (M_44 : mM) (M_72 : mM) (v : Int32) (u : Int32) (v3_2 : Int32) (v3_35 : Int32) (v4_44 : Int32) (v3_44 : Int32) (j12_ : Nat) (z10_ : Int32) (r15_ : Int32) (z20_ : Int32) (v6_72 : Int32) (v3_72 : Int32) (r26_ : Int32) (j36_ : Nat) (z34_ : Int32) (z40_ : Int32) (hv : 0 ≤ v.toInt ∧ v.toInt ≤ 7) (hu : 0 ≤ u.toInt ∧ u.toInt ≤ 191) (hv0_2 : 0 ≤ v3_2.toInt) (hv1_2 : v3_2.toInt ≤ 192) (hv2_2 : FZ (M_2.1 (61, 0, 0)) u.toInt v3_2.toInt) (h2_ : 192 ≤ v3_2.toInt) (h4_ : FA (M_2.1 (61, 0, 0)) u.toInt) (h5_ : FB (M_2.1 (61, 0, 0)) (M_2.1 (50, 0, 0)) v u.toInt) (hv0_35 : 0 ≤ v3_35.toInt ∧ v3_35.toInt ≤ 1) (hv1_35 : v3_35.toInt = 0 → RX (M_35.1 (61, 0, 0)) (M_35.1 (50, 0, 0)) v 192 0) (kv0_35 : FA (M_35.1 (61, 0, 0)) u.toInt) (kv1_35 : FB (M_35.1 (61, 0, 0)) (M_35.1 (50, 0, 0)) v u.toInt) (h7_ : ¬ v3_35.toInt = 0) (hv0_44 : 0 ≤ v4_44.toInt) (hv1_44 : v4_44.toInt ≤ 192) (hv2_44 : 0 ≤ v3_44.toInt ∧ v3_44.toInt ≤ 1) (hv3_44 : v3_44.toInt = 0 → RX (M_44.1 (61, 0, 0)) (M_44.1 (50, 0, 0)) v v4_44.toInt 0) (hv4_44 : smF (M_44.1 (61, 0, 0)) 192 + v3_44.toInt.toNat ≤ smF (M_35.1 (61, 0, 0)) 192) (kv0_44 : FA (M_44.1 (61, 0, 0)) u.toInt) (kv1_44 : FB (M_44.1 (61, 0, 0)) (M_44.1 (50, 0, 0)) v u.toInt) (h9_ : v4_44.toInt < 192) (h13_ : (j12_ : Int) = v4_44.toInt) (e11_ : z10_ = M_44.1 (61, 0, 0) j12_) (h14_ : 0 ≤ z10_.toInt ∧ z10_.toInt ≤ 1000000) (h18_ : 1 ≤ r15_.toInt ∧ r15_.toInt ≤ 20 ∧ r15_.toInt = costZ (M_44.1 (50, 0, 0)) v v4_44.toInt) (h21_ : z20_.toInt = z10_.toInt + r15_.toInt) (hv0_72 : 0 ≤ v6_72.toInt) (hv1_72 : v6_72.toInt ≤ 8) (hv2_72 : v6_72.toInt % 2 = 0) (hv3_72 : 0 ≤ v3_72.toInt ∧ v3_72.toInt ≤ 1) (hv4_72 : v3_72.toInt = 0 → RX (M_72.1 (61, 0, 0)) (M_72.1 (50, 0, 0)) v v4_44.toInt v6_72.toInt) (hv5_72 : smF (M_72.1 (61, 0, 0)) 192 + v3_72.toInt.toNat ≤ smF (M_35.1 (61, 0, 0)) 192) (hv6_72 : z20_.toInt = gq (M_72.1 (61, 0, 0)) v4_44.toInt.toNat + costZ (M_72.1 (50, 0, 0)) v ((v4_44.toInt.toNat : Nat) : Int)) (kv0_72 : FA (M_72.1 (61, 0, 0)) u.toInt) (kv1_72 : FB (M_72.1 (61, 0, 0)) (M_72.1 (50, 0, 0)) v u.toInt) (h23_ : v6_72.toInt < 8) (h29_ : ((r26_.toInt = -1 ∧ ∀ n : Nat, ¬ nbP v4_44.toInt.toNat v6_72.toInt.toNat n) ∨ (0 ≤ r26_.toInt ∧ r26_.toInt ≤ 191 ∧ nbP v4_44.toInt.toNat v6_72.toInt.toNat r26_.toInt.toNat))) (h31_ : 0 ≤ r26_.toInt) (h37_ : (j36_ : Int) = r26_.toInt) (e35_ : z34_ = M_72.1 (61, 0, 0) j36_) (h38_ : 0 ≤ z34_.toInt ∧ z34_.toInt ≤ 1000000) (h39_ : z34_.toInt ≤ z20_.toInt) (h41_ : z40_.toInt = v6_72.toInt + 2) : z40_.toInt ≤ 8 := by have r_v := rngI v; have r_u := rngI u; have r_v3_2 := rngI v3_2; have r_v3_35 := rngI v3_35; have r_v4_44 := rngI v4_44; have r_v3_44 := rngI v3_44; have r_z10_ := rngI z10_; have r_r15_ := rngI r15_; have r_z20_ := rngI z20_; have r_v6_72 := rngI v6_72; have r_v3_72 := rngI v3_72; have r_r26_ := rngI r26_; have r_z34_ := rngI z34_; have r_z40_ := rngI z40_; subst e11_; subst e35_; omega
theorem lf_c_X12_findFar_34 (M_2 : mM) (M_35 : mM) (M_44 : mM) (M_72 : mM) (v : Int32) (u : Int32) (v3_2 : Int32) (v3_35 : Int32) (v4_44 : Int32) (v3_44 : Int32) (j12_ : Nat) (z10_ : Int32) (r15_ : Int32) (z20_ : Int32) (v6_72 : Int32) (v3_72 : Int32) (r26_ : Int32) (j36_ : Nat) (z34_ : Int32) (z40_ : Int32) (hv : 0 ≤ v.toInt ∧ v.toInt ≤ 7) (hu : 0 ≤ u.toInt ∧ u.toInt ≤ 191) (hv0_2 : 0 ≤ v3_2.toInt) (hv1_2 : v3_2.toInt ≤ 192) (hv2_2 : FZ (M_2.1 (61, 0, 0)) u.toInt v3_2.toInt) (h2_ : 192 ≤ v3_2.toInt) (h4_ : FA (M_2.1 (61, 0, 0)) u.toInt) (h5_ : FB (M_2.1 (61, 0, 0)) (M_2.1 (50, 0, 0)) v u.toInt) (hv0_35 : 0 ≤ v3_35.toInt ∧ v3_35.toInt ≤ 1) (hv1_35 : v3_35.toInt = 0 → RX (M_35.1 (61, 0, 0)) (M_35.1 (50, 0, 0)) v 192 0) (kv0_35 : FA (M_35.1 (61, 0, 0)) u.toInt) (kv1_35 : FB (M_35.1 (61, 0, 0)) (M_35.1 (50, 0, 0)) v u.toInt) (h7_ : ¬ v3_35.toInt = 0) (hv0_44 : 0 ≤ v4_44.toInt) (hv1_44 : v4_44.toInt ≤ 192) (hv2_44 : 0 ≤ v3_44.toInt ∧ v3_44.toInt ≤ 1) (hv3_44 : v3_44.toInt = 0 → RX (M_44.1 (61, 0, 0)) (M_44.1 (50, 0, 0)) v v4_44.toInt 0) (hv4_44 : smF (M_44.1 (61, 0, 0)) 192 + v3_44.toInt.toNat ≤ smF (M_35.1 (61, 0, 0)) 192) (kv0_44 : FA (M_44.1 (61, 0, 0)) u.toInt) (kv1_44 : FB (M_44.1 (61, 0, 0)) (M_44.1 (50, 0, 0)) v u.toInt) (h9_ : v4_44.toInt < 192) (h13_ : (j12_ : Int) = v4_44.toInt) (e11_ : z10_ = M_44.1 (61, 0, 0) j12_) (h14_ : 0 ≤ z10_.toInt ∧ z10_.toInt ≤ 1000000) (h18_ : 1 ≤ r15_.toInt ∧ r15_.toInt ≤ 20 ∧ r15_.toInt = costZ (M_44.1 (50, 0, 0)) v v4_44.toInt) (h21_ : z20_.toInt = z10_.toInt + r15_.toInt) (hv0_72 : 0 ≤ v6_72.toInt) (hv1_72 : v6_72.toInt ≤ 8) (hv2_72 : v6_72.toInt % 2 = 0) (hv3_72 : 0 ≤ v3_72.toInt ∧ v3_72.toInt ≤ 1) (hv4_72 : v3_72.toInt = 0 → RX (M_72.1 (61, 0, 0)) (M_72.1 (50, 0, 0)) v v4_44.toInt v6_72.toInt) (hv5_72 : smF (M_72.1 (61, 0, 0)) 192 + v3_72.toInt.toNat ≤ smF (M_35.1 (61, 0, 0)) 192) (hv6_72 : z20_.toInt = gq (M_72.1 (61, 0, 0)) v4_44.toInt.toNat + costZ (M_72.1 (50, 0, 0)) v ((v4_44.toInt.toNat : Nat) : Int)) (kv0_72 : FA (M_72.1 (61, 0, 0)) u.toInt) (kv1_72 : FB (M_72.1 (61, 0, 0)) (M_72.1 (50, 0, 0)) v u.toInt) (h23_ : v6_72.toInt < 8) (h29_ : ((r26_.toInt = -1 ∧ ∀ n : Nat, ¬ nbP v4_44.toInt.toNat v6_72.toInt.toNat n) ∨ (0 ≤ r26_.toInt ∧ r26_.toInt ≤ 191 ∧ nbP v4_44.toInt.toNat v6_72.toInt.toNat r26_.toInt.toNat))) (h31_ : 0 ≤ r26_.toInt) (h37_ : (j36_ : Int) = r26_.toInt) (e35_ : z34_ = M_72.1 (61, 0, 0) j36_) (h38_ : 0 ≤ z34_.toInt ∧ z34_.toInt ≤ 1000000) (h39_ : z34_.toInt ≤ z20_.toInt) (h41_ : z40_.toInt = v6_72.toInt + 2) : z40_.toInt % 2 = 0 := by have r_v := rngI v; have r_u := rngI u; have r_v3_2 := rngI v3_2; have r_v3_35 := rngI v3_35; have r_v4_44 := rngI v4_44; have r_v3_44 := rngI v3_44; have r_z10_ := rngI z10_; have r_r15_ := rngI r15_; have r_z20_ := rngI z20_; have r_v6_72 := rngI v6_72; have r_v3_72 := rngI v3_72; have r_r26_ := rngI r26_; have r_z34_ := rngI z34_; have r_z40_ := rngI z40_; subst e11_; subst e35_; omega
theorem lf_c_X12_findFar_39 (r26_ : Int32) (j36_ : Nat) (h31_ : 0 ≤ r26_.toInt) (h37_ : (j36_ : Int) = r26_.toInt) : j36_ = r26_.toInt.toNat := by omega
theorem lf_c_X12_findFar_41 (M_2 : mM) (M_35 : mM) (M_44 : mM) (M_72 : mM) (v : Int32) (u : Int32) (v3_2 : Int32) (v3_35 : Int32) (v4_44 : Int32) (v3_44 : Int32) (j12_ : Nat) (z10_ : Int32) (r15_ : Int32) (z20_ : Int32) (v6_72 : Int32) (v3_72 : Int32) (r26_ : Int32) (j36_ : Nat) (z34_ : Int32) (z40_ : Int32) (hv : 0 ≤ v.toInt ∧ v.toInt ≤ 7) (hu : 0 ≤ u.toInt ∧ u.toInt ≤ 191) (hv0_2 : 0 ≤ v3_2.toInt) (hv1_2 : v3_2.toInt ≤ 192) (hv2_2 : FZ (M_2.1 (61, 0, 0)) u.toInt v3_2.toInt) (h2_ : 192 ≤ v3_2.toInt) (h4_ : FA (M_2.1 (61, 0, 0)) u.toInt) (h5_ : FB (M_2.1 (61, 0, 0)) (M_2.1 (50, 0, 0)) v u.toInt) (hv0_35 : 0 ≤ v3_35.toInt ∧ v3_35.toInt ≤ 1) (hv1_35 : v3_35.toInt = 0 → RX (M_35.1 (61, 0, 0)) (M_35.1 (50, 0, 0)) v 192 0) (kv0_35 : FA (M_35.1 (61, 0, 0)) u.toInt) (kv1_35 : FB (M_35.1 (61, 0, 0)) (M_35.1 (50, 0, 0)) v u.toInt) (h7_ : ¬ v3_35.toInt = 0) (hv0_44 : 0 ≤ v4_44.toInt) (hv1_44 : v4_44.toInt ≤ 192) (hv2_44 : 0 ≤ v3_44.toInt ∧ v3_44.toInt ≤ 1) (hv3_44 : v3_44.toInt = 0 → RX (M_44.1 (61, 0, 0)) (M_44.1 (50, 0, 0)) v v4_44.toInt 0) (hv4_44 : smF (M_44.1 (61, 0, 0)) 192 + v3_44.toInt.toNat ≤ smF (M_35.1 (61, 0, 0)) 192) (kv0_44 : FA (M_44.1 (61, 0, 0)) u.toInt) (kv1_44 : FB (M_44.1 (61, 0, 0)) (M_44.1 (50, 0, 0)) v u.toInt) (h9_ : v4_44.toInt < 192) (h13_ : (j12_ : Int) = v4_44.toInt) (e11_ : z10_ = M_44.1 (61, 0, 0) j12_) (h14_ : 0 ≤ z10_.toInt ∧ z10_.toInt ≤ 1000000) (h18_ : 1 ≤ r15_.toInt ∧ r15_.toInt ≤ 20 ∧ r15_.toInt = costZ (M_44.1 (50, 0, 0)) v v4_44.toInt) (h21_ : z20_.toInt = z10_.toInt + r15_.toInt) (hv0_72 : 0 ≤ v6_72.toInt) (hv1_72 : v6_72.toInt ≤ 8) (hv2_72 : v6_72.toInt % 2 = 0) (hv3_72 : 0 ≤ v3_72.toInt ∧ v3_72.toInt ≤ 1) (hv4_72 : v3_72.toInt = 0 → RX (M_72.1 (61, 0, 0)) (M_72.1 (50, 0, 0)) v v4_44.toInt v6_72.toInt) (hv5_72 : smF (M_72.1 (61, 0, 0)) 192 + v3_72.toInt.toNat ≤ smF (M_35.1 (61, 0, 0)) 192) (hv6_72 : z20_.toInt = gq (M_72.1 (61, 0, 0)) v4_44.toInt.toNat + costZ (M_72.1 (50, 0, 0)) v ((v4_44.toInt.toNat : Nat) : Int)) (kv0_72 : FA (M_72.1 (61, 0, 0)) u.toInt) (kv1_72 : FB (M_72.1 (61, 0, 0)) (M_72.1 (50, 0, 0)) v u.toInt) (h23_ : v6_72.toInt < 8) (h29_ : ((r26_.toInt = -1 ∧ ∀ n : Nat, ¬ nbP v4_44.toInt.toNat v6_72.toInt.toNat n) ∨ (0 ≤ r26_.toInt ∧ r26_.toInt ≤ 191 ∧ nbP v4_44.toInt.toNat v6_72.toInt.toNat r26_.toInt.toNat))) (h31_ : 0 ≤ r26_.toInt) (h37_ : (j36_ : Int) = r26_.toInt) (e35_ : z34_ = M_72.1 (61, 0, 0) j36_) (h38_ : 0 ≤ z34_.toInt ∧ z34_.toInt ≤ 1000000) (h39_ : z34_.toInt ≤ z20_.toInt) (h41_ : z40_.toInt = v6_72.toInt + 2) : smF (M_72.1 (61, 0, 0)) 192 + v3_72.toInt.toNat ≤ smF (M_35.1 (61, 0, 0)) 192 := by have r_v := rngI v; have r_u := rngI u; have r_v3_2 := rngI v3_2; have r_v3_35 := rngI v3_35; have r_v4_44 := rngI v4_44; have r_v3_44 := rngI v3_44; have r_z10_ := rngI z10_; have r_r15_ := rngI r15_; have r_z20_ := rngI z20_; have r_v6_72 := rngI v6_72; have r_v3_72 := rngI v3_72; have r_r26_ := rngI r26_; have r_z34_ := rngI z34_; have r_z40_ := rngI z40_; omega
theorem lf_c_X12_findFar_43 (M_2 : mM) (M_35 : mM) (M_44 : mM) (M_72 : mM) (v : Int32) (u : Int32) (v3_2 : Int32) (v3_35 : Int32) (v4_44 : Int32) (v3_44 : Int32) (j12_ : Nat) (z10_ : Int32) (r15_ : Int32) (z20_ : Int32) (v6_72 : Int32) (v3_72 : Int32) (r26_ : Int32) (j36_ : Nat) (z34_ : Int32) (hv : 0 ≤ v.toInt ∧ v.toInt ≤ 7) (hu : 0 ≤ u.toInt ∧ u.toInt ≤ 191) (hv0_2 : 0 ≤ v3_2.toInt) (hv1_2 : v3_2.toInt ≤ 192) (hv2_2 : FZ (M_2.1 (61, 0, 0)) u.toInt v3_2.toInt) (h2_ : 192 ≤ v3_2.toInt) (h4_ : FA (M_2.1 (61, 0, 0)) u.toInt) (h5_ : FB (M_2.1 (61, 0, 0)) (M_2.1 (50, 0, 0)) v u.toInt) (hv0_35 : 0 ≤ v3_35.toInt ∧ v3_35.toInt ≤ 1) (hv1_35 : v3_35.toInt = 0 → RX (M_35.1 (61, 0, 0)) (M_35.1 (50, 0, 0)) v 192 0) (kv0_35 : FA (M_35.1 (61, 0, 0)) u.toInt) (kv1_35 : FB (M_35.1 (61, 0, 0)) (M_35.1 (50, 0, 0)) v u.toInt) (h7_ : ¬ v3_35.toInt = 0) (hv0_44 : 0 ≤ v4_44.toInt) (hv1_44 : v4_44.toInt ≤ 192) (hv2_44 : 0 ≤ v3_44.toInt ∧ v3_44.toInt ≤ 1) (hv3_44 : v3_44.toInt = 0 → RX (M_44.1 (61, 0, 0)) (M_44.1 (50, 0, 0)) v v4_44.toInt 0) (hv4_44 : smF (M_44.1 (61, 0, 0)) 192 + v3_44.toInt.toNat ≤ smF (M_35.1 (61, 0, 0)) 192) (kv0_44 : FA (M_44.1 (61, 0, 0)) u.toInt) (kv1_44 : FB (M_44.1 (61, 0, 0)) (M_44.1 (50, 0, 0)) v u.toInt) (h9_ : v4_44.toInt < 192) (h13_ : (j12_ : Int) = v4_44.toInt) (e11_ : z10_ = M_44.1 (61, 0, 0) j12_) (h14_ : 0 ≤ z10_.toInt ∧ z10_.toInt ≤ 1000000) (h18_ : 1 ≤ r15_.toInt ∧ r15_.toInt ≤ 20 ∧ r15_.toInt = costZ (M_44.1 (50, 0, 0)) v v4_44.toInt) (h21_ : z20_.toInt = z10_.toInt + r15_.toInt) (hv0_72 : 0 ≤ v6_72.toInt) (hv1_72 : v6_72.toInt ≤ 8) (hv2_72 : v6_72.toInt % 2 = 0) (hv3_72 : 0 ≤ v3_72.toInt ∧ v3_72.toInt ≤ 1) (hv4_72 : v3_72.toInt = 0 → RX (M_72.1 (61, 0, 0)) (M_72.1 (50, 0, 0)) v v4_44.toInt v6_72.toInt) (hv5_72 : smF (M_72.1 (61, 0, 0)) 192 + v3_72.toInt.toNat ≤ smF (M_35.1 (61, 0, 0)) 192) (hv6_72 : z20_.toInt = gq (M_72.1 (61, 0, 0)) v4_44.toInt.toNat + costZ (M_72.1 (50, 0, 0)) v ((v4_44.toInt.toNat : Nat) : Int)) (kv0_72 : FA (M_72.1 (61, 0, 0)) u.toInt) (kv1_72 : FB (M_72.1 (61, 0, 0)) (M_72.1 (50, 0, 0)) v u.toInt) (h23_ : v6_72.toInt < 8) (h29_ : ((r26_.toInt = -1 ∧ ∀ n : Nat, ¬ nbP v4_44.toInt.toNat v6_72.toInt.toNat n) ∨ (0 ≤ r26_.toInt ∧ r26_.toInt ≤ 191 ∧ nbP v4_44.toInt.toNat v6_72.toInt.toNat r26_.toInt.toNat))) (h31_ : 0 ≤ r26_.toInt) (h37_ : (j36_ : Int) = r26_.toInt) (e35_ : z34_ = M_72.1 (61, 0, 0) j36_) (h38_ : 0 ≤ z34_.toInt ∧ z34_.toInt ≤ 1000000) (h39_ : z20_.toInt < z34_.toInt) : 0 ≤ r26_.toInt ∧ r26_.toInt < ((192 : Nat) : Int) := by have r_v := rngI v; have r_u := rngI u; have r_v3_2 := rngI v3_2; have r_v3_35 := rngI v3_35; have r_v4_44 := rngI v4_44; have r_v3_44 := rngI v3_44; have r_z10_ := rngI z10_; have r_r15_ := rngI r15_; have r_z20_ := rngI z20_; have r_v6_72 := rngI v6_72; have r_v3_72 := rngI v3_72; have r_r26_ := rngI r26_; have r_z34_ := rngI z34_; subst e11_; subst e35_; omega
theorem lf_c_X12_findFar_44 (v4_44 : Int32) (h9_ : v4_44.toInt < 192) : v4_44.toInt.toNat < 192 := by omega
theorem lf_c_X12_findFar_47 (r26_ : Int32) (j36_ : Nat) (j44_ : Nat) (h37_ : (j36_ : Int) = r26_.toInt) (h45_ : (j44_ : Int) = r26_.toInt) : j44_ = j36_ := by omega
theorem lf_c_X12_findFar_50 (v6_72 : Int32) (z53_ : Int32) (hv0_72 : 0 ≤ v6_72.toInt) (h54_ : z53_.toInt = v6_72.toInt + 2) : 0 ≤ z53_.toInt := by have q0 := li_1; omega
theorem lf_c_X12_findFar_51 (M42_ : mM) (M_2 : mM) (M_35 : mM) (M_44 : mM) (M_72 : mM) (v : Int32) (u : Int32) (v3_2 : Int32) (v3_35 : Int32) (v4_44 : Int32) (v3_44 : Int32) (j12_ : Nat) (z10_ : Int32) (r15_ : Int32) (z20_ : Int32) (v6_72 : Int32) (v3_72 : Int32) (r26_ : Int32) (j36_ : Nat) (z34_ : Int32) (j44_ : Nat) (z53_ : Int32) (hv : 0 ≤ v.toInt ∧ v.toInt ≤ 7) (hu : 0 ≤ u.toInt ∧ u.toInt ≤ 191) (hv0_2 : 0 ≤ v3_2.toInt) (hv1_2 : v3_2.toInt ≤ 192) (hv2_2 : FZ (M_2.1 (61, 0, 0)) u.toInt v3_2.toInt) (h2_ : 192 ≤ v3_2.toInt) (h4_ : FA (M_2.1 (61, 0, 0)) u.toInt) (h5_ : FB (M_2.1 (61, 0, 0)) (M_2.1 (50, 0, 0)) v u.toInt) (hv0_35 : 0 ≤ v3_35.toInt ∧ v3_35.toInt ≤ 1) (hv1_35 : v3_35.toInt = 0 → RX (M_35.1 (61, 0, 0)) (M_35.1 (50, 0, 0)) v 192 0) (kv0_35 : FA (M_35.1 (61, 0, 0)) u.toInt) (kv1_35 : FB (M_35.1 (61, 0, 0)) (M_35.1 (50, 0, 0)) v u.toInt) (h7_ : ¬ v3_35.toInt = 0) (hv0_44 : 0 ≤ v4_44.toInt) (hv1_44 : v4_44.toInt ≤ 192) (hv2_44 : 0 ≤ v3_44.toInt ∧ v3_44.toInt ≤ 1) (hv3_44 : v3_44.toInt = 0 → RX (M_44.1 (61, 0, 0)) (M_44.1 (50, 0, 0)) v v4_44.toInt 0) (hv4_44 : smF (M_44.1 (61, 0, 0)) 192 + v3_44.toInt.toNat ≤ smF (M_35.1 (61, 0, 0)) 192) (kv0_44 : FA (M_44.1 (61, 0, 0)) u.toInt) (kv1_44 : FB (M_44.1 (61, 0, 0)) (M_44.1 (50, 0, 0)) v u.toInt) (h9_ : v4_44.toInt < 192) (h13_ : (j12_ : Int) = v4_44.toInt) (e11_ : z10_ = M_44.1 (61, 0, 0) j12_) (h14_ : 0 ≤ z10_.toInt ∧ z10_.toInt ≤ 1000000) (h18_ : 1 ≤ r15_.toInt ∧ r15_.toInt ≤ 20 ∧ r15_.toInt = costZ (M_44.1 (50, 0, 0)) v v4_44.toInt) (h21_ : z20_.toInt = z10_.toInt + r15_.toInt) (hv0_72 : 0 ≤ v6_72.toInt) (hv1_72 : v6_72.toInt ≤ 8) (hv2_72 : v6_72.toInt % 2 = 0) (hv3_72 : 0 ≤ v3_72.toInt ∧ v3_72.toInt ≤ 1) (hv4_72 : v3_72.toInt = 0 → RX (M_72.1 (61, 0, 0)) (M_72.1 (50, 0, 0)) v v4_44.toInt v6_72.toInt) (hv5_72 : smF (M_72.1 (61, 0, 0)) 192 + v3_72.toInt.toNat ≤ smF (M_35.1 (61, 0, 0)) 192) (hv6_72 : z20_.toInt = gq (M_72.1 (61, 0, 0)) v4_44.toInt.toNat + costZ (M_72.1 (50, 0, 0)) v ((v4_44.toInt.toNat : Nat) : Int)) (kv0_72 : FA (M_72.1 (61, 0, 0)) u.toInt) (kv1_72 : FB (M_72.1 (61, 0, 0)) (M_72.1 (50, 0, 0)) v u.toInt) (h23_ : v6_72.toInt < 8) (h29_ : ((r26_.toInt = -1 ∧ ∀ n : Nat, ¬ nbP v4_44.toInt.toNat v6_72.toInt.toNat n) ∨ (0 ≤ r26_.toInt ∧ r26_.toInt ≤ 191 ∧ nbP v4_44.toInt.toNat v6_72.toInt.toNat r26_.toInt.toNat))) (h31_ : 0 ≤ r26_.toInt) (h37_ : (j36_ : Int) = r26_.toInt) (e35_ : z34_ = M_72.1 (61, 0, 0) j36_) (h38_ : 0 ≤ z34_.toInt ∧ z34_.toInt ≤ 1000000) (h39_ : z20_.toInt < z34_.toInt) (h45_ : (j44_ : Int) = r26_.toInt) (hM43_ : M42_ = up M_72 (61, 0, 0) j44_ z20_) (h49_ : FA (M42_.1 (61, 0, 0)) u.toInt) (h50_ : FB (M42_.1 (61, 0, 0)) (M42_.1 (50, 0, 0)) v u.toInt) (h52_ : z20_.toInt = gq (M42_.1 (61, 0, 0)) v4_44.toInt.toNat + costZ (M42_.1 (50, 0, 0)) v ((v4_44.toInt.toNat : Nat) : Int)) (h54_ : z53_.toInt = v6_72.toInt + 2) : z53_.toInt ≤ 8 := by have r_v := rngI v; have r_u := rngI u; have r_v3_2 := rngI v3_2; have r_v3_35 := rngI v3_35; have r_v4_44 := rngI v4_44; have r_v3_44 := rngI v3_44; have r_z10_ := rngI z10_; have r_r15_ := rngI r15_; have r_z20_ := rngI z20_; have r_v6_72 := rngI v6_72; have r_v3_72 := rngI v3_72; have r_r26_ := rngI r26_; have r_z34_ := rngI z34_; have r_z53_ := rngI z53_; have q0 := li_1; subst e11_; subst e35_; omega
theorem lf_c_X12_findFar_52 (M42_ : mM) (M_2 : mM) (M_35 : mM) (M_44 : mM) (M_72 : mM) (v : Int32) (u : Int32) (v3_2 : Int32) (v3_35 : Int32) (v4_44 : Int32) (v3_44 : Int32) (j12_ : Nat) (z10_ : Int32) (r15_ : Int32) (z20_ : Int32) (v6_72 : Int32) (v3_72 : Int32) (r26_ : Int32) (j36_ : Nat) (z34_ : Int32) (j44_ : Nat) (z53_ : Int32) (hv : 0 ≤ v.toInt ∧ v.toInt ≤ 7) (hu : 0 ≤ u.toInt ∧ u.toInt ≤ 191) (hv0_2 : 0 ≤ v3_2.toInt) (hv1_2 : v3_2.toInt ≤ 192) (hv2_2 : FZ (M_2.1 (61, 0, 0)) u.toInt v3_2.toInt) (h2_ : 192 ≤ v3_2.toInt) (h4_ : FA (M_2.1 (61, 0, 0)) u.toInt) (h5_ : FB (M_2.1 (61, 0, 0)) (M_2.1 (50, 0, 0)) v u.toInt) (hv0_35 : 0 ≤ v3_35.toInt ∧ v3_35.toInt ≤ 1) (hv1_35 : v3_35.toInt = 0 → RX (M_35.1 (61, 0, 0)) (M_35.1 (50, 0, 0)) v 192 0) (kv0_35 : FA (M_35.1 (61, 0, 0)) u.toInt) (kv1_35 : FB (M_35.1 (61, 0, 0)) (M_35.1 (50, 0, 0)) v u.toInt) (h7_ : ¬ v3_35.toInt = 0) (hv0_44 : 0 ≤ v4_44.toInt) (hv1_44 : v4_44.toInt ≤ 192) (hv2_44 : 0 ≤ v3_44.toInt ∧ v3_44.toInt ≤ 1) (hv3_44 : v3_44.toInt = 0 → RX (M_44.1 (61, 0, 0)) (M_44.1 (50, 0, 0)) v v4_44.toInt 0) (hv4_44 : smF (M_44.1 (61, 0, 0)) 192 + v3_44.toInt.toNat ≤ smF (M_35.1 (61, 0, 0)) 192) (kv0_44 : FA (M_44.1 (61, 0, 0)) u.toInt) (kv1_44 : FB (M_44.1 (61, 0, 0)) (M_44.1 (50, 0, 0)) v u.toInt) (h9_ : v4_44.toInt < 192) (h13_ : (j12_ : Int) = v4_44.toInt) (e11_ : z10_ = M_44.1 (61, 0, 0) j12_) (h14_ : 0 ≤ z10_.toInt ∧ z10_.toInt ≤ 1000000) (h18_ : 1 ≤ r15_.toInt ∧ r15_.toInt ≤ 20 ∧ r15_.toInt = costZ (M_44.1 (50, 0, 0)) v v4_44.toInt) (h21_ : z20_.toInt = z10_.toInt + r15_.toInt) (hv0_72 : 0 ≤ v6_72.toInt) (hv1_72 : v6_72.toInt ≤ 8) (hv2_72 : v6_72.toInt % 2 = 0) (hv3_72 : 0 ≤ v3_72.toInt ∧ v3_72.toInt ≤ 1) (hv4_72 : v3_72.toInt = 0 → RX (M_72.1 (61, 0, 0)) (M_72.1 (50, 0, 0)) v v4_44.toInt v6_72.toInt) (hv5_72 : smF (M_72.1 (61, 0, 0)) 192 + v3_72.toInt.toNat ≤ smF (M_35.1 (61, 0, 0)) 192) (hv6_72 : z20_.toInt = gq (M_72.1 (61, 0, 0)) v4_44.toInt.toNat + costZ (M_72.1 (50, 0, 0)) v ((v4_44.toInt.toNat : Nat) : Int)) (kv0_72 : FA (M_72.1 (61, 0, 0)) u.toInt) (kv1_72 : FB (M_72.1 (61, 0, 0)) (M_72.1 (50, 0, 0)) v u.toInt) (h23_ : v6_72.toInt < 8) (h29_ : ((r26_.toInt = -1 ∧ ∀ n : Nat, ¬ nbP v4_44.toInt.toNat v6_72.toInt.toNat n) ∨ (0 ≤ r26_.toInt ∧ r26_.toInt ≤ 191 ∧ nbP v4_44.toInt.toNat v6_72.toInt.toNat r26_.toInt.toNat))) (h31_ : 0 ≤ r26_.toInt) (h37_ : (j36_ : Int) = r26_.toInt) (e35_ : z34_ = M_72.1 (61, 0, 0) j36_) (h38_ : 0 ≤ z34_.toInt ∧ z34_.toInt ≤ 1000000) (h39_ : z20_.toInt < z34_.toInt) (h45_ : (j44_ : Int) = r26_.toInt) (hM43_ : M42_ = up M_72 (61, 0, 0) j44_ z20_) (h49_ : FA (M42_.1 (61, 0, 0)) u.toInt) (h50_ : FB (M42_.1 (61, 0, 0)) (M42_.1 (50, 0, 0)) v u.toInt) (h52_ : z20_.toInt = gq (M42_.1 (61, 0, 0)) v4_44.toInt.toNat + costZ (M42_.1 (50, 0, 0)) v ((v4_44.toInt.toNat : Nat) : Int)) (h54_ : z53_.toInt = v6_72.toInt + 2) : z53_.toInt % 2 = 0 := by have r_v := rngI v; have r_u := rngI u; have r_v3_2 := rngI v3_2; have r_v3_35 := rngI v3_35; have r_v4_44 := rngI v4_44; have r_v3_44 := rngI v3_44; have r_z10_ := rngI z10_; have r_r15_ := rngI r15_; have r_z20_ := rngI z20_; have r_v6_72 := rngI v6_72; have r_v3_72 := rngI v3_72; have r_r26_ := rngI r26_; have r_z34_ := rngI z34_; have r_z53_ := rngI z53_; have q0 := li_1; subst e11_; subst e35_; omega
theorem lf_c_X12_findFar_54 (M42_ : mM) (M_2 : mM) (M_35 : mM) (M_44 : mM) (M_72 : mM) (v : Int32) (u : Int32) (v3_2 : Int32) (v3_35 : Int32) (v4_44 : Int32) (v3_44 : Int32) (j12_ : Nat) (z10_ : Int32) (r15_ : Int32) (z20_ : Int32) (v6_72 : Int32) (v3_72 : Int32) (r26_ : Int32) (j36_ : Nat) (z34_ : Int32) (j44_ : Nat) (z53_ : Int32) (hv : 0 ≤ v.toInt ∧ v.toInt ≤ 7) (hu : 0 ≤ u.toInt ∧ u.toInt ≤ 191) (hv0_2 : 0 ≤ v3_2.toInt) (hv1_2 : v3_2.toInt ≤ 192) (hv2_2 : FZ (M_2.1 (61, 0, 0)) u.toInt v3_2.toInt) (h2_ : 192 ≤ v3_2.toInt) (h4_ : FA (M_2.1 (61, 0, 0)) u.toInt) (h5_ : FB (M_2.1 (61, 0, 0)) (M_2.1 (50, 0, 0)) v u.toInt) (hv0_35 : 0 ≤ v3_35.toInt ∧ v3_35.toInt ≤ 1) (hv1_35 : v3_35.toInt = 0 → RX (M_35.1 (61, 0, 0)) (M_35.1 (50, 0, 0)) v 192 0) (kv0_35 : FA (M_35.1 (61, 0, 0)) u.toInt) (kv1_35 : FB (M_35.1 (61, 0, 0)) (M_35.1 (50, 0, 0)) v u.toInt) (h7_ : ¬ v3_35.toInt = 0) (hv0_44 : 0 ≤ v4_44.toInt) (hv1_44 : v4_44.toInt ≤ 192) (hv2_44 : 0 ≤ v3_44.toInt ∧ v3_44.toInt ≤ 1) (hv3_44 : v3_44.toInt = 0 → RX (M_44.1 (61, 0, 0)) (M_44.1 (50, 0, 0)) v v4_44.toInt 0) (hv4_44 : smF (M_44.1 (61, 0, 0)) 192 + v3_44.toInt.toNat ≤ smF (M_35.1 (61, 0, 0)) 192) (kv0_44 : FA (M_44.1 (61, 0, 0)) u.toInt) (kv1_44 : FB (M_44.1 (61, 0, 0)) (M_44.1 (50, 0, 0)) v u.toInt) (h9_ : v4_44.toInt < 192) (h13_ : (j12_ : Int) = v4_44.toInt) (e11_ : z10_ = M_44.1 (61, 0, 0) j12_) (h14_ : 0 ≤ z10_.toInt ∧ z10_.toInt ≤ 1000000) (h18_ : 1 ≤ r15_.toInt ∧ r15_.toInt ≤ 20 ∧ r15_.toInt = costZ (M_44.1 (50, 0, 0)) v v4_44.toInt) (h21_ : z20_.toInt = z10_.toInt + r15_.toInt) (hv0_72 : 0 ≤ v6_72.toInt) (hv1_72 : v6_72.toInt ≤ 8) (hv2_72 : v6_72.toInt % 2 = 0) (hv3_72 : 0 ≤ v3_72.toInt ∧ v3_72.toInt ≤ 1) (hv4_72 : v3_72.toInt = 0 → RX (M_72.1 (61, 0, 0)) (M_72.1 (50, 0, 0)) v v4_44.toInt v6_72.toInt) (hv5_72 : smF (M_72.1 (61, 0, 0)) 192 + v3_72.toInt.toNat ≤ smF (M_35.1 (61, 0, 0)) 192) (hv6_72 : z20_.toInt = gq (M_72.1 (61, 0, 0)) v4_44.toInt.toNat + costZ (M_72.1 (50, 0, 0)) v ((v4_44.toInt.toNat : Nat) : Int)) (kv0_72 : FA (M_72.1 (61, 0, 0)) u.toInt) (kv1_72 : FB (M_72.1 (61, 0, 0)) (M_72.1 (50, 0, 0)) v u.toInt) (h23_ : v6_72.toInt < 8) (h29_ : ((r26_.toInt = -1 ∧ ∀ n : Nat, ¬ nbP v4_44.toInt.toNat v6_72.toInt.toNat n) ∨ (0 ≤ r26_.toInt ∧ r26_.toInt ≤ 191 ∧ nbP v4_44.toInt.toNat v6_72.toInt.toNat r26_.toInt.toNat))) (h31_ : 0 ≤ r26_.toInt) (h37_ : (j36_ : Int) = r26_.toInt) (e35_ : z34_ = M_72.1 (61, 0, 0) j36_) (h38_ : 0 ≤ z34_.toInt ∧ z34_.toInt ≤ 1000000) (h39_ : z20_.toInt < z34_.toInt) (h45_ : (j44_ : Int) = r26_.toInt) (hM43_ : M42_ = up M_72 (61, 0, 0) j44_ z20_) (h49_ : FA (M42_.1 (61, 0, 0)) u.toInt) (h50_ : FB (M42_.1 (61, 0, 0)) (M42_.1 (50, 0, 0)) v u.toInt) (h51_ : smF (M42_.1 (61, 0, 0)) 192 < smF (M_72.1 (61, 0, 0)) 192) (h52_ : z20_.toInt = gq (M42_.1 (61, 0, 0)) v4_44.toInt.toNat + costZ (M42_.1 (50, 0, 0)) v ((v4_44.toInt.toNat : Nat) : Int)) (h54_ : z53_.toInt = v6_72.toInt + 2) : smF (M42_.1 (61, 0, 0)) 192 + (1 : Int32).toInt.toNat ≤ smF (M_35.1 (61, 0, 0)) 192 := by have r_v := rngI v; have r_u := rngI u; have r_v3_2 := rngI v3_2; have r_v3_35 := rngI v3_35; have r_v4_44 := rngI v4_44; have r_v3_44 := rngI v3_44; have r_z10_ := rngI z10_; have r_r15_ := rngI r15_; have r_z20_ := rngI z20_; have r_v6_72 := rngI v6_72; have r_v3_72 := rngI v3_72; have r_r26_ := rngI r26_; have r_z34_ := rngI z34_; have r_z53_ := rngI z53_; have q9 := li_1; omega
theorem lf_c_X12_findFar_55 (v6_72 : Int32) (z53_ : Int32) (h23_ : v6_72.toInt < 8) (h54_ : z53_.toInt = v6_72.toInt + 2) : (8 - z53_.toInt).toNat < (8 - v6_72.toInt).toNat := by have q0 := li_1; omega
theorem lf_c_X12_findFar_58 : (0 : Int32).toInt % 2 = 0 := by have q0 := li_0; omega
theorem lf_c_X12_findFar_59 (M_2 : mM) (M_35 : mM) (M_44 : mM) (v : Int32) (u : Int32) (v3_2 : Int32) (v3_35 : Int32) (v4_44 : Int32) (v3_44 : Int32) (j12_ : Nat) (z10_ : Int32) (r15_ : Int32) (z20_ : Int32) (hv : 0 ≤ v.toInt ∧ v.toInt ≤ 7) (hu : 0 ≤ u.toInt ∧ u.toInt ≤ 191) (hv0_2 : 0 ≤ v3_2.toInt) (hv1_2 : v3_2.toInt ≤ 192) (hv2_2 : FZ (M_2.1 (61, 0, 0)) u.toInt v3_2.toInt) (h2_ : 192 ≤ v3_2.toInt) (h4_ : FA (M_2.1 (61, 0, 0)) u.toInt) (h5_ : FB (M_2.1 (61, 0, 0)) (M_2.1 (50, 0, 0)) v u.toInt) (hv0_35 : 0 ≤ v3_35.toInt ∧ v3_35.toInt ≤ 1) (hv1_35 : v3_35.toInt = 0 → RX (M_35.1 (61, 0, 0)) (M_35.1 (50, 0, 0)) v 192 0) (kv0_35 : FA (M_35.1 (61, 0, 0)) u.toInt) (kv1_35 : FB (M_35.1 (61, 0, 0)) (M_35.1 (50, 0, 0)) v u.toInt) (h7_ : ¬ v3_35.toInt = 0) (hv0_44 : 0 ≤ v4_44.toInt) (hv1_44 : v4_44.toInt ≤ 192) (hv2_44 : 0 ≤ v3_44.toInt ∧ v3_44.toInt ≤ 1) (hv3_44 : v3_44.toInt = 0 → RX (M_44.1 (61, 0, 0)) (M_44.1 (50, 0, 0)) v v4_44.toInt 0) (hv4_44 : smF (M_44.1 (61, 0, 0)) 192 + v3_44.toInt.toNat ≤ smF (M_35.1 (61, 0, 0)) 192) (kv0_44 : FA (M_44.1 (61, 0, 0)) u.toInt) (kv1_44 : FB (M_44.1 (61, 0, 0)) (M_44.1 (50, 0, 0)) v u.toInt) (h9_ : v4_44.toInt < 192) (h13_ : (j12_ : Int) = v4_44.toInt) (e11_ : z10_ = M_44.1 (61, 0, 0) j12_) (h14_ : 0 ≤ z10_.toInt ∧ z10_.toInt ≤ 1000000) (h18_ : 1 ≤ r15_.toInt ∧ r15_.toInt ≤ 20 ∧ r15_.toInt = costZ (M_44.1 (50, 0, 0)) v v4_44.toInt) (h21_ : z20_.toInt = z10_.toInt + r15_.toInt) : smF (M_44.1 (61, 0, 0)) 192 + v3_44.toInt.toNat ≤ smF (M_35.1 (61, 0, 0)) 192 := by have r_v := rngI v; have r_u := rngI u; have r_v3_2 := rngI v3_2; have r_v3_35 := rngI v3_35; have r_v4_44 := rngI v4_44; have r_v3_44 := rngI v3_44; have r_z10_ := rngI z10_; have r_r15_ := rngI r15_; have r_z20_ := rngI z20_; omega
theorem lf_c_X12_findFar_60 (v4_44 : Int32) (j12_ : Nat) (hv0_44 : 0 ≤ v4_44.toInt) (h13_ : (j12_ : Int) = v4_44.toInt) : v4_44.toInt.toNat = j12_ := by omega
theorem lf_c_X12_findFar_61 (v4_44 : Int32) (j12_ : Nat) (h13_ : (j12_ : Int) = v4_44.toInt) : ((j12_ : Nat) : Int) = v4_44.toInt := by omega
theorem lf_c_X12_findFar_62 (z10_ : Int32) (r15_ : Int32) (z20_ : Int32) (h21_ : z20_.toInt = z10_.toInt + r15_.toInt) : z20_.toInt = z10_.toInt + r15_.toInt := by omega
theorem lf_c_X12_findFar_66 (M_2 : mM) (M_35 : mM) (v : Int32) (u : Int32) (v3_2 : Int32) (v3_35 : Int32) (hv : 0 ≤ v.toInt ∧ v.toInt ≤ 7) (hu : 0 ≤ u.toInt ∧ u.toInt ≤ 191) (hv0_2 : 0 ≤ v3_2.toInt) (hv1_2 : v3_2.toInt ≤ 192) (hv2_2 : FZ (M_2.1 (61, 0, 0)) u.toInt v3_2.toInt) (h2_ : 192 ≤ v3_2.toInt) (h4_ : FA (M_2.1 (61, 0, 0)) u.toInt) (h5_ : FB (M_2.1 (61, 0, 0)) (M_2.1 (50, 0, 0)) v u.toInt) (hv0_35 : 0 ≤ v3_35.toInt ∧ v3_35.toInt ≤ 1) (hv1_35 : v3_35.toInt = 0 → RX (M_35.1 (61, 0, 0)) (M_35.1 (50, 0, 0)) v 192 0) (kv0_35 : FA (M_35.1 (61, 0, 0)) u.toInt) (kv1_35 : FB (M_35.1 (61, 0, 0)) (M_35.1 (50, 0, 0)) v u.toInt) (h7_ : ¬ v3_35.toInt = 0) : smF (M_35.1 (61, 0, 0)) 192 + (0 : Int32).toInt.toNat ≤ smF (M_35.1 (61, 0, 0)) 192 := by have r_v := rngI v; have r_u := rngI u; have r_v3_2 := rngI v3_2; have r_v3_35 := rngI v3_35; have q9 := li_0; omega
theorem lf_c_X12_findFar_74 (M56_ : mM) (M_2 : mM) (u : Int32) (v3_2 : Int32) (j58_ : Nat) (z62_ : Int32) (hu : 0 ≤ u.toInt ∧ u.toInt ≤ 191) (hv0_2 : 0 ≤ v3_2.toInt) (hv1_2 : v3_2.toInt ≤ 192) (hv2_2 : FZ (M_2.1 (61, 0, 0)) u.toInt v3_2.toInt) (h2_ : v3_2.toInt < 192) (h55_ : ¬ v3_2.toInt = u.toInt) (h59_ : (j58_ : Int) = v3_2.toInt) (hM57_ : M56_ = up M_2 (61, 0, 0) j58_ 1000000) (h63_ : z62_.toInt = v3_2.toInt + 1) : (1000000 : Int32).toInt = if v3_2.toInt = u.toInt then 0 else 1000000 := by have r_u := rngI u; have r_v3_2 := rngI v3_2; have r_z62_ := rngI z62_; have q0 := li_1000000; split <;> omega
theorem lf_c_X12_findFar_82 (M64_ : mM) (M_2 : mM) (u : Int32) (v3_2 : Int32) (j66_ : Nat) (z70_ : Int32) (hu : 0 ≤ u.toInt ∧ u.toInt ≤ 191) (hv0_2 : 0 ≤ v3_2.toInt) (hv1_2 : v3_2.toInt ≤ 192) (hv2_2 : FZ (M_2.1 (61, 0, 0)) u.toInt v3_2.toInt) (h2_ : v3_2.toInt < 192) (h55_ : v3_2.toInt = u.toInt) (h67_ : (j66_ : Int) = v3_2.toInt) (hM65_ : M64_ = up M_2 (61, 0, 0) j66_ 0) (h71_ : z70_.toInt = v3_2.toInt + 1) : (0 : Int32).toInt = if v3_2.toInt = u.toInt then 0 else 1000000 := by have r_u := rngI u; have r_v3_2 := rngI v3_2; have r_z70_ := rngI z70_; have q0 := li_0; split <;> omega
set_option maxHeartbeats 4000000 in
set_option maxRecDepth 100000 in
theorem c_X12_findFar (l : Launch) (G : va_G) (cy : Nat → ClassId) (ad : rf → Nat) (d : Nat) (v : Int32) (u : Int32) (Mz : mM) (hIz : InvD Mz) (hv : 0 ≤ v.toInt ∧ v.toInt ≤ 7) (hu : 0 ≤ u.toInt ∧ u.toInt ≤ 191) : WP DD l G cy ad yX12_findFar cX12_findFar 8 none (d + 4) 0 [(0, vR (12, 0, 0)), (1, vI v), (2, vI u)] [] Mz (fun r M' => InvD M' ∧ FR (S_c_X12_findFar) Mz M' ∧ (FF (M'.1 (61, 0, 0)) (M'.1 (50, 0, 0)) v u.toInt) ∧ SP_X12_findFar v u Mz M') := by
  have hFz : FR (S_c_X12_findFar) Mz Mz := FR.self
  refine w_iconst (v := 0) dX12_findFar_0 (by decide) ?_
  refine w_istore_n (ls' := [(3, vI 0), (0, vR (12, 0, 0)), (1, vI v), (2, vI u)]) dX12_findFar_1 rfl (by decide) rfl ?_
  have lp1_ : ∀ (nn_2 : Nat) (M_2 : mM) (hI_2 : InvD M_2) (hF_2 : FR (S_c_X12_findFar) Mz M_2) (v3_2 : Int32) (hv0_2 : 0 ≤ v3_2.toInt) (hv1_2 : v3_2.toInt ≤ 192) (hv2_2 : FZ (M_2.1 (61, 0, 0)) u.toInt v3_2.toInt) (hL_2 : RCH (fun x_ y_ => ST_X12_findFar_2 u Mz x_.1 x_.2 y_.1 y_.2) ((0 : Int32), Mz) (v3_2, M_2)), (192 - v3_2.toInt).toNat < nn_2 → WP DD l G cy ad yX12_findFar cX12_findFar 8 none (d + 4) 2 [(3, vI v3_2), (0, vR (12, 0, 0)), (1, vI v), (2, vI u)] [] M_2 (fun r M' => InvD M' ∧ FR (S_c_X12_findFar) Mz M' ∧ (FF (M'.1 (61, 0, 0)) (M'.1 (50, 0, 0)) v u.toInt) ∧ SP_X12_findFar v u Mz M') := by
    intro nn_2
    induction nn_2 with
    | zero => intro M_2 hI_2 hF_2 v3_2 hv0_2 hv1_2 hv2_2 hL_2 hm_2; exact absurd hm_2 (Nat.not_lt_zero _)
    | succ nn_2 ih_2 =>
      intro M_2 hI_2 hF_2 v3_2 hv0_2 hv1_2 hv2_2 hL_2 hm_2
      refine w_iload_n dX12_findFar_2 rfl 0 rfl ?_
      refine w_sipush (v := 192) dX12_findFar_3 (by decide) ?_
      refine w_icmp_ge (tgt := 33) dX12_findFar_6 (by decide) (rfl : v3_2.toInt = v3_2.toInt) li_192 (fun h2_ => ?_) (fun h2_ => ?_)
      · have h3_ : FA (M_2.1 (61, 0, 0)) u.toInt ∧ FB (M_2.1 (61, 0, 0)) (M_2.1 (50, 0, 0)) v u.toInt := FZ_end hv2_2 (lf_c_X12_findFar_0 v3_2 h2_ )
        have h4_ : FA (M_2.1 (61, 0, 0)) u.toInt := h3_.1
        have h5_ : FB (M_2.1 (61, 0, 0)) (M_2.1 (50, 0, 0)) v u.toInt := h3_.2
        refine w_iconst (v := 1) dX12_findFar_33 (by decide) ?_
        refine w_istore_n (ls' := [(3, vI 1), (0, vR (12, 0, 0)), (1, vI v), (2, vI u)]) dX12_findFar_34 rfl (by decide) rfl ?_
        have lp6_ : ∀ (nn_35 : Nat) (M_35 : mM) (hI_35 : InvD M_35) (hF_35 : FR (S_c_X12_findFar) Mz M_35) (v3_35 : Int32) (hv0_35 : 0 ≤ v3_35.toInt ∧ v3_35.toInt ≤ 1) (hv1_35 : v3_35.toInt = 0 → RX (M_35.1 (61, 0, 0)) (M_35.1 (50, 0, 0)) v 192 0) (kv0_35 : FA (M_35.1 (61, 0, 0)) u.toInt) (kv1_35 : FB (M_35.1 (61, 0, 0)) (M_35.1 (50, 0, 0)) v u.toInt) (hL_35 : RCH (fun x_ y_ => ST_X12_findFar_35 v u Mz x_.1 x_.2 y_.1 y_.2) ((1 : Int32), M_2) (v3_35, M_35)), 2 * smF (M_35.1 (61, 0, 0)) 192 + v3_35.toInt.toNat < nn_35 → WP DD l G cy ad yX12_findFar cX12_findFar 8 none (d + 4) 35 [(3, vI v3_35), (0, vR (12, 0, 0)), (1, vI v), (2, vI u)] [] M_35 (fun r M' => InvD M' ∧ FR (S_c_X12_findFar) Mz M' ∧ (FF (M'.1 (61, 0, 0)) (M'.1 (50, 0, 0)) v u.toInt) ∧ SP_X12_findFar v u Mz M') := by
          intro nn_35
          induction nn_35 with
          | zero => intro M_35 hI_35 hF_35 v3_35 hv0_35 hv1_35 kv0_35 kv1_35 hL_35 hm_35; exact absurd hm_35 (Nat.not_lt_zero _)
          | succ nn_35 ih_35 =>
            intro M_35 hI_35 hF_35 v3_35 hv0_35 hv1_35 kv0_35 kv1_35 hL_35 hm_35
            refine w_iload_n dX12_findFar_35 rfl 0 rfl ?_
            refine w_if_eq (tgt := 133) dX12_findFar_36 (by decide) (rfl : v3_35.toInt = v3_35.toInt) (fun h7_ => ?_) (fun h7_ => ?_)
            · exact w_vret rfl dX12_findFar_133 ⟨hI_35, hF_35, ⟨kv0_35, kv1_35, hv1_35 (lf_c_X12_here_4 v3_35 hv0_35 h7_ )⟩, ⟨v3_2, hv0_2, hv1_2, M_2, hv2_2, hL_2, hI_2, hF_2, h2_, h4_, h5_, v3_35, hv0_35, M_35, hv1_35, hL_35, hI_35, hF_35, h7_, rfl⟩⟩
            · refine w_iconst (v := 0) dX12_findFar_39 (by decide) ?_
              refine w_istore_n (ls' := [(3, vI 0), (0, vR (12, 0, 0)), (1, vI v), (2, vI u)]) dX12_findFar_40 rfl (by decide) rfl ?_
              refine w_iconst (v := 0) dX12_findFar_41 (by decide) ?_
              refine w_istore (ls' := [(4, vI 0), (3, vI 0), (0, vR (12, 0, 0)), (1, vI v), (2, vI u)]) dX12_findFar_42 (by decide) rfl ?_
              have lp8_ : ∀ (nn_44 : Nat) (M_44 : mM) (hI_44 : InvD M_44) (hF_44 : FR (S_c_X12_findFar) Mz M_44) (v4_44 : Int32) (v3_44 : Int32) (hv0_44 : 0 ≤ v4_44.toInt) (hv1_44 : v4_44.toInt ≤ 192) (hv2_44 : 0 ≤ v3_44.toInt ∧ v3_44.toInt ≤ 1) (hv3_44 : v3_44.toInt = 0 → RX (M_44.1 (61, 0, 0)) (M_44.1 (50, 0, 0)) v v4_44.toInt 0) (hv4_44 : smF (M_44.1 (61, 0, 0)) 192 + v3_44.toInt.toNat ≤ smF (M_35.1 (61, 0, 0)) 192) (kv0_44 : FA (M_44.1 (61, 0, 0)) u.toInt) (kv1_44 : FB (M_44.1 (61, 0, 0)) (M_44.1 (50, 0, 0)) v u.toInt) (hL_44 : RCH (fun x_ y_ => ST_X12_findFar_44 v u Mz M_35 x_.1 x_.2.1 x_.2.2 y_.1 y_.2.1 y_.2.2) ((0 : Int32), (0 : Int32), M_35) (v4_44, v3_44, M_44)), (192 - v4_44.toInt).toNat < nn_44 → WP DD l G cy ad yX12_findFar cX12_findFar 8 none (d + 4) 44 [(4, vI v4_44), (3, vI v3_44), (0, vR (12, 0, 0)), (1, vI v), (2, vI u)] [] M_44 (fun r M' => InvD M' ∧ FR (S_c_X12_findFar) Mz M' ∧ (FF (M'.1 (61, 0, 0)) (M'.1 (50, 0, 0)) v u.toInt) ∧ SP_X12_findFar v u Mz M') := by
                intro nn_44
                induction nn_44 with
                | zero => intro M_44 hI_44 hF_44 v4_44 v3_44 hv0_44 hv1_44 hv2_44 hv3_44 hv4_44 kv0_44 kv1_44 hL_44 hm_44; exact absurd hm_44 (Nat.not_lt_zero _)
                | succ nn_44 ih_44 =>
                  intro M_44 hI_44 hF_44 v4_44 v3_44 hv0_44 hv1_44 hv2_44 hv3_44 hv4_44 kv0_44 kv1_44 hL_44 hm_44
                  refine w_iload dX12_findFar_44 0 rfl ?_
                  refine w_sipush (v := 192) dX12_findFar_46 (by decide) ?_
                  refine w_icmp_ge (tgt := 130) dX12_findFar_49 (by decide) (rfl : v4_44.toInt = v4_44.toInt) li_192 (fun h9_ => ?_) (fun h9_ => ?_)
                  · refine w_goto (tgt := 35) dX12_findFar_130 (by decide) ?_
                    refine w_loc (ls' := [(3, vI v3_44), (0, vR (12, 0, 0)), (1, vI v), (2, vI u)]) [1, 2, 3, 4] rfl ?_
                    exact ih_35 M_44 hI_44 hF_44 v3_44 hv2_44 (fun q9 => RX_e (hv3_44 q9) (lf_c_X12_findFar_2 v4_44 hv1_44 h9_ ) rfl) kv0_44 kv1_44 (RCH.tail hL_35 ⟨hv0_35, hv1_35, hI_35, hF_35, h7_, v4_44, hv0_44, hv1_44, v3_44, hv2_44, M_44, hv3_44, hv4_44, hL_44, hI_44, hF_44, h9_, rfl, rfl⟩) (Nat.lt_of_lt_of_le (lf_c_X12_findFar_3 M_2 M_35 M_44 v u v3_2 v3_35 v4_44 v3_44 hv hu hv0_2 hv1_2 hv2_2 h2_ h4_ h5_ hv0_35 hv1_35 kv0_35 kv1_35 h7_ hv0_44 hv1_44 hv2_44 hv3_44 hv4_44 kv0_44 kv1_44 h9_ ) (Nat.le_of_lt_succ hm_35))
                  · refine w_aload_n dX12_findFar_52 rfl 2 rfl ?_
                    refine w_getR (c' := (61, 0, 0)) fl_RX12_57 rfl rfl ic_12 dX12_findFar_53 rfl ?_
                    refine w_iload dX12_findFar_56 0 rfl ?_
                    refine w_iald rfl rfl ic_61 (rfl : v4_44.toInt = v4_44.toInt) (lf_c_X9_begin_0 v4_44 hv0_44 h9_ ) dX12_findFar_58 (fun j12_ h13_ z10_ e11_ => ?_)
                    have h14_ : 0 ≤ z10_.toInt ∧ z10_.toInt ≤ 1000000 := by rw [e11_]; exact ⟨(kv0_44 j12_ (lf_c_X12_findFar_5 v4_44 j12_ h9_ h13_ )).1, (kv0_44 j12_ (lf_c_X12_findFar_5 v4_44 j12_ h9_ h13_ )).2.1⟩
                    refine w_aload_n dX12_findFar_59 rfl 2 rfl ?_
                    refine w_iload_n dX12_findFar_60 rfl 3 rfl ?_
                    refine w_iload dX12_findFar_61 0 rfl ?_
                    refine w_callV (as := [vI v, vI v4_44]) (rest := [vI z10_]) (c_costZ l G cy ad d v v4_44 M_44 hI_44 hv (lf_c_X12_heads_0 v4_44 hv0_44 h9_ )) kV_X12_cost pnn_17 (Nat.le_of_ble_eq_true rfl) m_1771 rfl rfl rfl ic_12 rfl rfl (by decide) (Nat.le_of_ble_eq_true rfl) dX12_findFar_63 (fun r15_ M16_ q17_ => ?_)
                    obtain ⟨rfl, h18_, hs19_⟩ := q17_
                    refine w_iaddB dX12_findFar_66 (rfl : z10_.toInt = z10_.toInt) (rfl : r15_.toInt = r15_.toInt) (lf_c_X12_findFar_8 M_44 v v4_44 z10_ r15_ h14_ h18_ ) (fun z20_ h21_ => ?_)
                    refine w_istore (ls' := [(5, vI z20_), (4, vI v4_44), (3, vI v3_44), (0, vR (12, 0, 0)), (1, vI v), (2, vI u)]) dX12_findFar_67 (by decide) rfl ?_
                    refine w_iconst (v := 0) dX12_findFar_69 (by decide) ?_
                    refine w_istore (ls' := [(6, vI 0), (5, vI z20_), (4, vI v4_44), (3, vI v3_44), (0, vR (12, 0, 0)), (1, vI v), (2, vI u)]) dX12_findFar_70 (by decide) rfl ?_
                    have lp22_ : ∀ (nn_72 : Nat) (M_72 : mM) (hI_72 : InvD M_72) (hF_72 : FR (S_c_X12_findFar) Mz M_72) (v6_72 : Int32) (v3_72 : Int32) (hv0_72 : 0 ≤ v6_72.toInt) (hv1_72 : v6_72.toInt ≤ 8) (hv2_72 : v6_72.toInt % 2 = 0) (hv3_72 : 0 ≤ v3_72.toInt ∧ v3_72.toInt ≤ 1) (hv4_72 : v3_72.toInt = 0 → RX (M_72.1 (61, 0, 0)) (M_72.1 (50, 0, 0)) v v4_44.toInt v6_72.toInt) (hv5_72 : smF (M_72.1 (61, 0, 0)) 192 + v3_72.toInt.toNat ≤ smF (M_35.1 (61, 0, 0)) 192) (hv6_72 : z20_.toInt = gq (M_72.1 (61, 0, 0)) v4_44.toInt.toNat + costZ (M_72.1 (50, 0, 0)) v ((v4_44.toInt.toNat : Nat) : Int)) (kv0_72 : FA (M_72.1 (61, 0, 0)) u.toInt) (kv1_72 : FB (M_72.1 (61, 0, 0)) (M_72.1 (50, 0, 0)) v u.toInt) (hL_72 : RCH (fun x_ y_ => ST_X12_findFar_72 v u Mz M_35 v4_44 z20_ x_.1 x_.2.1 x_.2.2 y_.1 y_.2.1 y_.2.2) ((0 : Int32), v3_44, M_44) (v6_72, v3_72, M_72)), (8 - v6_72.toInt).toNat < nn_72 → WP DD l G cy ad yX12_findFar cX12_findFar 8 none (d + 4) 72 [(6, vI v6_72), (5, vI z20_), (4, vI v4_44), (3, vI v3_72), (0, vR (12, 0, 0)), (1, vI v), (2, vI u)] [] M_72 (fun r M' => InvD M' ∧ FR (S_c_X12_findFar) Mz M' ∧ (FF (M'.1 (61, 0, 0)) (M'.1 (50, 0, 0)) v u.toInt) ∧ SP_X12_findFar v u Mz M') := by
                      intro nn_72
                      induction nn_72 with
                      | zero => intro M_72 hI_72 hF_72 v6_72 v3_72 hv0_72 hv1_72 hv2_72 hv3_72 hv4_72 hv5_72 hv6_72 kv0_72 kv1_72 hL_72 hm_72; exact absurd hm_72 (Nat.not_lt_zero _)
                      | succ nn_72 ih_72 =>
                        intro M_72 hI_72 hF_72 v6_72 v3_72 hv0_72 hv1_72 hv2_72 hv3_72 hv4_72 hv5_72 hv6_72 kv0_72 kv1_72 hL_72 hm_72
                        refine w_iload dX12_findFar_72 0 rfl ?_
                        refine w_bipush (v := 8) dX12_findFar_74 (by decide) ?_
                        refine w_icmp_ge (tgt := 124) dX12_findFar_76 (by decide) (rfl : v6_72.toInt = v6_72.toInt) li_8 (fun h23_ => ?_) (fun h23_ => ?_)
                        · refine w_iincB (j := 2) (f := fun z24_ => [(4, vI z24_), (6, vI v6_72), (5, vI z20_), (3, vI v3_72), (0, vR (12, 0, 0)), (1, vI v), (2, vI u)]) dX12_findFar_124 rfl (by decide) (fun _ => rfl) (rfl : v4_44.toInt = v4_44.toInt) li_1 (lf_c_X9_begin_2 v4_44 hv0_44 h9_ ) (fun z24_ h25_ => ?_)
                          refine w_goto (tgt := 44) dX12_findFar_127 (by decide) ?_
                          refine w_loc (ls' := [(4, vI z24_), (3, vI v3_72), (0, vR (12, 0, 0)), (1, vI v), (2, vI u)]) [0, 3, 4, 5, 6] rfl ?_
                          exact ih_44 M_72 hI_72 hF_72 z24_ v3_72 (lf_c_X5_takeFrom_3 v4_44 z24_ hv0_44 h25_ ) (lf_c_X9_begin_4 v4_44 z24_ h9_ h25_ ) hv3_72 (fun q9 => RX_cell (hv4_72 q9) (lf_c_X12_findFar_12 v6_72 h23_ ) (lf_c_X12_given_25 v4_44 z24_ h25_ )) (lf_c_X12_findFar_14 M_2 M_35 M_44 M_72 v u v3_2 v3_35 v4_44 v3_44 j12_ z10_ r15_ z20_ v6_72 v3_72 z24_ hv hu hv0_2 hv1_2 hv2_2 h2_ h4_ h5_ hv0_35 hv1_35 kv0_35 kv1_35 h7_ hv0_44 hv1_44 hv2_44 hv3_44 hv4_44 kv0_44 kv1_44 h9_ h13_ e11_ h14_ h18_ h21_ hv0_72 hv1_72 hv2_72 hv3_72 hv4_72 hv5_72 hv6_72 kv0_72 kv1_72 h23_ h25_ ) kv0_72 kv1_72 (RCH.tail hL_44 ⟨hv0_44, hv1_44, hv2_44, hv3_44, hv4_44, hI_44, hF_44, h9_, j12_, h13_, z10_, e11_, h14_, r15_, hs19_, h18_, z20_, h21_, v6_72, hv0_72, hv1_72, hv2_72, v3_72, hv3_72, M_72, hv4_72, hv5_72, hv6_72, hL_72, hI_72, hF_72, h23_, z24_, h25_, rfl, rfl, rfl⟩) (Nat.lt_of_lt_of_le (lf_c_X12_findFar_15 v4_44 z24_ h9_ h25_ ) (Nat.le_of_lt_succ hm_44))
                        · refine w_aload_n dX12_findFar_79 rfl 4 rfl ?_
                          refine w_iload dX12_findFar_80 2 rfl ?_
                          refine w_iload dX12_findFar_82 0 rfl ?_
                          refine w_iconst (v := 1) dX12_findFar_84 (by decide) ?_
                          refine w_callV (as := [vI v4_44, vI v6_72, vI 1]) (rest := []) (c_on1 l G cy ad (d + 2) v4_44 v6_72 M_72 hI_72 (lf_c_X7_isCell_2 v4_44 hv0_44 h9_ ) (lf_c_X12_findFar_17 M_2 M_35 M_44 M_72 v u v3_2 v3_35 v4_44 v3_44 j12_ z10_ r15_ z20_ v6_72 v3_72 hv hu hv0_2 hv1_2 hv2_2 h2_ h4_ h5_ hv0_35 hv1_35 kv0_35 kv1_35 h7_ hv0_44 hv1_44 hv2_44 hv3_44 hv4_44 kv0_44 kv1_44 h9_ h13_ e11_ h14_ h18_ h21_ hv0_72 hv1_72 hv2_72 hv3_72 hv4_72 hv5_72 hv6_72 kv0_72 kv1_72 h23_ )) kV_X12_on pnn_17 (Nat.le_of_ble_eq_true rfl) m_1632 rfl rfl rfl ic_12 rfl rfl (by decide) (Nat.le_of_ble_eq_true rfl) dX12_findFar_85 (fun r26_ M27_ q28_ => ?_)
                          obtain ⟨rfl, h29_⟩ := q28_
                          refine w_istore (ls' := [(7, vI r26_), (6, vI v6_72), (5, vI z20_), (4, vI v4_44), (3, vI v3_72), (0, vR (12, 0, 0)), (1, vI v), (2, vI u)]) dX12_findFar_88 (by decide) rfl ?_
                          refine w_iload dX12_findFar_90 0 rfl ?_
                          refine w_if_lt (tgt := 118) dX12_findFar_92 (by decide) (rfl : r26_.toInt = r26_.toInt) (fun h31_ => ?_) (fun h31_ => ?_)
                          · refine w_iincB (j := 1) (f := fun z32_ => [(6, vI z32_), (7, vI r26_), (5, vI z20_), (4, vI v4_44), (3, vI v3_72), (0, vR (12, 0, 0)), (1, vI v), (2, vI u)]) dX12_findFar_118 rfl (by decide) (fun _ => rfl) (rfl : v6_72.toInt = v6_72.toInt) li_2 (lf_c_X0_measure_7 v6_72 hv0_72 h23_ ) (fun z32_ h33_ => ?_)
                            refine w_goto (tgt := 72) dX12_findFar_121 (by decide) ?_
                            refine w_loc (ls' := [(6, vI z32_), (5, vI z20_), (4, vI v4_44), (3, vI v3_72), (0, vR (12, 0, 0)), (1, vI v), (2, vI u)]) [0, 2, 3, 4, 5, 6, 7] rfl ?_
                            exact ih_72 M_72 hI_72 hF_72 z32_ v3_72 (lf_c_X0_measure_8 v6_72 z32_ hv0_72 h33_ ) (lf_c_X12_findFar_20 M_2 M_35 M_44 M_72 v u v3_2 v3_35 v4_44 v3_44 j12_ z10_ r15_ z20_ v6_72 v3_72 r26_ z32_ hv hu hv0_2 hv1_2 hv2_2 h2_ h4_ h5_ hv0_35 hv1_35 kv0_35 kv1_35 h7_ hv0_44 hv1_44 hv2_44 hv3_44 hv4_44 kv0_44 kv1_44 h9_ h13_ e11_ h14_ h18_ h21_ hv0_72 hv1_72 hv2_72 hv3_72 hv4_72 hv5_72 hv6_72 kv0_72 kv1_72 h23_ h29_ h31_ h33_ ) (lf_c_X12_findFar_21 M_2 M_35 M_44 M_72 v u v3_2 v3_35 v4_44 v3_44 j12_ z10_ r15_ z20_ v6_72 v3_72 r26_ z32_ hv hu hv0_2 hv1_2 hv2_2 h2_ h4_ h5_ hv0_35 hv1_35 kv0_35 kv1_35 h7_ hv0_44 hv1_44 hv2_44 hv3_44 hv4_44 kv0_44 kv1_44 h9_ h13_ e11_ h14_ h18_ h21_ hv0_72 hv1_72 hv2_72 hv3_72 hv4_72 hv5_72 hv6_72 kv0_72 kv1_72 h23_ h29_ h31_ h33_ ) hv3_72 (fun q9 => RX_none (hv4_72 q9) (lf_c_X12_findFar_22 v6_72 z32_ h33_ ) (lf_c_X12_findFar_23 v4_44 v6_72 hv0_44 hv0_72 ) (lf_c_X12_findFar_24 v6_72 hv2_72 ) (h29_.resolve_right (fun q8 => absurd q8.1 (lf_c_X12_findFar_25 r26_ h31_ ))).2) (lf_c_X12_findFar_26 M_2 M_35 M_44 M_72 v u v3_2 v3_35 v4_44 v3_44 j12_ z10_ r15_ z20_ v6_72 v3_72 r26_ z32_ hv hu hv0_2 hv1_2 hv2_2 h2_ h4_ h5_ hv0_35 hv1_35 kv0_35 kv1_35 h7_ hv0_44 hv1_44 hv2_44 hv3_44 hv4_44 kv0_44 kv1_44 h9_ h13_ e11_ h14_ h18_ h21_ hv0_72 hv1_72 hv2_72 hv3_72 hv4_72 hv5_72 hv6_72 kv0_72 kv1_72 h23_ h29_ h31_ h33_ ) hv6_72 kv0_72 kv1_72 (RCH.tail hL_72 ⟨hv0_72, hv1_72, hv2_72, hv3_72, hv4_72, hv5_72, hv6_72, hI_72, hF_72, h23_, r26_, h29_, (Or.inl ⟨h31_, z32_, h33_, rfl, rfl, rfl⟩)⟩) (Nat.lt_of_lt_of_le (lf_c_X12_findFar_27 v6_72 z32_ h23_ h33_ ) (Nat.le_of_lt_succ hm_72))
                          · refine w_iload dX12_findFar_95 2 rfl ?_
                            refine w_aload_n dX12_findFar_97 rfl 5 rfl ?_
                            refine w_getR (c' := (61, 0, 0)) fl_RX12_57 rfl rfl ic_12 dX12_findFar_98 rfl ?_
                            refine w_iload dX12_findFar_101 0 rfl ?_
                            refine w_iald rfl rfl ic_61 (rfl : r26_.toInt = r26_.toInt) (lf_c_X12_findFar_28 M_2 M_35 M_44 M_72 v u v3_2 v3_35 v4_44 v3_44 j12_ z10_ r15_ z20_ v6_72 v3_72 r26_ hv hu hv0_2 hv1_2 hv2_2 h2_ h4_ h5_ hv0_35 hv1_35 kv0_35 kv1_35 h7_ hv0_44 hv1_44 hv2_44 hv3_44 hv4_44 kv0_44 kv1_44 h9_ h13_ e11_ h14_ h18_ h21_ hv0_72 hv1_72 hv2_72 hv3_72 hv4_72 hv5_72 hv6_72 kv0_72 kv1_72 h23_ h29_ h31_ ) dX12_findFar_103 (fun j36_ h37_ z34_ e35_ => ?_)
                            have h38_ : 0 ≤ z34_.toInt ∧ z34_.toInt ≤ 1000000 := by rw [e35_]; exact ⟨(kv0_72 j36_ (lf_c_X12_findFar_29 M_2 M_35 M_44 M_72 v u v3_2 v3_35 v4_44 v3_44 j12_ z10_ r15_ z20_ v6_72 v3_72 r26_ j36_ z34_ hv hu hv0_2 hv1_2 hv2_2 h2_ h4_ h5_ hv0_35 hv1_35 kv0_35 kv1_35 h7_ hv0_44 hv1_44 hv2_44 hv3_44 hv4_44 kv0_44 kv1_44 h9_ h13_ e11_ h14_ h18_ h21_ hv0_72 hv1_72 hv2_72 hv3_72 hv4_72 hv5_72 hv6_72 kv0_72 kv1_72 h23_ h29_ h31_ h37_ e35_ )).1, (kv0_72 j36_ (lf_c_X12_findFar_29 M_2 M_35 M_44 M_72 v u v3_2 v3_35 v4_44 v3_44 j12_ z10_ r15_ z20_ v6_72 v3_72 r26_ j36_ z34_ hv hu hv0_2 hv1_2 hv2_2 h2_ h4_ h5_ hv0_35 hv1_35 kv0_35 kv1_35 h7_ hv0_44 hv1_44 hv2_44 hv3_44 hv4_44 kv0_44 kv1_44 h9_ h13_ e11_ h14_ h18_ h21_ hv0_72 hv1_72 hv2_72 hv3_72 hv4_72 hv5_72 hv6_72 kv0_72 kv1_72 h23_ h29_ h31_ h37_ e35_ )).2.1⟩
                            refine w_icmp_ge (tgt := 118) dX12_findFar_104 (by decide) (rfl : z20_.toInt = z20_.toInt) (rfl : z34_.toInt = z34_.toInt) (fun h39_ => ?_) (fun h39_ => ?_)
                            · refine w_iincB (j := 1) (f := fun z40_ => [(6, vI z40_), (7, vI r26_), (5, vI z20_), (4, vI v4_44), (3, vI v3_72), (0, vR (12, 0, 0)), (1, vI v), (2, vI u)]) dX12_findFar_118 rfl (by decide) (fun _ => rfl) (rfl : v6_72.toInt = v6_72.toInt) li_2 (lf_c_X0_measure_7 v6_72 hv0_72 h23_ ) (fun z40_ h41_ => ?_)
                              refine w_goto (tgt := 72) dX12_findFar_121 (by decide) ?_
                              refine w_loc (ls' := [(6, vI z40_), (5, vI z20_), (4, vI v4_44), (3, vI v3_72), (0, vR (12, 0, 0)), (1, vI v), (2, vI u)]) [0, 2, 3, 4, 5, 6, 7] rfl ?_
                              exact ih_72 M_72 hI_72 hF_72 z40_ v3_72 (lf_c_X0_measure_8 v6_72 z40_ hv0_72 h41_ ) (lf_c_X12_findFar_33 M_2 M_35 M_44 M_72 v u v3_2 v3_35 v4_44 v3_44 j12_ z10_ r15_ z20_ v6_72 v3_72 r26_ j36_ z34_ z40_ hv hu hv0_2 hv1_2 hv2_2 h2_ h4_ h5_ hv0_35 hv1_35 kv0_35 kv1_35 h7_ hv0_44 hv1_44 hv2_44 hv3_44 hv4_44 kv0_44 kv1_44 h9_ h13_ e11_ h14_ h18_ h21_ hv0_72 hv1_72 hv2_72 hv3_72 hv4_72 hv5_72 hv6_72 kv0_72 kv1_72 h23_ h29_ h31_ h37_ e35_ h38_ h39_ h41_ ) (lf_c_X12_findFar_34 M_2 M_35 M_44 M_72 v u v3_2 v3_35 v4_44 v3_44 j12_ z10_ r15_ z20_ v6_72 v3_72 r26_ j36_ z34_ z40_ hv hu hv0_2 hv1_2 hv2_2 h2_ h4_ h5_ hv0_35 hv1_35 kv0_35 kv1_35 h7_ hv0_44 hv1_44 hv2_44 hv3_44 hv4_44 kv0_44 kv1_44 h9_ h13_ e11_ h14_ h18_ h21_ hv0_72 hv1_72 hv2_72 hv3_72 hv4_72 hv5_72 hv6_72 kv0_72 kv1_72 h23_ h29_ h31_ h37_ e35_ h38_ h39_ h41_ ) hv3_72 (fun q9 => RX_some (hv4_72 q9) (lf_c_X12_findFar_22 v6_72 z40_ h41_ ) (lf_c_X12_findFar_23 v4_44 v6_72 hv0_44 hv0_72 ) (lf_c_X12_findFar_24 v6_72 hv2_72 ) (h29_.resolve_left (fun q8 => absurd q8.1 (lf_c_X12_one_42 r26_ h31_ ))).2.2 e35_ (lf_c_X12_findFar_39 r26_ j36_ h31_ h37_ ) hv6_72 (lf_c_X12_findTold_7 z20_ z34_ h39_ )) (lf_c_X12_findFar_41 M_2 M_35 M_44 M_72 v u v3_2 v3_35 v4_44 v3_44 j12_ z10_ r15_ z20_ v6_72 v3_72 r26_ j36_ z34_ z40_ hv hu hv0_2 hv1_2 hv2_2 h2_ h4_ h5_ hv0_35 hv1_35 kv0_35 kv1_35 h7_ hv0_44 hv1_44 hv2_44 hv3_44 hv4_44 kv0_44 kv1_44 h9_ h13_ e11_ h14_ h18_ h21_ hv0_72 hv1_72 hv2_72 hv3_72 hv4_72 hv5_72 hv6_72 kv0_72 kv1_72 h23_ h29_ h31_ h37_ e35_ h38_ h39_ h41_ ) hv6_72 kv0_72 kv1_72 (RCH.tail hL_72 ⟨hv0_72, hv1_72, hv2_72, hv3_72, hv4_72, hv5_72, hv6_72, hI_72, hF_72, h23_, r26_, h29_, (Or.inr ⟨h31_, j36_, h37_, z34_, e35_, h38_, (Or.inl ⟨h39_, z40_, h41_, rfl, rfl, rfl⟩)⟩)⟩) (Nat.lt_of_lt_of_le (lf_c_X12_findFar_27 v6_72 z40_ h23_ h41_ ) (Nat.le_of_lt_succ hm_72))
                            · refine w_aload_n dX12_findFar_107 rfl 5 rfl ?_
                              refine w_getR (c' := (61, 0, 0)) fl_RX12_57 rfl rfl ic_12 dX12_findFar_108 rfl ?_
                              refine w_iload dX12_findFar_111 0 rfl ?_
                              refine w_iload dX12_findFar_113 2 rfl ?_
                              refine w_iast DD_nd rfl rfl ic_61 (rfl : r26_.toInt = r26_.toInt) (lf_c_X12_findFar_43 M_2 M_35 M_44 M_72 v u v3_2 v3_35 v4_44 v3_44 j12_ z10_ r15_ z20_ v6_72 v3_72 r26_ j36_ z34_ hv hu hv0_2 hv1_2 hv2_2 h2_ h4_ h5_ hv0_35 hv1_35 kv0_35 kv1_35 h7_ hv0_44 hv1_44 hv2_44 hv3_44 hv4_44 kv0_44 kv1_44 h9_ h13_ e11_ h14_ h18_ h21_ hv0_72 hv1_72 hv2_72 hv3_72 hv4_72 hv5_72 hv6_72 kv0_72 kv1_72 h23_ h29_ h31_ h37_ e35_ h38_ h39_ ) dX12_findFar_115 (fun j44_ h45_ M42_ hM43_ => ?_)
                              have hI46_ := hI_72.put hM43_ ⟨trivial, Or.inr (by decide)⟩
                              have hF47_ := hF_72.put hM43_ (Or.inl ⟨rfl, rfl⟩)
                              have h48_ := FI_putM kv0_72 kv1_72 hM43_ (lf_c_X12_findFar_44 v4_44 h9_ ) (h29_.resolve_left (fun q8 => absurd q8.1 (lf_c_X12_one_42 r26_ h31_ ))).2.2 (lf_c_X12_findFar_39 r26_ j44_ h31_ h45_ ) hv6_72 (by show _ < (M_72.1 (61, 0, 0) j44_).toInt; rw [show j44_ = j36_ from (lf_c_X12_findFar_47 r26_ j36_ j44_ h37_ h45_ ), ← e35_]; exact (lf_c_X12_here_5 z20_ z34_ h39_ ))
                              have h49_ : FA (M42_.1 (61, 0, 0)) u.toInt := h48_.1
                              have h50_ : FB (M42_.1 (61, 0, 0)) (M42_.1 (50, 0, 0)) v u.toInt := h48_.2.1
                              have h51_ : smF (M42_.1 (61, 0, 0)) 192 < smF (M_72.1 (61, 0, 0)) 192 := h48_.2.2.1
                              have h52_ : z20_.toInt = gq (M42_.1 (61, 0, 0)) v4_44.toInt.toNat + costZ (M42_.1 (50, 0, 0)) v ((v4_44.toInt.toNat : Nat) : Int) := h48_.2.2.2
                              refine w_iconst (v := 1) dX12_findFar_116 (by decide) ?_
                              refine w_istore_n (ls' := [(3, vI 1), (7, vI r26_), (6, vI v6_72), (5, vI z20_), (4, vI v4_44), (0, vR (12, 0, 0)), (1, vI v), (2, vI u)]) dX12_findFar_117 rfl (by decide) rfl ?_
                              refine w_iincB (j := 2) (f := fun z53_ => [(6, vI z53_), (3, vI 1), (7, vI r26_), (5, vI z20_), (4, vI v4_44), (0, vR (12, 0, 0)), (1, vI v), (2, vI u)]) dX12_findFar_118 rfl (by decide) (fun _ => rfl) (rfl : v6_72.toInt = v6_72.toInt) li_2 (lf_c_X0_measure_7 v6_72 hv0_72 h23_ ) (fun z53_ h54_ => ?_)
                              refine w_goto (tgt := 72) dX12_findFar_121 (by decide) ?_
                              refine w_loc (ls' := [(6, vI z53_), (5, vI z20_), (4, vI v4_44), (3, vI 1), (0, vR (12, 0, 0)), (1, vI v), (2, vI u)]) [0, 3, 4, 1, 5, 6, 7] rfl ?_
                              exact ih_72 M42_ hI46_ hF47_ z53_ 1 (lf_c_X12_findFar_50 v6_72 z53_ hv0_72 h54_ ) (lf_c_X12_findFar_51 M42_ M_2 M_35 M_44 M_72 v u v3_2 v3_35 v4_44 v3_44 j12_ z10_ r15_ z20_ v6_72 v3_72 r26_ j36_ z34_ j44_ z53_ hv hu hv0_2 hv1_2 hv2_2 h2_ h4_ h5_ hv0_35 hv1_35 kv0_35 kv1_35 h7_ hv0_44 hv1_44 hv2_44 hv3_44 hv4_44 kv0_44 kv1_44 h9_ h13_ e11_ h14_ h18_ h21_ hv0_72 hv1_72 hv2_72 hv3_72 hv4_72 hv5_72 hv6_72 kv0_72 kv1_72 h23_ h29_ h31_ h37_ e35_ h38_ h39_ h45_ hM43_ h49_ h50_ h52_ h54_ ) (lf_c_X12_findFar_52 M42_ M_2 M_35 M_44 M_72 v u v3_2 v3_35 v4_44 v3_44 j12_ z10_ r15_ z20_ v6_72 v3_72 r26_ j36_ z34_ j44_ z53_ hv hu hv0_2 hv1_2 hv2_2 h2_ h4_ h5_ hv0_35 hv1_35 kv0_35 kv1_35 h7_ hv0_44 hv1_44 hv2_44 hv3_44 hv4_44 kv0_44 kv1_44 h9_ h13_ e11_ h14_ h18_ h21_ hv0_72 hv1_72 hv2_72 hv3_72 hv4_72 hv5_72 hv6_72 kv0_72 kv1_72 h23_ h29_ h31_ h37_ e35_ h38_ h39_ h45_ hM43_ h49_ h50_ h52_ h54_ ) (lf_c_X12_areCells_19 ) (fun q9 => absurd q9 (by decide)) (lf_c_X12_findFar_54 M42_ M_2 M_35 M_44 M_72 v u v3_2 v3_35 v4_44 v3_44 j12_ z10_ r15_ z20_ v6_72 v3_72 r26_ j36_ z34_ j44_ z53_ hv hu hv0_2 hv1_2 hv2_2 h2_ h4_ h5_ hv0_35 hv1_35 kv0_35 kv1_35 h7_ hv0_44 hv1_44 hv2_44 hv3_44 hv4_44 kv0_44 kv1_44 h9_ h13_ e11_ h14_ h18_ h21_ hv0_72 hv1_72 hv2_72 hv3_72 hv4_72 hv5_72 hv6_72 kv0_72 kv1_72 h23_ h29_ h31_ h37_ e35_ h38_ h39_ h45_ hM43_ h49_ h50_ h51_ h52_ h54_ ) h52_ h49_ h50_ (RCH.tail hL_72 ⟨hv0_72, hv1_72, hv2_72, hv3_72, hv4_72, hv5_72, hv6_72, hI_72, hF_72, h23_, r26_, h29_, (Or.inr ⟨h31_, j36_, h37_, z34_, e35_, h38_, (Or.inr ⟨h39_, j44_, h45_, M42_, hM43_, h49_, h50_, h51_, h52_, z53_, h54_, rfl, rfl, rfl⟩)⟩)⟩) (Nat.lt_of_lt_of_le (lf_c_X12_findFar_55 v6_72 z53_ h23_ h54_ ) (Nat.le_of_lt_succ hm_72))
                    exact lp22_ _ M_44 hI_44 hF_44 0 v3_44 (lf_c_X5_takeFrom_5 ) (lf_c_X9_isOf_5 ) (lf_c_X12_findFar_58 ) hv2_44 (fun q9 => RX_e (hv3_44 q9) rfl li_0) (lf_c_X12_findFar_59 M_2 M_35 M_44 v u v3_2 v3_35 v4_44 v3_44 j12_ z10_ r15_ z20_ hv hu hv0_2 hv1_2 hv2_2 h2_ h4_ h5_ hv0_35 hv1_35 kv0_35 kv1_35 h7_ hv0_44 hv1_44 hv2_44 hv3_44 hv4_44 kv0_44 kv1_44 h9_ h13_ e11_ h14_ h18_ h21_ ) (by rw [show v4_44.toInt.toNat = j12_ from (lf_c_X12_findFar_60 v4_44 j12_ hv0_44 h13_ ), show ((j12_ : Nat) : Int) = v4_44.toInt from (lf_c_X12_findFar_61 v4_44 j12_ h13_ ), ← h18_.2.2]; show _ = (M_44.1 (61, 0, 0) j12_).toInt + _; rw [← e11_]; exact (lf_c_X12_findFar_62 z10_ r15_ z20_ h21_ )) kv0_44 kv1_44 RCH.refl (Nat.lt_succ_self _)
              exact lp8_ _ M_35 hI_35 hF_35 0 0 (lf_c_X5_takeFrom_5 ) (lf_c_X9_begin_7 ) (lf_c_X12_areCells_14 ) (fun _ => RX_e RX_0 li_0 rfl) (lf_c_X12_findFar_66 M_2 M_35 v u v3_2 v3_35 hv hu hv0_2 hv1_2 hv2_2 h2_ h4_ h5_ hv0_35 hv1_35 kv0_35 kv1_35 h7_ ) kv0_35 kv1_35 RCH.refl (Nat.lt_succ_self _)
        exact lp6_ _ M_2 hI_2 hF_2 1 (lf_c_X12_areCells_19 ) (fun q9 => absurd q9 (by decide)) h4_ h5_ RCH.refl (Nat.lt_succ_self _)
      · refine w_aload_n dX12_findFar_9 rfl 1 rfl ?_
        refine w_getR (c' := (61, 0, 0)) fl_RX12_57 rfl rfl ic_12 dX12_findFar_10 rfl ?_
        refine w_iload_n dX12_findFar_13 rfl 0 rfl ?_
        refine w_iload_n dX12_findFar_14 rfl 0 rfl ?_
        refine w_iload_n dX12_findFar_15 rfl 3 rfl ?_
        refine w_icmp_ne (tgt := 23) dX12_findFar_16 (by decide) (rfl : v3_2.toInt = v3_2.toInt) (rfl : u.toInt = u.toInt) (fun h55_ => ?_) (fun h55_ => ?_)
        · refine w_ldc_w (v := 1000000) m_1770 dX12_findFar_23 ?_
          refine w_iast DD_nd rfl rfl ic_61 (rfl : v3_2.toInt = v3_2.toInt) (lf_c_X9_begin_0 v3_2 hv0_2 h2_ ) dX12_findFar_26 (fun j58_ h59_ M56_ hM57_ => ?_)
          have hI60_ := hI_2.put hM57_ ⟨trivial, Or.inr (by decide)⟩
          have hF61_ := hF_2.put hM57_ (Or.inl ⟨rfl, rfl⟩)
          refine w_iincB (j := 0) (f := fun z62_ => [(3, vI z62_), (0, vR (12, 0, 0)), (1, vI v), (2, vI u)]) dX12_findFar_27 rfl (by decide) (fun _ => rfl) (rfl : v3_2.toInt = v3_2.toInt) li_1 (lf_c_X9_begin_2 v3_2 hv0_2 h2_ ) (fun z62_ h63_ => ?_)
          refine w_goto (tgt := 2) dX12_findFar_30 (by decide) ?_
          refine w_loc (ls' := [(3, vI z62_), (0, vR (12, 0, 0)), (1, vI v), (2, vI u)]) [0, 1, 2, 3] rfl ?_
          exact ih_2 M56_ hI60_ hF61_ z62_ (lf_c_X5_takeFrom_3 v3_2 z62_ hv0_2 h63_ ) (lf_c_X9_begin_4 v3_2 z62_ h2_ h63_ ) (FZ_step hv2_2 hM57_ (lf_c_X12_lays_6 v3_2 j58_ h59_ ) (lf_c_X12_given_25 v3_2 z62_ h63_ ) (lf_c_X12_findFar_74 M56_ M_2 u v3_2 j58_ z62_ hu hv0_2 hv1_2 hv2_2 h2_ h55_ h59_ hM57_ h63_ )) (RCH.tail hL_2 ⟨hv0_2, hv1_2, hv2_2, hI_2, hF_2, h2_, (Or.inl ⟨h55_, j58_, h59_, M56_, hM57_, z62_, h63_, rfl, rfl⟩)⟩) (Nat.lt_of_lt_of_le (lf_c_X12_findFar_15 v3_2 z62_ h2_ h63_ ) (Nat.le_of_lt_succ hm_2))
        · refine w_iconst (v := 0) dX12_findFar_19 (by decide) ?_
          refine w_goto (tgt := 26) dX12_findFar_20 (by decide) ?_
          refine w_iast DD_nd rfl rfl ic_61 (rfl : v3_2.toInt = v3_2.toInt) (lf_c_X9_begin_0 v3_2 hv0_2 h2_ ) dX12_findFar_26 (fun j66_ h67_ M64_ hM65_ => ?_)
          have hI68_ := hI_2.put hM65_ ⟨trivial, Or.inr (by decide)⟩
          have hF69_ := hF_2.put hM65_ (Or.inl ⟨rfl, rfl⟩)
          refine w_iincB (j := 0) (f := fun z70_ => [(3, vI z70_), (0, vR (12, 0, 0)), (1, vI v), (2, vI u)]) dX12_findFar_27 rfl (by decide) (fun _ => rfl) (rfl : v3_2.toInt = v3_2.toInt) li_1 (lf_c_X9_begin_2 v3_2 hv0_2 h2_ ) (fun z70_ h71_ => ?_)
          refine w_goto (tgt := 2) dX12_findFar_30 (by decide) ?_
          refine w_loc (ls' := [(3, vI z70_), (0, vR (12, 0, 0)), (1, vI v), (2, vI u)]) [0, 1, 2, 3] rfl ?_
          exact ih_2 M64_ hI68_ hF69_ z70_ (lf_c_X5_takeFrom_3 v3_2 z70_ hv0_2 h71_ ) (lf_c_X9_begin_4 v3_2 z70_ h2_ h71_ ) (FZ_step hv2_2 hM65_ (lf_c_X12_lays_6 v3_2 j66_ h67_ ) (lf_c_X12_given_25 v3_2 z70_ h71_ ) (lf_c_X12_findFar_82 M64_ M_2 u v3_2 j66_ z70_ hu hv0_2 hv1_2 hv2_2 h2_ h55_ h67_ hM65_ h71_ )) (RCH.tail hL_2 ⟨hv0_2, hv1_2, hv2_2, hI_2, hF_2, h2_, (Or.inr ⟨h55_, j66_, h67_, M64_, hM65_, z70_, h71_, rfl, rfl⟩)⟩) (Nat.lt_of_lt_of_le (lf_c_X12_findFar_15 v3_2 z70_ h2_ h71_ ) (Nat.le_of_lt_succ hm_2))
  exact lp1_ _ Mz hIz hFz 0 (lf_c_X5_takeFrom_5 ) (lf_c_X9_begin_7 ) (fun c9 h9 => absurd h9 (by have := li_0; omega)) RCH.refl (Nat.lt_succ_self _)
end
section
/-! words of the tables that are used, by their places; decode rows; fields -/
theorem m_69 : Cond.selects yX12_findFar.cls yX12_findFar yX12_findFar ∈ BASE := bmem 69 (by decide +kernel) rfl
set_option maxRecDepth 20000 in
theorem m_1766 : Cond.methodLink RX12 308 yX12_findFar ∈ BASE := bmT8 8 rfl rfl
set_option maxRecDepth 20000 in
theorem m_1768 : Cond.instanceMethod yX12_findFar ∈ BASE := bmT8 10 rfl rfl
set_option maxRecDepth 20000 in
theorem m_1769 : Cond.code yX12_findFar cX12_findFar 8 none ∈ BASE := bmT8 11 rfl rfl
theorem kV_X12_findFar : KV yX12_findFar cX12_findFar 8 none 2 := ⟨m_1768, m_69, m_92, m_1769, nhM_17, nhV_17, pdn_5⟩
theorem ch_cX12_way_0 : (cX12_way.data.toList.drop 0).take 36 = [42, 27, 5, 182, 0, 116, 153, 0, 15, 28, 184, 0, 99, 153, 0, 8, 29, 2, 162, 0, 10, 42, 18, 103, 182, 0, 104, 172, 42, 27, 28, 182, 1, 52, 42, 180] := by decide +kernel
theorem dX12_way_0 : decode cX12_way 0 = .ok (.aload_n 0, 1) := do_42 (rdb (p := 0) (i := 0) ch_cX12_way_0 rfl)
theorem dX12_way_1 : decode cX12_way 1 = .ok (.iload_n 1, 1) := do_27 (rdb (p := 0) (i := 1) ch_cX12_way_0 rfl)
theorem dX12_way_2 : decode cX12_way 2 = .ok (.iconst 2, 1) := do_5 (rdb (p := 0) (i := 2) ch_cX12_way_0 rfl)
theorem dX12_way_3 : decode cX12_way 3 = .ok (.invokevirtual 116, 3) := do_182 (rdb (p := 0) (i := 3) ch_cX12_way_0 rfl) (rdb (p := 0) (i := 4) ch_cX12_way_0 rfl) (rdb (p := 0) (i := 5) ch_cX12_way_0 rfl) rfl
theorem dX12_way_6 : decode cX12_way 6 = .ok (.ifCond .eq 15, 3) := do_153 (rdb (p := 0) (i := 6) ch_cX12_way_0 rfl) (rdb (p := 0) (i := 7) ch_cX12_way_0 rfl) (rdb (p := 0) (i := 8) ch_cX12_way_0 rfl) (by decide +kernel)
theorem dX12_way_9 : decode cX12_way 9 = .ok (.iload_n 2, 1) := do_28 (rdb (p := 0) (i := 9) ch_cX12_way_0 rfl)
theorem dX12_way_10 : decode cX12_way 10 = .ok (.invokestatic 99, 3) := do_184 (rdb (p := 0) (i := 10) ch_cX12_way_0 rfl) (rdb (p := 0) (i := 11) ch_cX12_way_0 rfl) (rdb (p := 0) (i := 12) ch_cX12_way_0 rfl) rfl
theorem dX12_way_13 : decode cX12_way 13 = .ok (.ifCond .eq 8, 3) := do_153 (rdb (p := 0) (i := 13) ch_cX12_way_0 rfl) (rdb (p := 0) (i := 14) ch_cX12_way_0 rfl) (rdb (p := 0) (i := 15) ch_cX12_way_0 rfl) (by decide +kernel)
theorem dX12_way_16 : decode cX12_way 16 = .ok (.iload_n 3, 1) := do_29 (rdb (p := 0) (i := 16) ch_cX12_way_0 rfl)
theorem dX12_way_17 : decode cX12_way 17 = .ok (.iconst (-1), 1) := do_2 (rdb (p := 0) (i := 17) ch_cX12_way_0 rfl)
theorem dX12_way_18 : decode cX12_way 18 = .ok (.if_icmp .ge 10, 3) := do_162 (rdb (p := 0) (i := 18) ch_cX12_way_0 rfl) (rdb (p := 0) (i := 19) ch_cX12_way_0 rfl) (rdb (p := 0) (i := 20) ch_cX12_way_0 rfl) (by decide +kernel)
theorem dX12_way_21 : decode cX12_way 21 = .ok (.aload_n 0, 1) := do_42 (rdb (p := 0) (i := 21) ch_cX12_way_0 rfl)
theorem dX12_way_22 : decode cX12_way 22 = .ok (.ldc 103, 2) := do_18 (rdb (p := 0) (i := 22) ch_cX12_way_0 rfl) (rdb (p := 0) (i := 23) ch_cX12_way_0 rfl)
theorem dX12_way_24 : decode cX12_way 24 = .ok (.invokevirtual 104, 3) := do_182 (rdb (p := 0) (i := 24) ch_cX12_way_0 rfl) (rdb (p := 0) (i := 25) ch_cX12_way_0 rfl) (rdb (p := 0) (i := 26) ch_cX12_way_0 rfl) rfl
theorem dX12_way_27 : decode cX12_way 27 = .ok (.ireturn, 1) := do_172 (rdb (p := 0) (i := 27) ch_cX12_way_0 rfl)
theorem dX12_way_28 : decode cX12_way 28 = .ok (.aload_n 0, 1) := do_42 (rdb (p := 0) (i := 28) ch_cX12_way_0 rfl)
theorem dX12_way_29 : decode cX12_way 29 = .ok (.iload_n 1, 1) := do_27 (rdb (p := 0) (i := 29) ch_cX12_way_0 rfl)
theorem dX12_way_30 : decode cX12_way 30 = .ok (.iload_n 2, 1) := do_28 (rdb (p := 0) (i := 30) ch_cX12_way_0 rfl)
theorem dX12_way_31 : decode cX12_way 31 = .ok (.invokevirtual 308, 3) := do_182 (rdb (p := 0) (i := 31) ch_cX12_way_0 rfl) (rdb (p := 0) (i := 32) ch_cX12_way_0 rfl) (rdb (p := 0) (i := 33) ch_cX12_way_0 rfl) rfl
theorem ch_cX12_way_32 : (cX12_way.data.toList.drop 32).take 36 = [1, 52, 42, 180, 0, 9, 42, 27, 182, 0, 93, 4, 96, 46, 54, 4, 29, 156, 0, 11, 42, 180, 0, 57, 21, 4, 46, 172, 3, 54, 5, 21, 5, 29, 162, 0] := by decide +kernel
theorem dX12_way_34 : decode cX12_way 34 = .ok (.aload_n 0, 1) := do_42 (rdb (p := 32) (i := 2) ch_cX12_way_32 rfl)
theorem dX12_way_35 : decode cX12_way 35 = .ok (.getfield 9, 3) := do_180 (rdb (p := 32) (i := 3) ch_cX12_way_32 rfl) (rdb (p := 32) (i := 4) ch_cX12_way_32 rfl) (rdb (p := 32) (i := 5) ch_cX12_way_32 rfl) rfl
theorem dX12_way_38 : decode cX12_way 38 = .ok (.aload_n 0, 1) := do_42 (rdb (p := 32) (i := 6) ch_cX12_way_32 rfl)
theorem dX12_way_39 : decode cX12_way 39 = .ok (.iload_n 1, 1) := do_27 (rdb (p := 32) (i := 7) ch_cX12_way_32 rfl)
theorem dX12_way_40 : decode cX12_way 40 = .ok (.invokevirtual 93, 3) := do_182 (rdb (p := 32) (i := 8) ch_cX12_way_32 rfl) (rdb (p := 32) (i := 9) ch_cX12_way_32 rfl) (rdb (p := 32) (i := 10) ch_cX12_way_32 rfl) rfl
theorem dX12_way_43 : decode cX12_way 43 = .ok (.iconst 1, 1) := do_4 (rdb (p := 32) (i := 11) ch_cX12_way_32 rfl)
theorem dX12_way_44 : decode cX12_way 44 = .ok (.iadd, 1) := do_96 (rdb (p := 32) (i := 12) ch_cX12_way_32 rfl)
theorem dX12_way_45 : decode cX12_way 45 = .ok (.iaload, 1) := do_46 (rdb (p := 32) (i := 13) ch_cX12_way_32 rfl)
theorem dX12_way_46 : decode cX12_way 46 = .ok (.istore 4, 2) := do_54 (rdb (p := 32) (i := 14) ch_cX12_way_32 rfl) (rdb (p := 32) (i := 15) ch_cX12_way_32 rfl)
theorem dX12_way_48 : decode cX12_way 48 = .ok (.iload_n 3, 1) := do_29 (rdb (p := 32) (i := 16) ch_cX12_way_32 rfl)
theorem dX12_way_49 : decode cX12_way 49 = .ok (.ifCond .ge 11, 3) := do_156 (rdb (p := 32) (i := 17) ch_cX12_way_32 rfl) (rdb (p := 32) (i := 18) ch_cX12_way_32 rfl) (rdb (p := 32) (i := 19) ch_cX12_way_32 rfl) (by decide +kernel)
theorem dX12_way_52 : decode cX12_way 52 = .ok (.aload_n 0, 1) := do_42 (rdb (p := 32) (i := 20) ch_cX12_way_32 rfl)
theorem dX12_way_53 : decode cX12_way 53 = .ok (.getfield 57, 3) := do_180 (rdb (p := 32) (i := 21) ch_cX12_way_32 rfl) (rdb (p := 32) (i := 22) ch_cX12_way_32 rfl) (rdb (p := 32) (i := 23) ch_cX12_way_32 rfl) rfl
theorem dX12_way_56 : decode cX12_way 56 = .ok (.iload 4, 2) := do_21 (rdb (p := 32) (i := 24) ch_cX12_way_32 rfl) (rdb (p := 32) (i := 25) ch_cX12_way_32 rfl)
theorem dX12_way_58 : decode cX12_way 58 = .ok (.iaload, 1) := do_46 (rdb (p := 32) (i := 26) ch_cX12_way_32 rfl)
theorem dX12_way_59 : decode cX12_way 59 = .ok (.ireturn, 1) := do_172 (rdb (p := 32) (i := 27) ch_cX12_way_32 rfl)
theorem dX12_way_60 : decode cX12_way 60 = .ok (.iconst 0, 1) := do_3 (rdb (p := 32) (i := 28) ch_cX12_way_32 rfl)
theorem dX12_way_61 : decode cX12_way 61 = .ok (.istore 5, 2) := do_54 (rdb (p := 32) (i := 29) ch_cX12_way_32 rfl) (rdb (p := 32) (i := 30) ch_cX12_way_32 rfl)
theorem dX12_way_63 : decode cX12_way 63 = .ok (.iload 5, 2) := do_21 (rdb (p := 32) (i := 31) ch_cX12_way_32 rfl) (rdb (p := 32) (i := 32) ch_cX12_way_32 rfl)
theorem ch_cX12_way_64 : (cX12_way.data.toList.drop 64).take 36 = [5, 29, 162, 0, 93, 21, 4, 28, 160, 0, 10, 42, 18, 130, 182, 0, 104, 172, 3, 54, 6, 42, 21, 4, 21, 6, 4, 182, 0, 234, 155, 0, 42, 42, 180, 0] := by decide +kernel
theorem dX12_way_65 : decode cX12_way 65 = .ok (.iload_n 3, 1) := do_29 (rdb (p := 64) (i := 1) ch_cX12_way_64 rfl)
theorem dX12_way_66 : decode cX12_way 66 = .ok (.if_icmp .ge 93, 3) := do_162 (rdb (p := 64) (i := 2) ch_cX12_way_64 rfl) (rdb (p := 64) (i := 3) ch_cX12_way_64 rfl) (rdb (p := 64) (i := 4) ch_cX12_way_64 rfl) (by decide +kernel)
theorem dX12_way_69 : decode cX12_way 69 = .ok (.iload 4, 2) := do_21 (rdb (p := 64) (i := 5) ch_cX12_way_64 rfl) (rdb (p := 64) (i := 6) ch_cX12_way_64 rfl)
theorem dX12_way_71 : decode cX12_way 71 = .ok (.iload_n 2, 1) := do_28 (rdb (p := 64) (i := 7) ch_cX12_way_64 rfl)
theorem dX12_way_72 : decode cX12_way 72 = .ok (.if_icmp .ne 10, 3) := do_160 (rdb (p := 64) (i := 8) ch_cX12_way_64 rfl) (rdb (p := 64) (i := 9) ch_cX12_way_64 rfl) (rdb (p := 64) (i := 10) ch_cX12_way_64 rfl) (by decide +kernel)
theorem dX12_way_75 : decode cX12_way 75 = .ok (.aload_n 0, 1) := do_42 (rdb (p := 64) (i := 11) ch_cX12_way_64 rfl)
theorem dX12_way_76 : decode cX12_way 76 = .ok (.ldc 130, 2) := do_18 (rdb (p := 64) (i := 12) ch_cX12_way_64 rfl) (rdb (p := 64) (i := 13) ch_cX12_way_64 rfl)
theorem dX12_way_78 : decode cX12_way 78 = .ok (.invokevirtual 104, 3) := do_182 (rdb (p := 64) (i := 14) ch_cX12_way_64 rfl) (rdb (p := 64) (i := 15) ch_cX12_way_64 rfl) (rdb (p := 64) (i := 16) ch_cX12_way_64 rfl) rfl
theorem dX12_way_81 : decode cX12_way 81 = .ok (.ireturn, 1) := do_172 (rdb (p := 64) (i := 17) ch_cX12_way_64 rfl)
theorem dX12_way_82 : decode cX12_way 82 = .ok (.iconst 0, 1) := do_3 (rdb (p := 64) (i := 18) ch_cX12_way_64 rfl)
theorem dX12_way_83 : decode cX12_way 83 = .ok (.istore 6, 2) := do_54 (rdb (p := 64) (i := 19) ch_cX12_way_64 rfl) (rdb (p := 64) (i := 20) ch_cX12_way_64 rfl)
theorem dX12_way_85 : decode cX12_way 85 = .ok (.aload_n 0, 1) := do_42 (rdb (p := 64) (i := 21) ch_cX12_way_64 rfl)
theorem dX12_way_86 : decode cX12_way 86 = .ok (.iload 4, 2) := do_21 (rdb (p := 64) (i := 22) ch_cX12_way_64 rfl) (rdb (p := 64) (i := 23) ch_cX12_way_64 rfl)
theorem dX12_way_88 : decode cX12_way 88 = .ok (.iload 6, 2) := do_21 (rdb (p := 64) (i := 24) ch_cX12_way_64 rfl) (rdb (p := 64) (i := 25) ch_cX12_way_64 rfl)
theorem dX12_way_90 : decode cX12_way 90 = .ok (.iconst 1, 1) := do_4 (rdb (p := 64) (i := 26) ch_cX12_way_64 rfl)
theorem dX12_way_91 : decode cX12_way 91 = .ok (.invokevirtual 234, 3) := do_182 (rdb (p := 64) (i := 27) ch_cX12_way_64 rfl) (rdb (p := 64) (i := 28) ch_cX12_way_64 rfl) (rdb (p := 64) (i := 29) ch_cX12_way_64 rfl) rfl
theorem dX12_way_94 : decode cX12_way 94 = .ok (.ifCond .lt 42, 3) := do_155 (rdb (p := 64) (i := 30) ch_cX12_way_64 rfl) (rdb (p := 64) (i := 31) ch_cX12_way_64 rfl) (rdb (p := 64) (i := 32) ch_cX12_way_64 rfl) (by decide +kernel)
theorem ch_cX12_way_96 : (cX12_way.data.toList.drop 96).take 36 = [42, 42, 180, 0, 57, 42, 21, 4, 21, 6, 4, 182, 0, 234, 46, 42, 27, 42, 21, 4, 21, 6, 4, 182, 0, 234, 182, 1, 49, 96, 42, 180, 0, 57, 21, 4] := by decide +kernel
theorem dX12_way_97 : decode cX12_way 97 = .ok (.aload_n 0, 1) := do_42 (rdb (p := 96) (i := 1) ch_cX12_way_96 rfl)
theorem dX12_way_98 : decode cX12_way 98 = .ok (.getfield 57, 3) := do_180 (rdb (p := 96) (i := 2) ch_cX12_way_96 rfl) (rdb (p := 96) (i := 3) ch_cX12_way_96 rfl) (rdb (p := 96) (i := 4) ch_cX12_way_96 rfl) rfl
theorem dX12_way_101 : decode cX12_way 101 = .ok (.aload_n 0, 1) := do_42 (rdb (p := 96) (i := 5) ch_cX12_way_96 rfl)
theorem dX12_way_102 : decode cX12_way 102 = .ok (.iload 4, 2) := do_21 (rdb (p := 96) (i := 6) ch_cX12_way_96 rfl) (rdb (p := 96) (i := 7) ch_cX12_way_96 rfl)
theorem dX12_way_104 : decode cX12_way 104 = .ok (.iload 6, 2) := do_21 (rdb (p := 96) (i := 8) ch_cX12_way_96 rfl) (rdb (p := 96) (i := 9) ch_cX12_way_96 rfl)
theorem dX12_way_106 : decode cX12_way 106 = .ok (.iconst 1, 1) := do_4 (rdb (p := 96) (i := 10) ch_cX12_way_96 rfl)
theorem dX12_way_107 : decode cX12_way 107 = .ok (.invokevirtual 234, 3) := do_182 (rdb (p := 96) (i := 11) ch_cX12_way_96 rfl) (rdb (p := 96) (i := 12) ch_cX12_way_96 rfl) (rdb (p := 96) (i := 13) ch_cX12_way_96 rfl) rfl
theorem dX12_way_110 : decode cX12_way 110 = .ok (.iaload, 1) := do_46 (rdb (p := 96) (i := 14) ch_cX12_way_96 rfl)
theorem dX12_way_111 : decode cX12_way 111 = .ok (.aload_n 0, 1) := do_42 (rdb (p := 96) (i := 15) ch_cX12_way_96 rfl)
theorem dX12_way_112 : decode cX12_way 112 = .ok (.iload_n 1, 1) := do_27 (rdb (p := 96) (i := 16) ch_cX12_way_96 rfl)
theorem dX12_way_113 : decode cX12_way 113 = .ok (.aload_n 0, 1) := do_42 (rdb (p := 96) (i := 17) ch_cX12_way_96 rfl)
theorem dX12_way_114 : decode cX12_way 114 = .ok (.iload 4, 2) := do_21 (rdb (p := 96) (i := 18) ch_cX12_way_96 rfl) (rdb (p := 96) (i := 19) ch_cX12_way_96 rfl)
theorem dX12_way_116 : decode cX12_way 116 = .ok (.iload 6, 2) := do_21 (rdb (p := 96) (i := 20) ch_cX12_way_96 rfl) (rdb (p := 96) (i := 21) ch_cX12_way_96 rfl)
theorem dX12_way_118 : decode cX12_way 118 = .ok (.iconst 1, 1) := do_4 (rdb (p := 96) (i := 22) ch_cX12_way_96 rfl)
theorem dX12_way_119 : decode cX12_way 119 = .ok (.invokevirtual 234, 3) := do_182 (rdb (p := 96) (i := 23) ch_cX12_way_96 rfl) (rdb (p := 96) (i := 24) ch_cX12_way_96 rfl) (rdb (p := 96) (i := 25) ch_cX12_way_96 rfl) rfl
theorem dX12_way_122 : decode cX12_way 122 = .ok (.invokevirtual 305, 3) := do_182 (rdb (p := 96) (i := 26) ch_cX12_way_96 rfl) (rdb (p := 96) (i := 27) ch_cX12_way_96 rfl) (rdb (p := 96) (i := 28) ch_cX12_way_96 rfl) rfl
theorem dX12_way_125 : decode cX12_way 125 = .ok (.iadd, 1) := do_96 (rdb (p := 96) (i := 29) ch_cX12_way_96 rfl)
theorem dX12_way_126 : decode cX12_way 126 = .ok (.aload_n 0, 1) := do_42 (rdb (p := 96) (i := 30) ch_cX12_way_96 rfl)
theorem dX12_way_127 : decode cX12_way 127 = .ok (.getfield 57, 3) := do_180 (rdb (p := 96) (i := 31) ch_cX12_way_96 rfl) (rdb (p := 96) (i := 32) ch_cX12_way_96 rfl) (rdb (p := 96) (i := 33) ch_cX12_way_96 rfl) rfl
theorem ch_cX12_way_128 : (cX12_way.data.toList.drop 128).take 36 = [0, 57, 21, 4, 46, 159, 0, 9, 132, 6, 2, 167, 255, 202, 42, 21, 4, 21, 6, 4, 182, 0, 234, 54, 4, 132, 5, 1, 167, 255, 163, 21, 4, 172] := by decide +kernel
theorem dX12_way_130 : decode cX12_way 130 = .ok (.iload 4, 2) := do_21 (rdb (p := 128) (i := 2) ch_cX12_way_128 rfl) (rdb (p := 128) (i := 3) ch_cX12_way_128 rfl)
theorem dX12_way_132 : decode cX12_way 132 = .ok (.iaload, 1) := do_46 (rdb (p := 128) (i := 4) ch_cX12_way_128 rfl)
theorem dX12_way_133 : decode cX12_way 133 = .ok (.if_icmp .eq 9, 3) := do_159 (rdb (p := 128) (i := 5) ch_cX12_way_128 rfl) (rdb (p := 128) (i := 6) ch_cX12_way_128 rfl) (rdb (p := 128) (i := 7) ch_cX12_way_128 rfl) (by decide +kernel)
theorem dX12_way_136 : decode cX12_way 136 = .ok (.iinc 6 2, 3) := do_132 (rdb (p := 128) (i := 8) ch_cX12_way_128 rfl) (rdb (p := 128) (i := 9) ch_cX12_way_128 rfl) (rdb (p := 128) (i := 10) ch_cX12_way_128 rfl) (by decide +kernel)
theorem dX12_way_139 : decode cX12_way 139 = .ok (.goto (-54), 3) := do_167 (rdb (p := 128) (i := 11) ch_cX12_way_128 rfl) (rdb (p := 128) (i := 12) ch_cX12_way_128 rfl) (rdb (p := 128) (i := 13) ch_cX12_way_128 rfl) (by decide +kernel)
theorem dX12_way_142 : decode cX12_way 142 = .ok (.aload_n 0, 1) := do_42 (rdb (p := 128) (i := 14) ch_cX12_way_128 rfl)
theorem dX12_way_143 : decode cX12_way 143 = .ok (.iload 4, 2) := do_21 (rdb (p := 128) (i := 15) ch_cX12_way_128 rfl) (rdb (p := 128) (i := 16) ch_cX12_way_128 rfl)
theorem dX12_way_145 : decode cX12_way 145 = .ok (.iload 6, 2) := do_21 (rdb (p := 128) (i := 17) ch_cX12_way_128 rfl) (rdb (p := 128) (i := 18) ch_cX12_way_128 rfl)
theorem dX12_way_147 : decode cX12_way 147 = .ok (.iconst 1, 1) := do_4 (rdb (p := 128) (i := 19) ch_cX12_way_128 rfl)
theorem dX12_way_148 : decode cX12_way 148 = .ok (.invokevirtual 234, 3) := do_182 (rdb (p := 128) (i := 20) ch_cX12_way_128 rfl) (rdb (p := 128) (i := 21) ch_cX12_way_128 rfl) (rdb (p := 128) (i := 22) ch_cX12_way_128 rfl) rfl
theorem dX12_way_151 : decode cX12_way 151 = .ok (.istore 4, 2) := do_54 (rdb (p := 128) (i := 23) ch_cX12_way_128 rfl) (rdb (p := 128) (i := 24) ch_cX12_way_128 rfl)
theorem dX12_way_153 : decode cX12_way 153 = .ok (.iinc 5 1, 3) := do_132 (rdb (p := 128) (i := 25) ch_cX12_way_128 rfl) (rdb (p := 128) (i := 26) ch_cX12_way_128 rfl) (rdb (p := 128) (i := 27) ch_cX12_way_128 rfl) (by decide +kernel)
theorem dX12_way_156 : decode cX12_way 156 = .ok (.goto (-93), 3) := do_167 (rdb (p := 128) (i := 28) ch_cX12_way_128 rfl) (rdb (p := 128) (i := 29) ch_cX12_way_128 rfl) (rdb (p := 128) (i := 30) ch_cX12_way_128 rfl) (by decide +kernel)
theorem dX12_way_159 : decode cX12_way 159 = .ok (.iload 4, 2) := do_21 (rdb (p := 128) (i := 31) ch_cX12_way_128 rfl) (rdb (p := 128) (i := 32) ch_cX12_way_128 rfl)
theorem ch_cX12_way_160 : (cX12_way.data.toList.drop 160).take 36 = [4, 172] := by decide +kernel
theorem dX12_way_161 : decode cX12_way 161 = .ok (.ireturn, 1) := do_172 (rdb (p := 160) (i := 1) ch_cX12_way_160 rfl)
end
section
def S_c_X12_way : rf → Nat → Prop := fun c k => (c.1 = 61 ∧ c.2.1 = 0) ∨ (c.1 = 53 ∧ c.2.1 = 0) ∨ False
def ST_X12_way_85 (v : Int32) (M_63 : mM) (v4_63 : Int32) (v6_85 : Int32) (v6_85y : Int32) : Prop := (0 ≤ v6_85.toInt) ∧ (v6_85.toInt % 2 = 0) ∧ (WI (M_63.1 (61, 0, 0)) (M_63.1 (50, 0, 0)) v v4_63.toInt.toNat v6_85.toInt) ∧ (v6_85.toInt ≤ 6) ∧ ∃ r39_ : Int32, (((r39_.toInt = -1 ∧ ∀ n : Nat, ¬ nbP v4_63.toInt.toNat v6_85.toInt.toNat n) ∨ (0 ≤ r39_.toInt ∧ r39_.toInt ≤ 191 ∧ nbP v4_63.toInt.toNat v6_85.toInt.toNat r39_.toInt.toNat))) ∧ (((r39_.toInt < 0) ∧ ∃ z45_ : Int32, (z45_.toInt = v6_85.toInt + 2) ∧ v6_85y = z45_) ∨ ((0 ≤ r39_.toInt) ∧ ∃ r47_ : Int32, (((r47_.toInt = -1 ∧ ∀ n : Nat, ¬ nbP v4_63.toInt.toNat v6_85.toInt.toNat n) ∨ (0 ≤ r47_.toInt ∧ r47_.toInt ≤ 191 ∧ nbP v4_63.toInt.toNat v6_85.toInt.toNat r47_.toInt.toNat))) ∧ (0 ≤ r47_.toInt ∧ r47_.toInt ≤ 191) ∧ ∃ j55_ : Nat, ((j55_ : Int) = r47_.toInt) ∧ ∃ z53_ : Int32, (z53_ = M_63.1 (61, 0, 0) j55_) ∧ (0 ≤ z53_.toInt ∧ z53_.toInt ≤ 1000000) ∧ ∃ r58_ : Int32, (((r58_.toInt = -1 ∧ ∀ n : Nat, ¬ nbP v4_63.toInt.toNat v6_85.toInt.toNat n) ∨ (0 ≤ r58_.toInt ∧ r58_.toInt ≤ 191 ∧ nbP v4_63.toInt.toNat v6_85.toInt.toNat r58_.toInt.toNat))) ∧ (0 ≤ r58_.toInt ∧ r58_.toInt ≤ 191) ∧ ∃ r64_ : Int32, (SP_costZ v r58_ M_63 r64_) ∧ (1 ≤ r64_.toInt ∧ r64_.toInt ≤ 20 ∧ r64_.toInt = costZ (M_63.1 (50, 0, 0)) v r58_.toInt) ∧ ∃ z69_ : Int32, (z69_.toInt = z53_.toInt + r64_.toInt) ∧ ∃ j73_ : Nat, ((j73_ : Int) = v4_63.toInt) ∧ ∃ z71_ : Int32, (z71_ = M_63.1 (61, 0, 0) j73_) ∧ (0 ≤ z71_.toInt ∧ z71_.toInt ≤ 1000000) ∧ (¬ z69_.toInt = z71_.toInt) ∧ ∃ z85_ : Int32, (z85_.toInt = v6_85.toInt + 2) ∧ v6_85y = z85_))
def ST_X12_way_63 (v : Int32) (u : Int32) (t : Int32) (Mz : mM) (v5_63 : Int32) (v4_63 : Int32) (M_63 : mM) (v5_63y : Int32) (v4_63y : Int32) (M_63y : mM) : Prop := (0 ≤ v5_63.toInt) ∧ (0 ≤ v4_63.toInt ∧ v4_63.toInt ≤ 191) ∧ (InvD M_63) ∧ (FR (S_c_X12_way) Mz M_63) ∧ (v5_63.toInt < t.toInt) ∧ (¬ v4_63.toInt = u.toInt) ∧ ∃ v6_85 : Int32, (0 ≤ v6_85.toInt) ∧ (v6_85.toInt % 2 = 0) ∧ (WI (M_63.1 (61, 0, 0)) (M_63.1 (50, 0, 0)) v v4_63.toInt.toNat v6_85.toInt) ∧ (RCH (fun x_ y_ => ST_X12_way_85 v M_63 v4_63 x_ y_) (0 : Int32) v6_85) ∧ (v6_85.toInt ≤ 6) ∧ ∃ r39_ : Int32, (((r39_.toInt = -1 ∧ ∀ n : Nat, ¬ nbP v4_63.toInt.toNat v6_85.toInt.toNat n) ∨ (0 ≤ r39_.toInt ∧ r39_.toInt ≤ 191 ∧ nbP v4_63.toInt.toNat v6_85.toInt.toNat r39_.toInt.toNat))) ∧ (0 ≤ r39_.toInt) ∧ ∃ r47_ : Int32, (((r47_.toInt = -1 ∧ ∀ n : Nat, ¬ nbP v4_63.toInt.toNat v6_85.toInt.toNat n) ∨ (0 ≤ r47_.toInt ∧ r47_.toInt ≤ 191 ∧ nbP v4_63.toInt.toNat v6_85.toInt.toNat r47_.toInt.toNat))) ∧ (0 ≤ r47_.toInt ∧ r47_.toInt ≤ 191) ∧ ∃ j55_ : Nat, ((j55_ : Int) = r47_.toInt) ∧ ∃ z53_ : Int32, (z53_ = M_63.1 (61, 0, 0) j55_) ∧ (0 ≤ z53_.toInt ∧ z53_.toInt ≤ 1000000) ∧ ∃ r58_ : Int32, (((r58_.toInt = -1 ∧ ∀ n : Nat, ¬ nbP v4_63.toInt.toNat v6_85.toInt.toNat n) ∨ (0 ≤ r58_.toInt ∧ r58_.toInt ≤ 191 ∧ nbP v4_63.toInt.toNat v6_85.toInt.toNat r58_.toInt.toNat))) ∧ (0 ≤ r58_.toInt ∧ r58_.toInt ≤ 191) ∧ ∃ r64_ : Int32, (SP_costZ v r58_ M_63 r64_) ∧ (1 ≤ r64_.toInt ∧ r64_.toInt ≤ 20 ∧ r64_.toInt = costZ (M_63.1 (50, 0, 0)) v r58_.toInt) ∧ ∃ z69_ : Int32, (z69_.toInt = z53_.toInt + r64_.toInt) ∧ ∃ j73_ : Nat, ((j73_ : Int) = v4_63.toInt) ∧ ∃ z71_ : Int32, (z71_ = M_63.1 (61, 0, 0) j73_) ∧ (0 ≤ z71_.toInt ∧ z71_.toInt ≤ 1000000) ∧ (z69_.toInt = z71_.toInt) ∧ ∃ r77_ : Int32, (((r77_.toInt = -1 ∧ ∀ n : Nat, ¬ nbP v4_63.toInt.toNat v6_85.toInt.toNat n) ∨ (0 ≤ r77_.toInt ∧ r77_.toInt ≤ 191 ∧ nbP v4_63.toInt.toNat v6_85.toInt.toNat r77_.toInt.toNat))) ∧ (0 ≤ r77_.toInt ∧ r77_.toInt ≤ 191) ∧ ∃ z83_ : Int32, (z83_.toInt = v5_63.toInt + 1) ∧ v5_63y = z83_ ∧ v4_63y = r77_ ∧ M_63y = M_63
def SP_X12_way (v : Int32) (u : Int32) (t : Int32) (Mz : mM) (r_ : Int32) (M_ : mM) : Prop := (((SP_is2 v Mz (1 : Int32)) ∧ (0 ≤ v.toInt ∧ v.toInt ≤ 7) ∧ (((SP_X12_isCell u Mz (1 : Int32)) ∧ (0 ≤ u.toInt ∧ u.toInt ≤ 191) ∧ (((-1 ≤ t.toInt) ∧ ∃ M14_ : mM, (InvD M14_) ∧ (FR (S_c_X12_findFar) Mz M14_) ∧ (SP_X12_findFar v u Mz M14_) ∧ (FF (M14_.1 (61, 0, 0)) (M14_.1 (50, 0, 0)) v u.toInt) ∧ ∃ r21_ : Int32, (SP_X12_goer v M14_ r21_) ∧ (r21_.toInt = 180 + 9 * v.toInt) ∧ ∃ z26_ : Int32, (z26_.toInt = r21_.toInt + 1) ∧ ∃ j30_ : Nat, ((j30_ : Int) = z26_.toInt) ∧ ∃ z28_ : Int32, (z28_ = M14_.1 (50, 0, 0) j30_) ∧ (0 ≤ z28_.toInt ∧ z28_.toInt ≤ 191) ∧ (((0 ≤ t.toInt) ∧ ∃ v5_63 : Int32, (0 ≤ v5_63.toInt) ∧ ∃ v4_63 : Int32, (0 ≤ v4_63.toInt ∧ v4_63.toInt ≤ 191) ∧ ∃ M_63 : mM, (RCH (fun x_ y_ => ST_X12_way_63 v u t Mz x_.1 x_.2.1 x_.2.2 y_.1 y_.2.1 y_.2.2) ((0 : Int32), z28_, M14_) (v5_63, v4_63, M_63)) ∧ (InvD M_63) ∧ (FR (S_c_X12_way) Mz M_63) ∧ (((t.toInt ≤ v5_63.toInt) ∧ r_ = v4_63 ∧ M_ = M_63) ∨ ((v5_63.toInt < t.toInt) ∧ (v4_63.toInt = u.toInt) ∧ ∃ M88_ : mM, (InvD M88_) ∧ (FR (S_c_X12_finding) M_63 M88_) ∧ ∃ r87_ : Int32, (SP_X12_finding (-1000002) M_63 r87_ M88_) ∧ (r87_.toInt = (-1000002)) ∧ r_ = r87_ ∧ M_ = M88_))) ∨ ((t.toInt < 0) ∧ ∃ j98_ : Nat, ((j98_ : Int) = z28_.toInt) ∧ ∃ z96_ : Int32, (z96_ = M14_.1 (61, 0, 0) j98_) ∧ (0 ≤ z96_.toInt ∧ z96_.toInt ≤ 1000000) ∧ r_ = z96_ ∧ M_ = M14_))) ∨ ((t.toInt < -1) ∧ ∃ M102_ : mM, (InvD M102_) ∧ (FR (S_c_X12_finding) Mz M102_) ∧ ∃ r101_ : Int32, (SP_X12_finding (-1000001) Mz r101_ M102_) ∧ (r101_.toInt = (-1000001)) ∧ r_ = r101_ ∧ M_ = M102_))) ∨ ((SP_X12_isCell u Mz (0 : Int32)) ∧ (¬ (0 ≤ u.toInt ∧ u.toInt ≤ 191)) ∧ ∃ M111_ : mM, (InvD M111_) ∧ (FR (S_c_X12_finding) Mz M111_) ∧ ∃ r110_ : Int32, (SP_X12_finding (-1000001) Mz r110_ M111_) ∧ (r110_.toInt = (-1000001)) ∧ r_ = r110_ ∧ M_ = M111_))) ∨ ((SP_is2 v Mz (0 : Int32)) ∧ ∃ M120_ : mM, (InvD M120_) ∧ (FR (S_c_X12_finding) Mz M120_) ∧ ∃ r119_ : Int32, (SP_X12_finding (-1000001) Mz r119_ M120_) ∧ (r119_.toInt = (-1000001)) ∧ r_ = r119_ ∧ M_ = M120_))
theorem lf_c_X12_way_2 (M14_ : mM) (v : Int32) (u : Int32) (r21_ : Int32) (z26_ : Int32) (j30_ : Nat) (z28_ : Int32) (h4_ : 0 ≤ v.toInt ∧ v.toInt ≤ 7) (h10_ : 0 ≤ u.toInt ∧ u.toInt ≤ 191) (h16_ : FF (M14_.1 (61, 0, 0)) (M14_.1 (50, 0, 0)) v u.toInt) (h24_ : r21_.toInt = 180 + 9 * v.toInt) (h27_ : z26_.toInt = r21_.toInt + 1) (h31_ : (j30_ : Int) = z26_.toInt) (e29_ : z28_ = M14_.1 (50, 0, 0) j30_) : 180 ≤ j30_ ∧ j30_ < 252 ∧ j30_ % 9 = 1 := by have r_v := rngI v; have r_u := rngI u; have r_r21_ := rngI r21_; have r_z26_ := rngI z26_; have r_z28_ := rngI z28_; subst e29_; omega
theorem lf_c_X12_way_3 (M14_ : mM) (M_63 : mM) (v : Int32) (u : Int32) (r21_ : Int32) (z26_ : Int32) (j30_ : Nat) (z28_ : Int32) (v4_63 : Int32) (v6_85 : Int32) (h4_ : 0 ≤ v.toInt ∧ v.toInt ≤ 7) (h10_ : 0 ≤ u.toInt ∧ u.toInt ≤ 191) (h16_ : FF (M14_.1 (61, 0, 0)) (M14_.1 (50, 0, 0)) v u.toInt) (h24_ : r21_.toInt = 180 + 9 * v.toInt) (h27_ : z26_.toInt = r21_.toInt + 1) (h31_ : (j30_ : Int) = z26_.toInt) (e29_ : z28_ = M14_.1 (50, 0, 0) j30_) (h32_ : 0 ≤ z28_.toInt ∧ z28_.toInt ≤ 191) (hv1_63 : 0 ≤ v4_63.toInt ∧ v4_63.toInt ≤ 191) (kv0_63 : FF (M_63.1 (61, 0, 0)) (M_63.1 (50, 0, 0)) v u.toInt) (h36_ : ¬ v4_63.toInt = u.toInt) (hv0_85 : 0 ≤ v6_85.toInt) (hv1_85 : v6_85.toInt % 2 = 0) (hv2_85 : WI (M_63.1 (61, 0, 0)) (M_63.1 (50, 0, 0)) v v4_63.toInt.toNat v6_85.toInt) (h38_ : v6_85.toInt ≤ 6) : v6_85.toInt = 0 ∨ v6_85.toInt = 2 ∨ v6_85.toInt = 4 ∨ v6_85.toInt = 6 := by have r_v := rngI v; have r_u := rngI u; have r_r21_ := rngI r21_; have r_z26_ := rngI z26_; have r_z28_ := rngI z28_; have r_v4_63 := rngI v4_63; have r_v6_85 := rngI v6_85; subst e29_; omega
theorem lf_c_X12_way_4 (v6_85 : Int32) (hv0_85 : 0 ≤ v6_85.toInt) (h38_ : v6_85.toInt ≤ 6) : -2147483648 ≤ v6_85.toInt + 2 ∧ v6_85.toInt + 2 < 2147483648 := by omega
theorem lf_c_X12_way_6 (M14_ : mM) (M_63 : mM) (v : Int32) (u : Int32) (r21_ : Int32) (z26_ : Int32) (j30_ : Nat) (z28_ : Int32) (v4_63 : Int32) (v6_85 : Int32) (r39_ : Int32) (z45_ : Int32) (h4_ : 0 ≤ v.toInt ∧ v.toInt ≤ 7) (h10_ : 0 ≤ u.toInt ∧ u.toInt ≤ 191) (h16_ : FF (M14_.1 (61, 0, 0)) (M14_.1 (50, 0, 0)) v u.toInt) (h24_ : r21_.toInt = 180 + 9 * v.toInt) (h27_ : z26_.toInt = r21_.toInt + 1) (h31_ : (j30_ : Int) = z26_.toInt) (e29_ : z28_ = M14_.1 (50, 0, 0) j30_) (h32_ : 0 ≤ z28_.toInt ∧ z28_.toInt ≤ 191) (hv1_63 : 0 ≤ v4_63.toInt ∧ v4_63.toInt ≤ 191) (kv0_63 : FF (M_63.1 (61, 0, 0)) (M_63.1 (50, 0, 0)) v u.toInt) (h36_ : ¬ v4_63.toInt = u.toInt) (hv0_85 : 0 ≤ v6_85.toInt) (hv1_85 : v6_85.toInt % 2 = 0) (hv2_85 : WI (M_63.1 (61, 0, 0)) (M_63.1 (50, 0, 0)) v v4_63.toInt.toNat v6_85.toInt) (h38_ : v6_85.toInt ≤ 6) (h42_ : ((r39_.toInt = -1 ∧ ∀ n : Nat, ¬ nbP v4_63.toInt.toNat v6_85.toInt.toNat n) ∨ (0 ≤ r39_.toInt ∧ r39_.toInt ≤ 191 ∧ nbP v4_63.toInt.toNat v6_85.toInt.toNat r39_.toInt.toNat))) (h44_ : r39_.toInt < 0) (h46_ : z45_.toInt = v6_85.toInt + 2) : z45_.toInt % 2 = 0 := by have r_v := rngI v; have r_u := rngI u; have r_r21_ := rngI r21_; have r_z26_ := rngI z26_; have r_z28_ := rngI z28_; have r_v4_63 := rngI v4_63; have r_v6_85 := rngI v6_85; have r_r39_ := rngI r39_; have r_z45_ := rngI z45_; subst e29_; omega
theorem lf_c_X12_way_10 (v6_85 : Int32) (z45_ : Int32) (h38_ : v6_85.toInt ≤ 6) (h46_ : z45_.toInt = v6_85.toInt + 2) : (8 - z45_.toInt).toNat < (8 - v6_85.toInt).toNat := by omega
theorem lf_c_X12_way_11 (M14_ : mM) (M_63 : mM) (v : Int32) (u : Int32) (r21_ : Int32) (z26_ : Int32) (j30_ : Nat) (z28_ : Int32) (v4_63 : Int32) (v6_85 : Int32) (r39_ : Int32) (h4_ : 0 ≤ v.toInt ∧ v.toInt ≤ 7) (h10_ : 0 ≤ u.toInt ∧ u.toInt ≤ 191) (h16_ : FF (M14_.1 (61, 0, 0)) (M14_.1 (50, 0, 0)) v u.toInt) (h24_ : r21_.toInt = 180 + 9 * v.toInt) (h27_ : z26_.toInt = r21_.toInt + 1) (h31_ : (j30_ : Int) = z26_.toInt) (e29_ : z28_ = M14_.1 (50, 0, 0) j30_) (h32_ : 0 ≤ z28_.toInt ∧ z28_.toInt ≤ 191) (hv1_63 : 0 ≤ v4_63.toInt ∧ v4_63.toInt ≤ 191) (kv0_63 : FF (M_63.1 (61, 0, 0)) (M_63.1 (50, 0, 0)) v u.toInt) (h36_ : ¬ v4_63.toInt = u.toInt) (hv0_85 : 0 ≤ v6_85.toInt) (hv1_85 : v6_85.toInt % 2 = 0) (hv2_85 : WI (M_63.1 (61, 0, 0)) (M_63.1 (50, 0, 0)) v v4_63.toInt.toNat v6_85.toInt) (h38_ : v6_85.toInt ≤ 6) (h42_ : ((r39_.toInt = -1 ∧ ∀ n : Nat, ¬ nbP v4_63.toInt.toNat v6_85.toInt.toNat n) ∨ (0 ≤ r39_.toInt ∧ r39_.toInt ≤ 191 ∧ nbP v4_63.toInt.toNat v6_85.toInt.toNat r39_.toInt.toNat))) (h44_ : 0 ≤ r39_.toInt) : v6_85.toInt = 0 ∨ v6_85.toInt = 2 ∨ v6_85.toInt = 4 ∨ v6_85.toInt = 6 := by have r_v := rngI v; have r_u := rngI u; have r_r21_ := rngI r21_; have r_z26_ := rngI z26_; have r_z28_ := rngI z28_; have r_v4_63 := rngI v4_63; have r_v6_85 := rngI v6_85; have r_r39_ := rngI r39_; subst e29_; omega
theorem lf_c_X12_way_15 (r47_ : Int32) (j55_ : Nat) (h52_ : 0 ≤ r47_.toInt ∧ r47_.toInt ≤ 191) (h56_ : (j55_ : Int) = r47_.toInt) : j55_ < 192 := by omega
theorem lf_c_X12_way_17 (M14_ : mM) (M_63 : mM) (v : Int32) (u : Int32) (r21_ : Int32) (z26_ : Int32) (j30_ : Nat) (z28_ : Int32) (v4_63 : Int32) (v6_85 : Int32) (r39_ : Int32) (r47_ : Int32) (j55_ : Nat) (z53_ : Int32) (h4_ : 0 ≤ v.toInt ∧ v.toInt ≤ 7) (h10_ : 0 ≤ u.toInt ∧ u.toInt ≤ 191) (h16_ : FF (M14_.1 (61, 0, 0)) (M14_.1 (50, 0, 0)) v u.toInt) (h24_ : r21_.toInt = 180 + 9 * v.toInt) (h27_ : z26_.toInt = r21_.toInt + 1) (h31_ : (j30_ : Int) = z26_.toInt) (e29_ : z28_ = M14_.1 (50, 0, 0) j30_) (h32_ : 0 ≤ z28_.toInt ∧ z28_.toInt ≤ 191) (hv1_63 : 0 ≤ v4_63.toInt ∧ v4_63.toInt ≤ 191) (kv0_63 : FF (M_63.1 (61, 0, 0)) (M_63.1 (50, 0, 0)) v u.toInt) (h36_ : ¬ v4_63.toInt = u.toInt) (hv0_85 : 0 ≤ v6_85.toInt) (hv1_85 : v6_85.toInt % 2 = 0) (hv2_85 : WI (M_63.1 (61, 0, 0)) (M_63.1 (50, 0, 0)) v v4_63.toInt.toNat v6_85.toInt) (h38_ : v6_85.toInt ≤ 6) (h42_ : ((r39_.toInt = -1 ∧ ∀ n : Nat, ¬ nbP v4_63.toInt.toNat v6_85.toInt.toNat n) ∨ (0 ≤ r39_.toInt ∧ r39_.toInt ≤ 191 ∧ nbP v4_63.toInt.toNat v6_85.toInt.toNat r39_.toInt.toNat))) (h44_ : 0 ≤ r39_.toInt) (h50_ : ((r47_.toInt = -1 ∧ ∀ n : Nat, ¬ nbP v4_63.toInt.toNat v6_85.toInt.toNat n) ∨ (0 ≤ r47_.toInt ∧ r47_.toInt ≤ 191 ∧ nbP v4_63.toInt.toNat v6_85.toInt.toNat r47_.toInt.toNat))) (h52_ : 0 ≤ r47_.toInt ∧ r47_.toInt ≤ 191) (h56_ : (j55_ : Int) = r47_.toInt) (e54_ : z53_ = M_63.1 (61, 0, 0) j55_) (h57_ : 0 ≤ z53_.toInt ∧ z53_.toInt ≤ 1000000) : v6_85.toInt = 0 ∨ v6_85.toInt = 2 ∨ v6_85.toInt = 4 ∨ v6_85.toInt = 6 := by have r_v := rngI v; have r_u := rngI u; have r_r21_ := rngI r21_; have r_z26_ := rngI z26_; have r_z28_ := rngI z28_; have r_v4_63 := rngI v4_63; have r_v6_85 := rngI v6_85; have r_r39_ := rngI r39_; have r_r47_ := rngI r47_; have r_z53_ := rngI z53_; subst e29_; subst e54_; omega
theorem lf_c_X12_way_21 (M_63 : mM) (v : Int32) (z53_ : Int32) (r58_ : Int32) (r64_ : Int32) (h57_ : 0 ≤ z53_.toInt ∧ z53_.toInt ≤ 1000000) (h67_ : 1 ≤ r64_.toInt ∧ r64_.toInt ≤ 20 ∧ r64_.toInt = costZ (M_63.1 (50, 0, 0)) v r58_.toInt) : -2147483648 ≤ z53_.toInt + r64_.toInt ∧ z53_.toInt + r64_.toInt < 2147483648 := by omega
theorem lf_c_X12_way_25 (M14_ : mM) (M_63 : mM) (v : Int32) (u : Int32) (r21_ : Int32) (z26_ : Int32) (j30_ : Nat) (z28_ : Int32) (v4_63 : Int32) (v6_85 : Int32) (r39_ : Int32) (r47_ : Int32) (j55_ : Nat) (z53_ : Int32) (r58_ : Int32) (r64_ : Int32) (z69_ : Int32) (j73_ : Nat) (z71_ : Int32) (h4_ : 0 ≤ v.toInt ∧ v.toInt ≤ 7) (h10_ : 0 ≤ u.toInt ∧ u.toInt ≤ 191) (h16_ : FF (M14_.1 (61, 0, 0)) (M14_.1 (50, 0, 0)) v u.toInt) (h24_ : r21_.toInt = 180 + 9 * v.toInt) (h27_ : z26_.toInt = r21_.toInt + 1) (h31_ : (j30_ : Int) = z26_.toInt) (e29_ : z28_ = M14_.1 (50, 0, 0) j30_) (h32_ : 0 ≤ z28_.toInt ∧ z28_.toInt ≤ 191) (hv1_63 : 0 ≤ v4_63.toInt ∧ v4_63.toInt ≤ 191) (kv0_63 : FF (M_63.1 (61, 0, 0)) (M_63.1 (50, 0, 0)) v u.toInt) (h36_ : ¬ v4_63.toInt = u.toInt) (hv0_85 : 0 ≤ v6_85.toInt) (hv1_85 : v6_85.toInt % 2 = 0) (hv2_85 : WI (M_63.1 (61, 0, 0)) (M_63.1 (50, 0, 0)) v v4_63.toInt.toNat v6_85.toInt) (h38_ : v6_85.toInt ≤ 6) (h42_ : ((r39_.toInt = -1 ∧ ∀ n : Nat, ¬ nbP v4_63.toInt.toNat v6_85.toInt.toNat n) ∨ (0 ≤ r39_.toInt ∧ r39_.toInt ≤ 191 ∧ nbP v4_63.toInt.toNat v6_85.toInt.toNat r39_.toInt.toNat))) (h44_ : 0 ≤ r39_.toInt) (h50_ : ((r47_.toInt = -1 ∧ ∀ n : Nat, ¬ nbP v4_63.toInt.toNat v6_85.toInt.toNat n) ∨ (0 ≤ r47_.toInt ∧ r47_.toInt ≤ 191 ∧ nbP v4_63.toInt.toNat v6_85.toInt.toNat r47_.toInt.toNat))) (h52_ : 0 ≤ r47_.toInt ∧ r47_.toInt ≤ 191) (h56_ : (j55_ : Int) = r47_.toInt) (e54_ : z53_ = M_63.1 (61, 0, 0) j55_) (h57_ : 0 ≤ z53_.toInt ∧ z53_.toInt ≤ 1000000) (h61_ : ((r58_.toInt = -1 ∧ ∀ n : Nat, ¬ nbP v4_63.toInt.toNat v6_85.toInt.toNat n) ∨ (0 ≤ r58_.toInt ∧ r58_.toInt ≤ 191 ∧ nbP v4_63.toInt.toNat v6_85.toInt.toNat r58_.toInt.toNat))) (h63_ : 0 ≤ r58_.toInt ∧ r58_.toInt ≤ 191) (h67_ : 1 ≤ r64_.toInt ∧ r64_.toInt ≤ 20 ∧ r64_.toInt = costZ (M_63.1 (50, 0, 0)) v r58_.toInt) (h70_ : z69_.toInt = z53_.toInt + r64_.toInt) (h74_ : (j73_ : Int) = v4_63.toInt) (e72_ : z71_ = M_63.1 (61, 0, 0) j73_) (h75_ : 0 ≤ z71_.toInt ∧ z71_.toInt ≤ 1000000) (h76_ : z69_.toInt = z71_.toInt) : v6_85.toInt = 0 ∨ v6_85.toInt = 2 ∨ v6_85.toInt = 4 ∨ v6_85.toInt = 6 := by have r_v := rngI v; have r_u := rngI u; have r_r21_ := rngI r21_; have r_z26_ := rngI z26_; have r_z28_ := rngI z28_; have r_v4_63 := rngI v4_63; have r_v6_85 := rngI v6_85; have r_r39_ := rngI r39_; have r_r47_ := rngI r47_; have r_z53_ := rngI z53_; have r_r58_ := rngI r58_; have r_r64_ := rngI r64_; have r_z69_ := rngI z69_; have r_z71_ := rngI z71_; subst e29_; subst e54_; subst e72_; omega
theorem lf_c_X12_way_33 (M14_ : mM) (M_63 : mM) (v : Int32) (u : Int32) (r21_ : Int32) (z26_ : Int32) (j30_ : Nat) (z28_ : Int32) (v4_63 : Int32) (v6_85 : Int32) (r39_ : Int32) (r47_ : Int32) (j55_ : Nat) (z53_ : Int32) (r58_ : Int32) (r64_ : Int32) (z69_ : Int32) (j73_ : Nat) (z71_ : Int32) (z85_ : Int32) (h4_ : 0 ≤ v.toInt ∧ v.toInt ≤ 7) (h10_ : 0 ≤ u.toInt ∧ u.toInt ≤ 191) (h16_ : FF (M14_.1 (61, 0, 0)) (M14_.1 (50, 0, 0)) v u.toInt) (h24_ : r21_.toInt = 180 + 9 * v.toInt) (h27_ : z26_.toInt = r21_.toInt + 1) (h31_ : (j30_ : Int) = z26_.toInt) (e29_ : z28_ = M14_.1 (50, 0, 0) j30_) (h32_ : 0 ≤ z28_.toInt ∧ z28_.toInt ≤ 191) (hv1_63 : 0 ≤ v4_63.toInt ∧ v4_63.toInt ≤ 191) (kv0_63 : FF (M_63.1 (61, 0, 0)) (M_63.1 (50, 0, 0)) v u.toInt) (h36_ : ¬ v4_63.toInt = u.toInt) (hv0_85 : 0 ≤ v6_85.toInt) (hv1_85 : v6_85.toInt % 2 = 0) (hv2_85 : WI (M_63.1 (61, 0, 0)) (M_63.1 (50, 0, 0)) v v4_63.toInt.toNat v6_85.toInt) (h38_ : v6_85.toInt ≤ 6) (h42_ : ((r39_.toInt = -1 ∧ ∀ n : Nat, ¬ nbP v4_63.toInt.toNat v6_85.toInt.toNat n) ∨ (0 ≤ r39_.toInt ∧ r39_.toInt ≤ 191 ∧ nbP v4_63.toInt.toNat v6_85.toInt.toNat r39_.toInt.toNat))) (h44_ : 0 ≤ r39_.toInt) (h50_ : ((r47_.toInt = -1 ∧ ∀ n : Nat, ¬ nbP v4_63.toInt.toNat v6_85.toInt.toNat n) ∨ (0 ≤ r47_.toInt ∧ r47_.toInt ≤ 191 ∧ nbP v4_63.toInt.toNat v6_85.toInt.toNat r47_.toInt.toNat))) (h52_ : 0 ≤ r47_.toInt ∧ r47_.toInt ≤ 191) (h56_ : (j55_ : Int) = r47_.toInt) (e54_ : z53_ = M_63.1 (61, 0, 0) j55_) (h57_ : 0 ≤ z53_.toInt ∧ z53_.toInt ≤ 1000000) (h61_ : ((r58_.toInt = -1 ∧ ∀ n : Nat, ¬ nbP v4_63.toInt.toNat v6_85.toInt.toNat n) ∨ (0 ≤ r58_.toInt ∧ r58_.toInt ≤ 191 ∧ nbP v4_63.toInt.toNat v6_85.toInt.toNat r58_.toInt.toNat))) (h63_ : 0 ≤ r58_.toInt ∧ r58_.toInt ≤ 191) (h67_ : 1 ≤ r64_.toInt ∧ r64_.toInt ≤ 20 ∧ r64_.toInt = costZ (M_63.1 (50, 0, 0)) v r58_.toInt) (h70_ : z69_.toInt = z53_.toInt + r64_.toInt) (h74_ : (j73_ : Int) = v4_63.toInt) (e72_ : z71_ = M_63.1 (61, 0, 0) j73_) (h75_ : 0 ≤ z71_.toInt ∧ z71_.toInt ≤ 1000000) (h76_ : ¬ z69_.toInt = z71_.toInt) (h86_ : z85_.toInt = v6_85.toInt + 2) : z85_.toInt % 2 = 0 := by have r_v := rngI v; have r_u := rngI u; have r_r21_ := rngI r21_; have r_z26_ := rngI z26_; have r_z28_ := rngI z28_; have r_v4_63 := rngI v4_63; have r_v6_85 := rngI v6_85; have r_r39_ := rngI r39_; have r_r47_ := rngI r47_; have r_z53_ := rngI z53_; have r_r58_ := rngI r58_; have r_r64_ := rngI r64_; have r_z69_ := rngI z69_; have r_z71_ := rngI z71_; have r_z85_ := rngI z85_; subst e29_; subst e54_; subst e72_; omega
theorem lf_c_X12_way_40 (v4_63 : Int32) (j73_ : Nat) (hv1_63 : 0 ≤ v4_63.toInt ∧ v4_63.toInt ≤ 191) (h74_ : (j73_ : Int) = v4_63.toInt) : j73_ = v4_63.toInt.toNat := by omega
theorem lf_c_X12_way_44 (u : Int32) (h10_ : 0 ≤ u.toInt ∧ u.toInt ≤ 191) : 0 ≤ u.toInt ∧ u.toInt < 192 := by omega
theorem lf_c_X12_way_45 (v4_63 : Int32) (hv1_63 : 0 ≤ v4_63.toInt ∧ v4_63.toInt ≤ 191) : v4_63.toInt.toNat < 192 := by omega
theorem lf_c_X12_way_46 (u : Int32) (v4_63 : Int32) (hv1_63 : 0 ≤ v4_63.toInt ∧ v4_63.toInt ≤ 191) (h36_ : ¬ v4_63.toInt = u.toInt) : ¬ ((v4_63.toInt.toNat : Nat) : Int) = u.toInt := by omega
set_option maxHeartbeats 4000000 in
set_option maxRecDepth 100000 in
theorem c_X12_way (l : Launch) (G : va_G) (cy : Nat → ClassId) (ad : rf → Nat) (d : Nat) (v : Int32) (u : Int32) (t : Int32) (Mz : mM) (hIz : InvD Mz) : WP DD l G cy ad yX12_way cX12_way 7 (some .int) (d + 5) 0 [(0, vR (12, 0, 0)), (1, vI v), (2, vI u), (3, vI t)] [] Mz (fun r M' => InvD M' ∧ FR (S_c_X12_way) Mz M' ∧ (True) ∧ SP_X12_way v u t Mz r M') := by
  have hFz : FR (S_c_X12_way) Mz Mz := FR.self
  refine w_aload_n dX12_way_0 rfl 0 rfl ?_
  refine w_iload_n dX12_way_1 rfl 1 rfl ?_
  refine w_iconst (v := 2) dX12_way_2 (by decide) ?_
  refine w_callV (as := [vI v, vI 2]) (rest := []) (c_is2 l G cy ad (d + 3) v Mz hIz) kV_X12_is pnn_17 (Nat.le_of_ble_eq_true rfl) m_1465 rfl rfl rfl ic_12 rfl rfl (by decide) (Nat.le_of_ble_eq_true rfl) dX12_way_3 (fun r1_ M2_ q3_ => ?_)
  obtain ⟨rfl, h4_, hs5_⟩ := q3_
  rcases h4_ with ⟨rfl, h4_⟩ | rfl
  · refine w_if_eq (tgt := 21) dX12_way_6 (by decide) li_1 (fun h9 => (absurd h9 (by decide))) (fun h6_ => ?_)
    refine w_iload_n dX12_way_9 rfl 2 rfl ?_
    refine w_callS (as := [vI u]) (rest := []) (c_X12_isCell l G cy ad (d + 3) u Mz hIz) kS_X12_isCell pnn_17 (Nat.le_of_ble_eq_true rfl) m_1430 rfl rfl (by decide) (Nat.le_of_ble_eq_true rfl) dX12_way_10 (fun r7_ M8_ q9_ => ?_)
    obtain ⟨rfl, h10_, hs11_⟩ := q9_
    rcases h10_ with ⟨rfl, h10_⟩ | ⟨rfl, h10_⟩
    · refine w_if_eq (tgt := 21) dX12_way_13 (by decide) li_1 (fun h9 => (absurd h9 (by decide))) (fun h12_ => ?_)
      refine w_iload_n dX12_way_16 rfl 3 rfl ?_
      refine w_iconst (v := (-1)) dX12_way_17 (by decide) ?_
      refine w_icmp_ge (tgt := 28) dX12_way_18 (by decide) (rfl : t.toInt = t.toInt) li_m1 (fun h13_ => ?_) (fun h13_ => ?_)
      · refine w_aload_n dX12_way_28 rfl 0 rfl ?_
        refine w_iload_n dX12_way_29 rfl 1 rfl ?_
        refine w_iload_n dX12_way_30 rfl 2 rfl ?_
        refine w_callVv (as := [vI v, vI u]) (rest := []) (c_X12_findFar l G cy ad d v u Mz hIz h4_ h10_) kV_X12_findFar pnn_17 (Nat.le_of_ble_eq_true rfl) m_1766 rfl rfl rfl ic_12 rfl rfl (by decide) (Nat.le_of_ble_eq_true rfl) dX12_way_31 (fun M14_ q15_ => ?_)
        obtain ⟨hI17_, hF18_, h16_, hs20_⟩ := q15_
        have hF19_ := hFz.tr hF18_ (fun c k => (fun h => h.elim (fun h => (Or.inl ⟨h.1, h.2⟩)) (fun h => h.elim)))
        refine w_aload_n dX12_way_34 rfl 0 rfl ?_
        refine w_getR (c' := (50, 0, 0)) fl_RX12_9 rfl rfl ic_12 dX12_way_35 rfl ?_
        refine w_aload_n dX12_way_38 rfl 0 rfl ?_
        refine w_iload_n dX12_way_39 rfl 1 rfl ?_
        refine w_callV (as := [vI v]) (rest := [vR (50, 0, 0)]) (c_X12_goer l G cy ad (d + 4) v M14_ hI17_ h4_) kV_X12_goer pnn_17 (Nat.le_of_ble_eq_true rfl) m_1451 rfl rfl rfl ic_12 rfl rfl (by decide) (Nat.le_of_ble_eq_true rfl) dX12_way_40 (fun r21_ M22_ q23_ => ?_)
        obtain ⟨rfl, h24_, hs25_⟩ := q23_
        refine w_iconst (v := 1) dX12_way_43 (by decide) ?_
        refine w_iaddB dX12_way_44 (rfl : r21_.toInt = r21_.toInt) li_1 (lf_c_X12_echo_0 v r21_ h4_ h24_ ) (fun z26_ h27_ => ?_)
        refine w_iald rfl rfl ic_50 (rfl : z26_.toInt = z26_.toInt) (lf_c_X12_echo_1 v r21_ z26_ h4_ h24_ h27_ ) dX12_way_45 (fun j30_ h31_ z28_ e29_ => ?_)
        have h32_ : 0 ≤ z28_.toInt ∧ z28_.toInt ≤ 191 := pn_wc hI17_ e29_ (lf_c_X12_way_2 M14_ v u r21_ z26_ j30_ z28_ h4_ h10_ h16_ h24_ h27_ h31_ e29_ )
        refine w_istore (ls' := [(4, vI z28_), (0, vR (12, 0, 0)), (1, vI v), (2, vI u), (3, vI t)]) dX12_way_46 (by decide) rfl ?_
        refine w_iload_n dX12_way_48 rfl 4 rfl ?_
        refine w_if_ge (tgt := 60) dX12_way_49 (by decide) (rfl : t.toInt = t.toInt) (fun h33_ => ?_) (fun h33_ => ?_)
        · refine w_iconst (v := 0) dX12_way_60 (by decide) ?_
          refine w_istore (ls' := [(5, vI 0), (4, vI z28_), (0, vR (12, 0, 0)), (1, vI v), (2, vI u), (3, vI t)]) dX12_way_61 (by decide) rfl ?_
          have lp34_ : ∀ (nn_63 : Nat) (M_63 : mM) (hI_63 : InvD M_63) (hF_63 : FR (S_c_X12_way) Mz M_63) (v5_63 : Int32) (v4_63 : Int32) (hv0_63 : 0 ≤ v5_63.toInt) (hv1_63 : 0 ≤ v4_63.toInt ∧ v4_63.toInt ≤ 191) (kv0_63 : FF (M_63.1 (61, 0, 0)) (M_63.1 (50, 0, 0)) v u.toInt) (hL_63 : RCH (fun x_ y_ => ST_X12_way_63 v u t Mz x_.1 x_.2.1 x_.2.2 y_.1 y_.2.1 y_.2.2) ((0 : Int32), z28_, M14_) (v5_63, v4_63, M_63)), (t.toInt - v5_63.toInt).toNat < nn_63 → WP DD l G cy ad yX12_way cX12_way 7 (some .int) (d + 5) 63 [(5, vI v5_63), (4, vI v4_63), (0, vR (12, 0, 0)), (1, vI v), (2, vI u), (3, vI t)] [] M_63 (fun r M' => InvD M' ∧ FR (S_c_X12_way) Mz M' ∧ (True) ∧ SP_X12_way v u t Mz r M') := by
            intro nn_63
            induction nn_63 with
            | zero => intro M_63 hI_63 hF_63 v5_63 v4_63 hv0_63 hv1_63 kv0_63 hL_63 hm_63; exact absurd hm_63 (Nat.not_lt_zero _)
            | succ nn_63 ih_63 =>
              intro M_63 hI_63 hF_63 v5_63 v4_63 hv0_63 hv1_63 kv0_63 hL_63 hm_63
              refine w_iload dX12_way_63 0 rfl ?_
              refine w_iload_n dX12_way_65 rfl 5 rfl ?_
              refine w_icmp_ge (tgt := 159) dX12_way_66 (by decide) (rfl : v5_63.toInt = v5_63.toInt) (rfl : t.toInt = t.toInt) (fun h35_ => ?_) (fun h35_ => ?_)
              · refine w_iload dX12_way_159 1 rfl ?_
                exact w_iret rfl dX12_way_161 ⟨hI_63, hF_63, trivial, (Or.inl ⟨hs5_, h4_, (Or.inl ⟨hs11_, h10_, (Or.inl ⟨h13_, M14_, hI17_, hF18_, hs20_, h16_, r21_, hs25_, h24_, z26_, h27_, j30_, h31_, z28_, e29_, h32_, (Or.inl ⟨h33_, v5_63, hv0_63, v4_63, hv1_63, M_63, hL_63, hI_63, hF_63, (Or.inl ⟨h35_, rfl, rfl⟩)⟩)⟩)⟩)⟩)⟩
              · refine w_iload dX12_way_69 1 rfl ?_
                refine w_iload_n dX12_way_71 rfl 4 rfl ?_
                refine w_icmp_ne (tgt := 82) dX12_way_72 (by decide) (rfl : v4_63.toInt = v4_63.toInt) (rfl : u.toInt = u.toInt) (fun h36_ => ?_) (fun h36_ => ?_)
                · refine w_iconst (v := 0) dX12_way_82 (by decide) ?_
                  refine w_istore (ls' := [(6, vI 0), (5, vI v5_63), (4, vI v4_63), (0, vR (12, 0, 0)), (1, vI v), (2, vI u), (3, vI t)]) dX12_way_83 (by decide) rfl ?_
                  have lp37_ : ∀ (nn_85 : Nat) (v6_85 : Int32) (hv0_85 : 0 ≤ v6_85.toInt) (hv1_85 : v6_85.toInt % 2 = 0) (hv2_85 : WI (M_63.1 (61, 0, 0)) (M_63.1 (50, 0, 0)) v v4_63.toInt.toNat v6_85.toInt) (hL_85 : RCH (fun x_ y_ => ST_X12_way_85 v M_63 v4_63 x_ y_) (0 : Int32) v6_85), (8 - v6_85.toInt).toNat < nn_85 → WP DD l G cy ad yX12_way cX12_way 7 (some .int) (d + 5) 85 [(6, vI v6_85), (5, vI v5_63), (4, vI v4_63), (0, vR (12, 0, 0)), (1, vI v), (2, vI u), (3, vI t)] [] M_63 (fun r M' => InvD M' ∧ FR (S_c_X12_way) Mz M' ∧ (True) ∧ SP_X12_way v u t Mz r M') := by
                    intro nn_85
                    induction nn_85 with
                    | zero => intro v6_85 hv0_85 hv1_85 hv2_85 hL_85 hm_85; exact absurd hm_85 (Nat.not_lt_zero _)
                    | succ nn_85 ih_85 =>
                      intro v6_85 hv0_85 hv1_85 hv2_85 hL_85 hm_85
                      refine w_aload_n dX12_way_85 rfl 3 rfl ?_
                      refine w_iload dX12_way_86 2 rfl ?_
                      have h38_ : v6_85.toInt ≤ 6 := WI_le hv2_85
                      refine w_iload dX12_way_88 0 rfl ?_
                      refine w_iconst (v := 1) dX12_way_90 (by decide) ?_
                      refine w_callV (as := [vI v4_63, vI v6_85, vI 1]) (rest := []) (c_on1 l G cy ad (d + 3) v4_63 v6_85 M_63 hI_63 hv1_63 (lf_c_X12_way_3 M14_ M_63 v u r21_ z26_ j30_ z28_ v4_63 v6_85 h4_ h10_ h16_ h24_ h27_ h31_ e29_ h32_ hv1_63 kv0_63 h36_ hv0_85 hv1_85 hv2_85 h38_ )) kV_X12_on pnn_17 (Nat.le_of_ble_eq_true rfl) m_1632 rfl rfl rfl ic_12 rfl rfl (by decide) (Nat.le_of_ble_eq_true rfl) dX12_way_91 (fun r39_ M40_ q41_ => ?_)
                      obtain ⟨rfl, h42_⟩ := q41_
                      refine w_if_lt (tgt := 136) dX12_way_94 (by decide) (rfl : r39_.toInt = r39_.toInt) (fun h44_ => ?_) (fun h44_ => ?_)
                      · refine w_iincB (j := 0) (f := fun z45_ => [(6, vI z45_), (5, vI v5_63), (4, vI v4_63), (0, vR (12, 0, 0)), (1, vI v), (2, vI u), (3, vI t)]) dX12_way_136 rfl (by decide) (fun _ => rfl) (rfl : v6_85.toInt = v6_85.toInt) li_2 (lf_c_X12_way_4 v6_85 hv0_85 h38_ ) (fun z45_ h46_ => ?_)
                        refine w_goto (tgt := 85) dX12_way_139 (by decide) ?_
                        refine w_loc (ls' := [(6, vI z45_), (5, vI v5_63), (4, vI v4_63), (0, vR (12, 0, 0)), (1, vI v), (2, vI u), (3, vI t)]) [0, 1, 2, 3, 4, 5, 6] rfl ?_
                        exact ih_85 z45_ (lf_c_X0_measure_8 v6_85 z45_ hv0_85 h46_ ) (lf_c_X12_way_6 M14_ M_63 v u r21_ z26_ j30_ z28_ v4_63 v6_85 r39_ z45_ h4_ h10_ h16_ h24_ h27_ h31_ e29_ h32_ hv1_63 kv0_63 h36_ hv0_85 hv1_85 hv2_85 h38_ h42_ h44_ h46_ ) (WI_s hv2_85 (lf_c_X12_findFar_24 v6_85 hv1_85 ) (lf_c_X12_findFar_22 v6_85 z45_ h46_ ) (fun n9 q9 => absurd q9 ((h42_.resolve_right (fun q8 => absurd q8.1 (lf_c_X12_findFar_25 r39_ h44_ ))).2 n9))) (RCH.tail hL_85 ⟨hv0_85, hv1_85, hv2_85, h38_, r39_, h42_, (Or.inl ⟨h44_, z45_, h46_, rfl⟩)⟩) (Nat.lt_of_lt_of_le (lf_c_X12_way_10 v6_85 z45_ h38_ h46_ ) (Nat.le_of_lt_succ hm_85))
                      · refine w_aload_n dX12_way_97 rfl 3 rfl ?_
                        refine w_getR (c' := (61, 0, 0)) fl_RX12_57 rfl rfl ic_12 dX12_way_98 rfl ?_
                        refine w_aload_n dX12_way_101 rfl 3 rfl ?_
                        refine w_iload dX12_way_102 2 rfl ?_
                        refine w_iload dX12_way_104 0 rfl ?_
                        refine w_iconst (v := 1) dX12_way_106 (by decide) ?_
                        refine w_callV (as := [vI v4_63, vI v6_85, vI 1]) (rest := [vR (61, 0, 0)]) (c_on1 l G cy ad (d + 3) v4_63 v6_85 M_63 hI_63 hv1_63 (lf_c_X12_way_11 M14_ M_63 v u r21_ z26_ j30_ z28_ v4_63 v6_85 r39_ h4_ h10_ h16_ h24_ h27_ h31_ e29_ h32_ hv1_63 kv0_63 h36_ hv0_85 hv1_85 hv2_85 h38_ h42_ h44_ )) kV_X12_on pnn_17 (Nat.le_of_ble_eq_true rfl) m_1632 rfl rfl rfl ic_12 rfl rfl (by decide) (Nat.le_of_ble_eq_true rfl) dX12_way_107 (fun r47_ M48_ q49_ => ?_)
                        obtain ⟨rfl, h50_⟩ := q49_
                        have h52_ : 0 ≤ r47_.toInt ∧ r47_.toInt ≤ 191 := (⟨(h50_.resolve_left (fun q8 => q8.2 _ (h42_.resolve_left (fun q7 => absurd q7.1 (lf_c_X12_one_42 r39_ h44_ ))).2.2)).1, (h50_.resolve_left (fun q8 => q8.2 _ (h42_.resolve_left (fun q7 => absurd q7.1 (lf_c_X12_one_42 r39_ h44_ ))).2.2)).2.1⟩)
                        refine w_iald rfl rfl ic_61 (rfl : r47_.toInt = r47_.toInt) (lf_c_X7_isFree_0 r47_ h52_ ) dX12_way_110 (fun j55_ h56_ z53_ e54_ => ?_)
                        have h57_ : 0 ≤ z53_.toInt ∧ z53_.toInt ≤ 1000000 := by rw [e54_]; exact ⟨(kv0_63.1 j55_ (lf_c_X12_way_15 r47_ j55_ h52_ h56_ )).1, (kv0_63.1 j55_ (lf_c_X12_way_15 r47_ j55_ h52_ h56_ )).2.1⟩
                        refine w_aload_n dX12_way_111 rfl 3 rfl ?_
                        refine w_iload_n dX12_way_112 rfl 4 rfl ?_
                        refine w_aload_n dX12_way_113 rfl 3 rfl ?_
                        refine w_iload dX12_way_114 2 rfl ?_
                        refine w_iload dX12_way_116 0 rfl ?_
                        refine w_iconst (v := 1) dX12_way_118 (by decide) ?_
                        refine w_callV (as := [vI v4_63, vI v6_85, vI 1]) (rest := [vI v, vR (12, 0, 0), vI z53_]) (c_on1 l G cy ad (d + 3) v4_63 v6_85 M_63 hI_63 hv1_63 (lf_c_X12_way_17 M14_ M_63 v u r21_ z26_ j30_ z28_ v4_63 v6_85 r39_ r47_ j55_ z53_ h4_ h10_ h16_ h24_ h27_ h31_ e29_ h32_ hv1_63 kv0_63 h36_ hv0_85 hv1_85 hv2_85 h38_ h42_ h44_ h50_ h52_ h56_ e54_ h57_ )) kV_X12_on pnn_17 (Nat.le_of_ble_eq_true rfl) m_1632 rfl rfl rfl ic_12 rfl rfl (by decide) (Nat.le_of_ble_eq_true rfl) dX12_way_119 (fun r58_ M59_ q60_ => ?_)
                        obtain ⟨rfl, h61_⟩ := q60_
                        have h63_ : 0 ≤ r58_.toInt ∧ r58_.toInt ≤ 191 := (⟨(h61_.resolve_left (fun q8 => q8.2 _ (h42_.resolve_left (fun q7 => absurd q7.1 (lf_c_X12_one_42 r39_ h44_ ))).2.2)).1, (h61_.resolve_left (fun q8 => q8.2 _ (h42_.resolve_left (fun q7 => absurd q7.1 (lf_c_X12_one_42 r39_ h44_ ))).2.2)).2.1⟩)
                        refine w_callV (as := [vI v, vI r58_]) (rest := [vI z53_]) (c_costZ l G cy ad (d + 1) v r58_ M_63 hI_63 h4_ (lf_c_X12_head_0 r58_ h63_ )) kV_X12_cost pnn_17 (Nat.le_of_ble_eq_true rfl) m_1771 rfl rfl rfl ic_12 rfl rfl (by decide) (Nat.le_of_ble_eq_true rfl) dX12_way_122 (fun r64_ M65_ q66_ => ?_)
                        obtain ⟨rfl, h67_, hs68_⟩ := q66_
                        refine w_iaddB dX12_way_125 (rfl : z53_.toInt = z53_.toInt) (rfl : r64_.toInt = r64_.toInt) (lf_c_X12_way_21 M_63 v z53_ r58_ r64_ h57_ h67_ ) (fun z69_ h70_ => ?_)
                        refine w_aload_n dX12_way_126 rfl 3 rfl ?_
                        refine w_getR (c' := (61, 0, 0)) fl_RX12_57 rfl rfl ic_12 dX12_way_127 rfl ?_
                        refine w_iload dX12_way_130 2 rfl ?_
                        refine w_iald rfl rfl ic_61 (rfl : v4_63.toInt = v4_63.toInt) (lf_c_X7_isFree_0 v4_63 hv1_63 ) dX12_way_132 (fun j73_ h74_ z71_ e72_ => ?_)
                        have h75_ : 0 ≤ z71_.toInt ∧ z71_.toInt ≤ 1000000 := by rw [e72_]; exact ⟨(kv0_63.1 j73_ (lf_c_X12_way_15 v4_63 j73_ hv1_63 h74_ )).1, (kv0_63.1 j73_ (lf_c_X12_way_15 v4_63 j73_ hv1_63 h74_ )).2.1⟩
                        refine w_icmp_eq (tgt := 142) dX12_way_133 (by decide) (rfl : z69_.toInt = z69_.toInt) (rfl : z71_.toInt = z71_.toInt) (fun h76_ => ?_) (fun h76_ => ?_)
                        · refine w_aload_n dX12_way_142 rfl 3 rfl ?_
                          refine w_iload dX12_way_143 2 rfl ?_
                          refine w_iload dX12_way_145 0 rfl ?_
                          refine w_iconst (v := 1) dX12_way_147 (by decide) ?_
                          refine w_callV (as := [vI v4_63, vI v6_85, vI 1]) (rest := []) (c_on1 l G cy ad (d + 3) v4_63 v6_85 M_63 hI_63 hv1_63 (lf_c_X12_way_25 M14_ M_63 v u r21_ z26_ j30_ z28_ v4_63 v6_85 r39_ r47_ j55_ z53_ r58_ r64_ z69_ j73_ z71_ h4_ h10_ h16_ h24_ h27_ h31_ e29_ h32_ hv1_63 kv0_63 h36_ hv0_85 hv1_85 hv2_85 h38_ h42_ h44_ h50_ h52_ h56_ e54_ h57_ h61_ h63_ h67_ h70_ h74_ e72_ h75_ h76_ )) kV_X12_on pnn_17 (Nat.le_of_ble_eq_true rfl) m_1632 rfl rfl rfl ic_12 rfl rfl (by decide) (Nat.le_of_ble_eq_true rfl) dX12_way_148 (fun r77_ M78_ q79_ => ?_)
                          obtain ⟨rfl, h80_⟩ := q79_
                          have h82_ : 0 ≤ r77_.toInt ∧ r77_.toInt ≤ 191 := (⟨(h80_.resolve_left (fun q8 => q8.2 _ (h42_.resolve_left (fun q7 => absurd q7.1 (lf_c_X12_one_42 r39_ h44_ ))).2.2)).1, (h80_.resolve_left (fun q8 => q8.2 _ (h42_.resolve_left (fun q7 => absurd q7.1 (lf_c_X12_one_42 r39_ h44_ ))).2.2)).2.1⟩)
                          refine w_istore (ls' := [(4, vI r77_), (6, vI v6_85), (5, vI v5_63), (0, vR (12, 0, 0)), (1, vI v), (2, vI u), (3, vI t)]) dX12_way_151 (by decide) rfl ?_
                          refine w_iincB (j := 2) (f := fun z83_ => [(5, vI z83_), (4, vI r77_), (6, vI v6_85), (0, vR (12, 0, 0)), (1, vI v), (2, vI u), (3, vI t)]) dX12_way_153 rfl (by decide) (fun _ => rfl) (rfl : v5_63.toInt = v5_63.toInt) li_1 (lf_c_X12_move_13 t v5_63 hv0_63 h35_ ) (fun z83_ h84_ => ?_)
                          refine w_goto (tgt := 63) dX12_way_156 (by decide) ?_
                          refine w_loc (ls' := [(5, vI z83_), (4, vI r77_), (0, vR (12, 0, 0)), (1, vI v), (2, vI u), (3, vI t)]) [0, 1, 3, 4, 5, 6] rfl ?_
                          exact ih_63 M_63 hI_63 hF_63 z83_ r77_ (lf_c_X5_takeFrom_3 v5_63 z83_ hv0_63 h84_ ) h82_ kv0_63 (RCH.tail hL_63 ⟨hv0_63, hv1_63, hI_63, hF_63, h35_, h36_, v6_85, hv0_85, hv1_85, hv2_85, hL_85, h38_, r39_, h42_, h44_, r47_, h50_, h52_, j55_, h56_, z53_, e54_, h57_, r58_, h61_, h63_, r64_, hs68_, h67_, z69_, h70_, j73_, h74_, z71_, e72_, h75_, h76_, r77_, h80_, h82_, z83_, h84_, rfl, rfl, rfl⟩) (Nat.lt_of_lt_of_le (lf_c_SL_indexOfChar_1_3 t v5_63 z83_ h35_ h84_ ) (Nat.le_of_lt_succ hm_63))
                        · refine w_iincB (j := 0) (f := fun z85_ => [(6, vI z85_), (5, vI v5_63), (4, vI v4_63), (0, vR (12, 0, 0)), (1, vI v), (2, vI u), (3, vI t)]) dX12_way_136 rfl (by decide) (fun _ => rfl) (rfl : v6_85.toInt = v6_85.toInt) li_2 (lf_c_X12_way_4 v6_85 hv0_85 h38_ ) (fun z85_ h86_ => ?_)
                          refine w_goto (tgt := 85) dX12_way_139 (by decide) ?_
                          refine w_loc (ls' := [(6, vI z85_), (5, vI v5_63), (4, vI v4_63), (0, vR (12, 0, 0)), (1, vI v), (2, vI u), (3, vI t)]) [0, 1, 2, 3, 4, 5, 6] rfl ?_
                          exact ih_85 z85_ (lf_c_X0_measure_8 v6_85 z85_ hv0_85 h86_ ) (lf_c_X12_way_33 M14_ M_63 v u r21_ z26_ j30_ z28_ v4_63 v6_85 r39_ r47_ j55_ z53_ r58_ r64_ z69_ j73_ z71_ z85_ h4_ h10_ h16_ h24_ h27_ h31_ e29_ h32_ hv1_63 kv0_63 h36_ hv0_85 hv1_85 hv2_85 h38_ h42_ h44_ h50_ h52_ h56_ e54_ h57_ h61_ h63_ h67_ h70_ h74_ e72_ h75_ h76_ h86_ ) (WI_s hv2_85 (lf_c_X12_findFar_24 v6_85 hv1_85 ) (lf_c_X12_findFar_22 v6_85 z85_ h86_ ) (WI_no (h50_.resolve_left (fun q8 => q8.2 _ (h42_.resolve_left (fun q7 => absurd q7.1 (lf_c_X12_one_42 r39_ h44_ ))).2.2)).2.2 (h61_.resolve_left (fun q8 => q8.2 _ (h42_.resolve_left (fun q7 => absurd q7.1 (lf_c_X12_one_42 r39_ h44_ ))).2.2)).2.2 (h61_.resolve_left (fun q8 => q8.2 _ (h42_.resolve_left (fun q7 => absurd q7.1 (lf_c_X12_one_42 r39_ h44_ ))).2.2)).1 e54_ (lf_c_X12_lays_6 r47_ j55_ h56_ ) e72_ (lf_c_X12_way_40 v4_63 j73_ hv1_63 h74_ ) h67_.2.2 h70_ h76_)) (RCH.tail hL_85 ⟨hv0_85, hv1_85, hv2_85, h38_, r39_, h42_, (Or.inr ⟨h44_, r47_, h50_, h52_, j55_, h56_, z53_, e54_, h57_, r58_, h61_, h63_, r64_, hs68_, h67_, z69_, h70_, j73_, h74_, z71_, e72_, h75_, h76_, z85_, h86_, rfl⟩)⟩) (Nat.lt_of_lt_of_le (lf_c_X12_way_10 v6_85 z85_ h38_ h86_ ) (Nat.le_of_lt_succ hm_85))
                  exact lp37_ _ 0 (lf_c_X5_takeFrom_5 ) (lf_c_X12_findFar_58 ) (WI_0 kv0_63 (lf_c_X12_way_44 u h10_ ) (lf_c_X12_way_45 v4_63 hv1_63 ) (lf_c_X12_way_46 u v4_63 hv1_63 h36_ ) li_0) RCH.refl (Nat.lt_succ_self _)
                · refine w_aload_n dX12_way_75 rfl 2 rfl ?_
                  refine w_ldc (v := (-1000002)) m_1500 dX12_way_76 ?_
                  refine w_callV (as := [vI (-1000002)]) (rest := []) (c_X12_finding l G cy ad (d + 4) (-1000002) M_63 hI_63 (by first | decide | (unfold vF; omega) | (unfold vRw; omega))) kV_X12_finding pnn_17 (Nat.le_of_ble_eq_true rfl) m_1434 rfl rfl rfl ic_12 rfl rfl (by decide) (Nat.le_of_ble_eq_true rfl) dX12_way_78 (fun r87_ M88_ q89_ => ?_)
                  obtain ⟨hI91_, hF92_, h90_, hs94_⟩ := q89_
                  have hF93_ := hF_63.tr hF92_ (fun c k => (fun h => h.elim (fun h => (Or.inr (Or.inl ⟨h.1, h.2⟩))) (fun h => h.elim)))
                  have kf95_ : FF (M88_.1 (61, 0, 0)) (M88_.1 (50, 0, 0)) v u.toInt := by rw [(show M88_.1 (61, 0, 0) = M_63.1 (61, 0, 0) from funext (fun k => hF92_ (61, 0, 0) k (by simp [S_c_X12_finding]))), (show M88_.1 (50, 0, 0) = M_63.1 (50, 0, 0) from funext (fun k => hF92_ (50, 0, 0) k (by simp [S_c_X12_finding])))]; exact kv0_63
                  simp only [li_m1000002] at h90_
                  exact w_iret rfl dX12_way_81 ⟨hI91_, hF93_, trivial, (Or.inl ⟨hs5_, h4_, (Or.inl ⟨hs11_, h10_, (Or.inl ⟨h13_, M14_, hI17_, hF18_, hs20_, h16_, r21_, hs25_, h24_, z26_, h27_, j30_, h31_, z28_, e29_, h32_, (Or.inl ⟨h33_, v5_63, hv0_63, v4_63, hv1_63, M_63, hL_63, hI_63, hF_63, (Or.inr ⟨h35_, h36_, M88_, hI91_, hF92_, r87_, hs94_, h90_, rfl, rfl⟩)⟩)⟩)⟩)⟩)⟩
          exact lp34_ _ M14_ hI17_ hF19_ 0 z28_ (lf_c_X5_takeFrom_5 ) h32_ h16_ RCH.refl (Nat.lt_succ_self _)
        · refine w_aload_n dX12_way_52 rfl 1 rfl ?_
          refine w_getR (c' := (61, 0, 0)) fl_RX12_57 rfl rfl ic_12 dX12_way_53 rfl ?_
          refine w_iload dX12_way_56 0 rfl ?_
          refine w_iald rfl rfl ic_61 (rfl : z28_.toInt = z28_.toInt) (lf_c_X7_isFree_0 z28_ h32_ ) dX12_way_58 (fun j98_ h99_ z96_ e97_ => ?_)
          have h100_ : 0 ≤ z96_.toInt ∧ z96_.toInt ≤ 1000000 := by rw [e97_]; exact ⟨(h16_.1 j98_ (lf_c_X12_way_15 z28_ j98_ h32_ h99_ )).1, (h16_.1 j98_ (lf_c_X12_way_15 z28_ j98_ h32_ h99_ )).2.1⟩
          exact w_iret rfl dX12_way_59 ⟨hI17_, hF19_, trivial, (Or.inl ⟨hs5_, h4_, (Or.inl ⟨hs11_, h10_, (Or.inl ⟨h13_, M14_, hI17_, hF18_, hs20_, h16_, r21_, hs25_, h24_, z26_, h27_, j30_, h31_, z28_, e29_, h32_, (Or.inr ⟨h33_, j98_, h99_, z96_, e97_, h100_, rfl, rfl⟩)⟩)⟩)⟩)⟩
      · refine w_aload_n dX12_way_21 rfl 0 rfl ?_
        refine w_ldc (v := (-1000001)) m_1433 dX12_way_22 ?_
        refine w_callV (as := [vI (-1000001)]) (rest := []) (c_X12_finding l G cy ad (d + 4) (-1000001) Mz hIz (by first | decide | (unfold vF; omega) | (unfold vRw; omega))) kV_X12_finding pnn_17 (Nat.le_of_ble_eq_true rfl) m_1434 rfl rfl rfl ic_12 rfl rfl (by decide) (Nat.le_of_ble_eq_true rfl) dX12_way_24 (fun r101_ M102_ q103_ => ?_)
        obtain ⟨hI105_, hF106_, h104_, hs108_⟩ := q103_
        have hF107_ := hFz.tr hF106_ (fun c k => (fun h => h.elim (fun h => (Or.inr (Or.inl ⟨h.1, h.2⟩))) (fun h => h.elim)))
        simp only [li_m1000001] at h104_
        exact w_iret rfl dX12_way_27 ⟨hI105_, hF107_, trivial, (Or.inl ⟨hs5_, h4_, (Or.inl ⟨hs11_, h10_, (Or.inr ⟨h13_, M102_, hI105_, hF106_, r101_, hs108_, h104_, rfl, rfl⟩)⟩)⟩)⟩
    · refine w_if_eq (tgt := 21) dX12_way_13 (by decide) li_0 (fun h109_ => ?_) (fun h9 => (absurd h9 (by decide)))
      refine w_aload_n dX12_way_21 rfl 0 rfl ?_
      refine w_ldc (v := (-1000001)) m_1433 dX12_way_22 ?_
      refine w_callV (as := [vI (-1000001)]) (rest := []) (c_X12_finding l G cy ad (d + 4) (-1000001) Mz hIz (by first | decide | (unfold vF; omega) | (unfold vRw; omega))) kV_X12_finding pnn_17 (Nat.le_of_ble_eq_true rfl) m_1434 rfl rfl rfl ic_12 rfl rfl (by decide) (Nat.le_of_ble_eq_true rfl) dX12_way_24 (fun r110_ M111_ q112_ => ?_)
      obtain ⟨hI114_, hF115_, h113_, hs117_⟩ := q112_
      have hF116_ := hFz.tr hF115_ (fun c k => (fun h => h.elim (fun h => (Or.inr (Or.inl ⟨h.1, h.2⟩))) (fun h => h.elim)))
      simp only [li_m1000001] at h113_
      exact w_iret rfl dX12_way_27 ⟨hI114_, hF116_, trivial, (Or.inl ⟨hs5_, h4_, (Or.inr ⟨hs11_, h10_, M111_, hI114_, hF115_, r110_, hs117_, h113_, rfl, rfl⟩)⟩)⟩
  · refine w_if_eq (tgt := 21) dX12_way_6 (by decide) li_0 (fun h118_ => ?_) (fun h9 => (absurd h9 (by decide)))
    refine w_aload_n dX12_way_21 rfl 0 rfl ?_
    refine w_ldc (v := (-1000001)) m_1433 dX12_way_22 ?_
    refine w_callV (as := [vI (-1000001)]) (rest := []) (c_X12_finding l G cy ad (d + 4) (-1000001) Mz hIz (by first | decide | (unfold vF; omega) | (unfold vRw; omega))) kV_X12_finding pnn_17 (Nat.le_of_ble_eq_true rfl) m_1434 rfl rfl rfl ic_12 rfl rfl (by decide) (Nat.le_of_ble_eq_true rfl) dX12_way_24 (fun r119_ M120_ q121_ => ?_)
    obtain ⟨hI123_, hF124_, h122_, hs126_⟩ := q121_
    have hF125_ := hFz.tr hF124_ (fun c k => (fun h => h.elim (fun h => (Or.inr (Or.inl ⟨h.1, h.2⟩))) (fun h => h.elim)))
    simp only [li_m1000001] at h122_
    exact w_iret rfl dX12_way_27 ⟨hI123_, hF125_, trivial, (Or.inr ⟨hs5_, M120_, hI123_, hF124_, r119_, hs126_, h122_, rfl, rfl⟩)⟩
end
