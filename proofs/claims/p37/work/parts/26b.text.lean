def S_c_X4_read : rf → Nat → Prop := fun c k => (c.1 = 4 ∧ c.2.1 = 0 ∧ k = 1) ∨ (c.1 = 4 ∧ c.2.1 = 0 ∧ k = 2) ∨ (c.1 = 4 ∧ c.2.1 = 0 ∧ k = 3) ∨ (c.1 = 4 ∧ c.2.1 = 0 ∧ k = 4) ∨ (c.1 = 4 ∧ c.2.1 = 0 ∧ k = 5) ∨ (c.1 = 4 ∧ c.2.1 = 0 ∧ k = 6) ∨ (c.1 = 1 ∧ c.2.1 = 3 ∧ c.2.2 = 0 ∧ k = 2) ∨ (c.1 = 24 ∧ c.2.1 = 3 ∧ c.2.2 = 0) ∨ False
theorem lf_c_X4_read_0    : (0 : Int32).toInt = 0 := by have q0 := li_0; omega
theorem lf_c_X4_read_1    : (0 : Int32).toInt = 0 := by have q0 := li_0; omega
theorem lf_c_X4_read_2    : (0 : Int32).toInt = 0 := by have q0 := li_0; omega
set_option maxHeartbeats 4000000 in
set_option maxRecDepth 100000 in
theorem c_X4_read (l : Launch) (G : va_G) (cy : Nat → ClassId) (ad : rf → Nat) (d : Nat) (v : Int32) (Mz : mM) (hIz : Inv Mz) : WP CC l G cy ad yX4_read cX4_read 3 (some .int) (d + 73) 0 [(0, vR (4, 0, 0)), (1, vR (5, 0, 0)), (2, vI v)] [] Mz (fun r M' => Inv M' ∧ FR (S_c_X4_read) Mz M' ∧ True) := by
  have hFz : FR (S_c_X4_read) Mz Mz := FR.self
  refine w_aload_n dX4_read_0 rfl 0 rfl ?_
  refine w_aload_n dX4_read_1 rfl 1 rfl ?_
  refine w_putD 1 CC_nd fl_RX4_21 rfl rfl ic_4 rfl rfl rfl dX4_read_2 (fun M1_ hM2_ => ?_)
  have hI3_ := hIz.put hM2_ trivial
  have hF4_ := hFz.put hM2_ (Or.inl ⟨rfl, rfl, rfl⟩)
  have kf5_ : M1_.1 (4, 0, 0) 1 = 1 := by rw [hM2_, up_same]
  refine w_aload_n dX4_read_5 rfl 0 rfl ?_
  refine w_iload_n dX4_read_6 rfl 2 rfl ?_
  refine w_if_ne (tgt := 15) dX4_read_7 (by decide) (rfl : v.toInt = v.toInt) (fun h6_ => ?_) (fun h6_ => ?_)
  · refine w_iload_n dX4_read_15 rfl 2 rfl ?_
    refine w_iconst (v := 1) dX4_read_16 (by decide) ?_
    refine w_icmp_ne (tgt := 25) dX4_read_17 (by decide) (rfl : v.toInt = v.toInt) li_1 (fun h7_ => ?_) (fun h7_ => ?_)
    · refine w_ldcS (k := 3) rfl dX4_read_25 ?_
      refine w_putD 3 CC_nd fl_RX4_27 rfl rfl ic_4 rfl rfl rfl dX4_read_27 (fun M8_ hM9_ => ?_)
      have hI10_ := hI3_.put hM9_ trivial
      have hF11_ := hF4_.put hM9_ (Or.inr (Or.inl ⟨rfl, rfl, rfl⟩))
      have kf12_ : M8_.1 (4, 0, 0) 1 = 1 := by rw [(show M8_.1 (4, 0, 0) 1 = M1_.1 (4, 0, 0) 1 by rw [hM9_, up_ne (by simp)])]; exact kf5_
      have kf13_ : M8_.1 (4, 0, 0) 2 = 1 ∨ M8_.1 (4, 0, 0) 2 = 2 ∨ M8_.1 (4, 0, 0) 2 = 3 := by rw [hM9_, up_same]; decide
      refine w_aload_n dX4_read_30 rfl 0 rfl ?_
      refine w_iconst (v := 0) dX4_read_31 (by decide) ?_
      refine w_putI CC_nd fl_RX4_31 rfl rfl ic_4 dX4_read_32 (fun M14_ hM15_ => ?_)
      have hI16_ := hI10_.put hM15_ trivial
      have hF17_ := hF11_.put hM15_ (Or.inr (Or.inr (Or.inl ⟨rfl, rfl, rfl⟩)))
      have kf18_ : M14_.1 (4, 0, 0) 1 = 1 := by rw [(show M14_.1 (4, 0, 0) 1 = M8_.1 (4, 0, 0) 1 by rw [hM15_, up_ne (by simp)])]; exact kf12_
      have kf19_ : M14_.1 (4, 0, 0) 2 = 1 ∨ M14_.1 (4, 0, 0) 2 = 2 ∨ M14_.1 (4, 0, 0) 2 = 3 := by rw [(show M14_.1 (4, 0, 0) 2 = M8_.1 (4, 0, 0) 2 by rw [hM15_, up_ne (by simp)])]; exact kf13_
      refine w_aload_n dX4_read_35 rfl 0 rfl ?_
      refine w_iconst (v := (-1)) dX4_read_36 (by decide) ?_
      refine w_putI CC_nd fl_RX4_35 rfl rfl ic_4 dX4_read_37 (fun M20_ hM21_ => ?_)
      have hI22_ := hI16_.put hM21_ trivial
      have hF23_ := hF17_.put hM21_ (Or.inr (Or.inr (Or.inr (Or.inl ⟨rfl, rfl, rfl⟩))))
      have kf24_ : M20_.1 (4, 0, 0) 1 = 1 := by rw [(show M20_.1 (4, 0, 0) 1 = M14_.1 (4, 0, 0) 1 by rw [hM21_, up_ne (by simp)])]; exact kf18_
      have kf25_ : M20_.1 (4, 0, 0) 2 = 1 ∨ M20_.1 (4, 0, 0) 2 = 2 ∨ M20_.1 (4, 0, 0) 2 = 3 := by rw [(show M20_.1 (4, 0, 0) 2 = M14_.1 (4, 0, 0) 2 by rw [hM21_, up_ne (by simp)])]; exact kf19_
      refine w_aload_n dX4_read_40 rfl 0 rfl ?_
      refine w_iconst (v := 0) dX4_read_41 (by decide) ?_
      refine w_putI CC_nd fl_RX4_38 rfl rfl ic_4 dX4_read_42 (fun M26_ hM27_ => ?_)
      have hI28_ := hI22_.put hM27_ trivial
      have hF29_ := hF23_.put hM27_ (Or.inr (Or.inr (Or.inr (Or.inr (Or.inl ⟨rfl, rfl, rfl⟩)))))
      have kf30_ : M26_.1 (4, 0, 0) 1 = 1 := by rw [(show M26_.1 (4, 0, 0) 1 = M20_.1 (4, 0, 0) 1 by rw [hM27_, up_ne (by simp)])]; exact kf24_
      have kf31_ : M26_.1 (4, 0, 0) 2 = 1 ∨ M26_.1 (4, 0, 0) 2 = 2 ∨ M26_.1 (4, 0, 0) 2 = 3 := by rw [(show M26_.1 (4, 0, 0) 2 = M20_.1 (4, 0, 0) 2 by rw [hM27_, up_ne (by simp)])]; exact kf25_
      have kf32_ : (M26_.1 (4, 0, 0) 5).toInt = 0 := by rw [hM27_, up_same]; exact (lf_c_X4_read_0 )
      refine w_aload_n dX4_read_45 rfl 0 rfl ?_
      refine w_iconst (v := 0) dX4_read_46 (by decide) ?_
      refine w_putI CC_nd fl_RX4_41 rfl rfl ic_4 dX4_read_47 (fun M33_ hM34_ => ?_)
      have hI35_ := hI28_.put hM34_ trivial
      have hF36_ := hF29_.put hM34_ (Or.inr (Or.inr (Or.inr (Or.inr (Or.inr (Or.inl ⟨rfl, rfl, rfl⟩))))))
      have kf37_ : M33_.1 (4, 0, 0) 1 = 1 := by rw [(show M33_.1 (4, 0, 0) 1 = M26_.1 (4, 0, 0) 1 by rw [hM34_, up_ne (by simp)])]; exact kf30_
      have kf38_ : M33_.1 (4, 0, 0) 2 = 1 ∨ M33_.1 (4, 0, 0) 2 = 2 ∨ M33_.1 (4, 0, 0) 2 = 3 := by rw [(show M33_.1 (4, 0, 0) 2 = M26_.1 (4, 0, 0) 2 by rw [hM34_, up_ne (by simp)])]; exact kf31_
      have kf39_ : (M33_.1 (4, 0, 0) 5).toInt = 0 := by rw [(show M33_.1 (4, 0, 0) 5 = M26_.1 (4, 0, 0) 5 by rw [hM34_, up_ne (by simp)])]; exact kf32_
      refine w_aload_n dX4_read_50 rfl 0 rfl ?_
      refine w_getR (c' := (1, 3, 0)) fl_RX4_10 rfl rfl ic_4 dX4_read_51 rfl ?_
      refine w_callVv (as := []) (rest := []) (c_X1_clear l G cy ad (d + 72) 3 0 M33_ hI35_ (by first | decide | (unfold vF; omega) | (unfold vRw; omega))) kV_X1_clear (by decide +kernel) (Nat.le_of_ble_eq_true rfl) m_688 rfl rfl rfl (ic_1 (by unfold vF; omega)) rfl rfl (by decide) (Nat.le_of_ble_eq_true rfl) dX4_read_54 (fun M40_ q41_ => ?_)
      obtain ⟨hI43_, hF44_, h42_⟩ := q41_
      have hF45_ := hF36_.tr hF44_ (fun c k => (fun h => h.elim (fun h => (Or.inr (Or.inr (Or.inr (Or.inr (Or.inr (Or.inr (Or.inl ⟨h.1, h.2.1, h.2.2.1, h.2.2.2⟩)))))))) (fun h => h.elim)))
      have kf46_ : M40_.1 (4, 0, 0) 1 = 1 := by rw [(hF44_ (4, 0, 0) 1 (by simp [S_c_X1_clear]))]; exact kf37_
      have kf47_ : M40_.1 (4, 0, 0) 2 = 1 ∨ M40_.1 (4, 0, 0) 2 = 2 ∨ M40_.1 (4, 0, 0) 2 = 3 := by rw [(hF44_ (4, 0, 0) 2 (by simp [S_c_X1_clear]))]; exact kf38_
      have kf48_ : (M40_.1 (4, 0, 0) 5).toInt = 0 := by rw [(hF44_ (4, 0, 0) 5 (by simp [S_c_X1_clear]))]; exact kf39_
      refine w_aload_n dX4_read_57 rfl 0 rfl ?_
      refine w_callVv (as := []) (rest := []) (c_X4_cmp5 l G cy ad d M40_ hI43_ kf46_ kf47_ kf48_) kV_X4_readComparisons (by decide +kernel) (Nat.le_of_ble_eq_true rfl) m_692 rfl rfl rfl ic_4 rfl rfl (by decide) (Nat.le_of_ble_eq_true rfl) dX4_read_58 (fun M49_ q50_ => ?_)
      obtain ⟨hI52_, hF53_, h51_⟩ := q50_
      have hF54_ := hF45_.tr hF53_ (fun c k => (fun h => h.elim (fun h => (Or.inr (Or.inr (Or.inl ⟨h.1, h.2.1, h.2.2⟩)))) (fun h => h.elim (fun h => (Or.inr (Or.inr (Or.inr (Or.inl ⟨h.1, h.2.1, h.2.2⟩))))) (fun h => h.elim (fun h => (Or.inr (Or.inr (Or.inr (Or.inr (Or.inl ⟨h.1, h.2.1, h.2.2⟩)))))) (fun h => h.elim (fun h => (Or.inr (Or.inr (Or.inr (Or.inr (Or.inr (Or.inl ⟨h.1, h.2.1, h.2.2⟩))))))) (fun h => h.elim (fun h => (Or.inr (Or.inr (Or.inr (Or.inr (Or.inr (Or.inr (Or.inl ⟨h.1, h.2.1, h.2.2.1, h.2.2.2⟩)))))))) (fun h => h.elim (fun h => (Or.inr (Or.inr (Or.inr (Or.inr (Or.inr (Or.inr (Or.inr (Or.inl ⟨h.1, h.2.1, h.2.2⟩))))))))) (fun h => h.elim))))))))
      have kf55_ : M49_.1 (4, 0, 0) 1 = 1 := by rw [(hF53_ (4, 0, 0) 1 (by simp [S_reader]))]; exact kf46_
      have kf56_ : M49_.1 (4, 0, 0) 2 = 1 ∨ M49_.1 (4, 0, 0) 2 = 2 ∨ M49_.1 (4, 0, 0) 2 = 3 := by rw [(hF53_ (4, 0, 0) 2 (by simp [S_reader]))]; exact kf47_
      refine w_aload_n dX4_read_61 rfl 0 rfl ?_
      refine w_callV (as := []) (rest := []) (c_X4_next l G cy ad (d + 71) M49_ hI52_ kf55_) kV_X4_next (by decide +kernel) (Nat.le_of_ble_eq_true rfl) m_708 rfl rfl rfl ic_4 rfl rfl (by decide) (Nat.le_of_ble_eq_true rfl) dX4_read_62 (fun r57_ M58_ q59_ => ?_)
      obtain ⟨hI61_, hF62_, h60_⟩ := q59_
      have hF63_ := hF54_.tr hF62_ (fun c k => (fun h => h.elim (fun h => (Or.inr (Or.inr (Or.inl ⟨h.1, h.2.1, h.2.2⟩)))) (fun h => h.elim)))
      have kf64_ : M58_.1 (4, 0, 0) 1 = 1 := by rw [(hF62_ (4, 0, 0) 1 (by simp [S_c_X4_next]))]; exact kf55_
      have kf65_ : M58_.1 (4, 0, 0) 2 = 1 ∨ M58_.1 (4, 0, 0) 2 = 2 ∨ M58_.1 (4, 0, 0) 2 = 3 := by rw [(hF62_ (4, 0, 0) 2 (by simp [S_c_X4_next]))]; exact kf56_
      refine w_if_lt (tgt := 72) dX4_read_65 (by decide) (rfl : r57_.toInt = r57_.toInt) (fun h66_ => ?_) (fun h66_ => ?_)
      · refine w_aload_n dX4_read_72 rfl 0 rfl ?_
        refine w_getI fl_RX4_35 rfl rfl ic_4 dX4_read_73 (fun z67_ e68_ => ?_)
        refine w_if_ge (tgt := 86) dX4_read_76 (by decide) (rfl : z67_.toInt = z67_.toInt) (fun h69_ => ?_) (fun h69_ => ?_)
        · refine w_bipush (v := (-10)) dX4_read_86 (by decide) ?_
          refine w_aload_n dX4_read_88 rfl 0 rfl ?_
          refine w_getI fl_RX4_35 rfl rfl ic_4 dX4_read_89 (fun z70_ e71_ => ?_)
          obtain rfl : z67_ = z70_ := e68_.trans e71_.symm
          refine w_isub dX4_read_92 (fun z72_ _ => ?_)
          exact w_iret rfl dX4_read_93 ⟨hI61_, hF63_, trivial⟩
        · refine w_aload_n dX4_read_79 rfl 0 rfl ?_
          refine w_getI fl_RX4_41 rfl rfl ic_4 dX4_read_80 (fun z73_ e74_ => ?_)
          refine w_goto (tgt := 93) dX4_read_83 (by decide) ?_
          exact w_iret rfl dX4_read_93 ⟨hI61_, hF63_, trivial⟩
      · refine w_aload_n dX4_read_68 rfl 0 rfl ?_
        refine w_callVv (as := []) (rest := []) (c_X4_fail l G cy ad (d + 72) M58_ hI61_) kV_X4_fail (by decide +kernel) (Nat.le_of_ble_eq_true rfl) m_728 rfl rfl rfl ic_4 rfl rfl (by decide) (Nat.le_of_ble_eq_true rfl) dX4_read_69 (fun M75_ q76_ => ?_)
        obtain ⟨hI78_, hF79_, h77_⟩ := q76_
        have hF80_ := hF63_.tr hF79_ (fun c k => (fun h => h.elim (fun h => (Or.inr (Or.inr (Or.inr (Or.inl ⟨h.1, h.2.1, h.2.2⟩))))) (fun h => h.elim)))
        have kf81_ : M75_.1 (4, 0, 0) 1 = 1 := by rw [(hF79_ (4, 0, 0) 1 (by simp [S_c_X4_fail]))]; exact kf64_
        have kf82_ : M75_.1 (4, 0, 0) 2 = 1 ∨ M75_.1 (4, 0, 0) 2 = 2 ∨ M75_.1 (4, 0, 0) 2 = 3 := by rw [(hF79_ (4, 0, 0) 2 (by simp [S_c_X4_fail]))]; exact kf65_
        refine w_aload_n dX4_read_72 rfl 0 rfl ?_
        refine w_getI fl_RX4_35 rfl rfl ic_4 dX4_read_73 (fun z83_ e84_ => ?_)
        refine w_if_ge (tgt := 86) dX4_read_76 (by decide) (rfl : z83_.toInt = z83_.toInt) (fun h85_ => ?_) (fun h85_ => ?_)
        · refine w_bipush (v := (-10)) dX4_read_86 (by decide) ?_
          refine w_aload_n dX4_read_88 rfl 0 rfl ?_
          refine w_getI fl_RX4_35 rfl rfl ic_4 dX4_read_89 (fun z86_ e87_ => ?_)
          obtain rfl : z83_ = z86_ := e84_.trans e87_.symm
          refine w_isub dX4_read_92 (fun z88_ _ => ?_)
          exact w_iret rfl dX4_read_93 ⟨hI78_, hF80_, trivial⟩
        · refine w_aload_n dX4_read_79 rfl 0 rfl ?_
          refine w_getI fl_RX4_41 rfl rfl ic_4 dX4_read_80 (fun z89_ e90_ => ?_)
          refine w_goto (tgt := 93) dX4_read_83 (by decide) ?_
          exact w_iret rfl dX4_read_93 ⟨hI78_, hF80_, trivial⟩
    · refine w_ldcS (k := 2) rfl dX4_read_20 ?_
      refine w_goto (tgt := 27) dX4_read_22 (by decide) ?_
      refine w_putD 2 CC_nd fl_RX4_27 rfl rfl ic_4 rfl rfl rfl dX4_read_27 (fun M91_ hM92_ => ?_)
      have hI93_ := hI3_.put hM92_ trivial
      have hF94_ := hF4_.put hM92_ (Or.inr (Or.inl ⟨rfl, rfl, rfl⟩))
      have kf95_ : M91_.1 (4, 0, 0) 1 = 1 := by rw [(show M91_.1 (4, 0, 0) 1 = M1_.1 (4, 0, 0) 1 by rw [hM92_, up_ne (by simp)])]; exact kf5_
      have kf96_ : M91_.1 (4, 0, 0) 2 = 1 ∨ M91_.1 (4, 0, 0) 2 = 2 ∨ M91_.1 (4, 0, 0) 2 = 3 := by rw [hM92_, up_same]; decide
      refine w_aload_n dX4_read_30 rfl 0 rfl ?_
      refine w_iconst (v := 0) dX4_read_31 (by decide) ?_
      refine w_putI CC_nd fl_RX4_31 rfl rfl ic_4 dX4_read_32 (fun M97_ hM98_ => ?_)
      have hI99_ := hI93_.put hM98_ trivial
      have hF100_ := hF94_.put hM98_ (Or.inr (Or.inr (Or.inl ⟨rfl, rfl, rfl⟩)))
      have kf101_ : M97_.1 (4, 0, 0) 1 = 1 := by rw [(show M97_.1 (4, 0, 0) 1 = M91_.1 (4, 0, 0) 1 by rw [hM98_, up_ne (by simp)])]; exact kf95_
      have kf102_ : M97_.1 (4, 0, 0) 2 = 1 ∨ M97_.1 (4, 0, 0) 2 = 2 ∨ M97_.1 (4, 0, 0) 2 = 3 := by rw [(show M97_.1 (4, 0, 0) 2 = M91_.1 (4, 0, 0) 2 by rw [hM98_, up_ne (by simp)])]; exact kf96_
      refine w_aload_n dX4_read_35 rfl 0 rfl ?_
      refine w_iconst (v := (-1)) dX4_read_36 (by decide) ?_
      refine w_putI CC_nd fl_RX4_35 rfl rfl ic_4 dX4_read_37 (fun M103_ hM104_ => ?_)
      have hI105_ := hI99_.put hM104_ trivial
      have hF106_ := hF100_.put hM104_ (Or.inr (Or.inr (Or.inr (Or.inl ⟨rfl, rfl, rfl⟩))))
      have kf107_ : M103_.1 (4, 0, 0) 1 = 1 := by rw [(show M103_.1 (4, 0, 0) 1 = M97_.1 (4, 0, 0) 1 by rw [hM104_, up_ne (by simp)])]; exact kf101_
      have kf108_ : M103_.1 (4, 0, 0) 2 = 1 ∨ M103_.1 (4, 0, 0) 2 = 2 ∨ M103_.1 (4, 0, 0) 2 = 3 := by rw [(show M103_.1 (4, 0, 0) 2 = M97_.1 (4, 0, 0) 2 by rw [hM104_, up_ne (by simp)])]; exact kf102_
      refine w_aload_n dX4_read_40 rfl 0 rfl ?_
      refine w_iconst (v := 0) dX4_read_41 (by decide) ?_
      refine w_putI CC_nd fl_RX4_38 rfl rfl ic_4 dX4_read_42 (fun M109_ hM110_ => ?_)
      have hI111_ := hI105_.put hM110_ trivial
      have hF112_ := hF106_.put hM110_ (Or.inr (Or.inr (Or.inr (Or.inr (Or.inl ⟨rfl, rfl, rfl⟩)))))
      have kf113_ : M109_.1 (4, 0, 0) 1 = 1 := by rw [(show M109_.1 (4, 0, 0) 1 = M103_.1 (4, 0, 0) 1 by rw [hM110_, up_ne (by simp)])]; exact kf107_
      have kf114_ : M109_.1 (4, 0, 0) 2 = 1 ∨ M109_.1 (4, 0, 0) 2 = 2 ∨ M109_.1 (4, 0, 0) 2 = 3 := by rw [(show M109_.1 (4, 0, 0) 2 = M103_.1 (4, 0, 0) 2 by rw [hM110_, up_ne (by simp)])]; exact kf108_
      have kf115_ : (M109_.1 (4, 0, 0) 5).toInt = 0 := by rw [hM110_, up_same]; exact (lf_c_X4_read_1 )
      refine w_aload_n dX4_read_45 rfl 0 rfl ?_
      refine w_iconst (v := 0) dX4_read_46 (by decide) ?_
      refine w_putI CC_nd fl_RX4_41 rfl rfl ic_4 dX4_read_47 (fun M116_ hM117_ => ?_)
      have hI118_ := hI111_.put hM117_ trivial
      have hF119_ := hF112_.put hM117_ (Or.inr (Or.inr (Or.inr (Or.inr (Or.inr (Or.inl ⟨rfl, rfl, rfl⟩))))))
      have kf120_ : M116_.1 (4, 0, 0) 1 = 1 := by rw [(show M116_.1 (4, 0, 0) 1 = M109_.1 (4, 0, 0) 1 by rw [hM117_, up_ne (by simp)])]; exact kf113_
      have kf121_ : M116_.1 (4, 0, 0) 2 = 1 ∨ M116_.1 (4, 0, 0) 2 = 2 ∨ M116_.1 (4, 0, 0) 2 = 3 := by rw [(show M116_.1 (4, 0, 0) 2 = M109_.1 (4, 0, 0) 2 by rw [hM117_, up_ne (by simp)])]; exact kf114_
      have kf122_ : (M116_.1 (4, 0, 0) 5).toInt = 0 := by rw [(show M116_.1 (4, 0, 0) 5 = M109_.1 (4, 0, 0) 5 by rw [hM117_, up_ne (by simp)])]; exact kf115_
      refine w_aload_n dX4_read_50 rfl 0 rfl ?_
      refine w_getR (c' := (1, 3, 0)) fl_RX4_10 rfl rfl ic_4 dX4_read_51 rfl ?_
      refine w_callVv (as := []) (rest := []) (c_X1_clear l G cy ad (d + 72) 3 0 M116_ hI118_ (by first | decide | (unfold vF; omega) | (unfold vRw; omega))) kV_X1_clear (by decide +kernel) (Nat.le_of_ble_eq_true rfl) m_688 rfl rfl rfl (ic_1 (by unfold vF; omega)) rfl rfl (by decide) (Nat.le_of_ble_eq_true rfl) dX4_read_54 (fun M123_ q124_ => ?_)
      obtain ⟨hI126_, hF127_, h125_⟩ := q124_
      have hF128_ := hF119_.tr hF127_ (fun c k => (fun h => h.elim (fun h => (Or.inr (Or.inr (Or.inr (Or.inr (Or.inr (Or.inr (Or.inl ⟨h.1, h.2.1, h.2.2.1, h.2.2.2⟩)))))))) (fun h => h.elim)))
      have kf129_ : M123_.1 (4, 0, 0) 1 = 1 := by rw [(hF127_ (4, 0, 0) 1 (by simp [S_c_X1_clear]))]; exact kf120_
      have kf130_ : M123_.1 (4, 0, 0) 2 = 1 ∨ M123_.1 (4, 0, 0) 2 = 2 ∨ M123_.1 (4, 0, 0) 2 = 3 := by rw [(hF127_ (4, 0, 0) 2 (by simp [S_c_X1_clear]))]; exact kf121_
      have kf131_ : (M123_.1 (4, 0, 0) 5).toInt = 0 := by rw [(hF127_ (4, 0, 0) 5 (by simp [S_c_X1_clear]))]; exact kf122_
      refine w_aload_n dX4_read_57 rfl 0 rfl ?_
      refine w_callVv (as := []) (rest := []) (c_X4_cmp5 l G cy ad d M123_ hI126_ kf129_ kf130_ kf131_) kV_X4_readComparisons (by decide +kernel) (Nat.le_of_ble_eq_true rfl) m_692 rfl rfl rfl ic_4 rfl rfl (by decide) (Nat.le_of_ble_eq_true rfl) dX4_read_58 (fun M132_ q133_ => ?_)
      obtain ⟨hI135_, hF136_, h134_⟩ := q133_
      have hF137_ := hF128_.tr hF136_ (fun c k => (fun h => h.elim (fun h => (Or.inr (Or.inr (Or.inl ⟨h.1, h.2.1, h.2.2⟩)))) (fun h => h.elim (fun h => (Or.inr (Or.inr (Or.inr (Or.inl ⟨h.1, h.2.1, h.2.2⟩))))) (fun h => h.elim (fun h => (Or.inr (Or.inr (Or.inr (Or.inr (Or.inl ⟨h.1, h.2.1, h.2.2⟩)))))) (fun h => h.elim (fun h => (Or.inr (Or.inr (Or.inr (Or.inr (Or.inr (Or.inl ⟨h.1, h.2.1, h.2.2⟩))))))) (fun h => h.elim (fun h => (Or.inr (Or.inr (Or.inr (Or.inr (Or.inr (Or.inr (Or.inl ⟨h.1, h.2.1, h.2.2.1, h.2.2.2⟩)))))))) (fun h => h.elim (fun h => (Or.inr (Or.inr (Or.inr (Or.inr (Or.inr (Or.inr (Or.inr (Or.inl ⟨h.1, h.2.1, h.2.2⟩))))))))) (fun h => h.elim))))))))
      have kf138_ : M132_.1 (4, 0, 0) 1 = 1 := by rw [(hF136_ (4, 0, 0) 1 (by simp [S_reader]))]; exact kf129_
      have kf139_ : M132_.1 (4, 0, 0) 2 = 1 ∨ M132_.1 (4, 0, 0) 2 = 2 ∨ M132_.1 (4, 0, 0) 2 = 3 := by rw [(hF136_ (4, 0, 0) 2 (by simp [S_reader]))]; exact kf130_
      refine w_aload_n dX4_read_61 rfl 0 rfl ?_
      refine w_callV (as := []) (rest := []) (c_X4_next l G cy ad (d + 71) M132_ hI135_ kf138_) kV_X4_next (by decide +kernel) (Nat.le_of_ble_eq_true rfl) m_708 rfl rfl rfl ic_4 rfl rfl (by decide) (Nat.le_of_ble_eq_true rfl) dX4_read_62 (fun r140_ M141_ q142_ => ?_)
      obtain ⟨hI144_, hF145_, h143_⟩ := q142_
      have hF146_ := hF137_.tr hF145_ (fun c k => (fun h => h.elim (fun h => (Or.inr (Or.inr (Or.inl ⟨h.1, h.2.1, h.2.2⟩)))) (fun h => h.elim)))
      have kf147_ : M141_.1 (4, 0, 0) 1 = 1 := by rw [(hF145_ (4, 0, 0) 1 (by simp [S_c_X4_next]))]; exact kf138_
      have kf148_ : M141_.1 (4, 0, 0) 2 = 1 ∨ M141_.1 (4, 0, 0) 2 = 2 ∨ M141_.1 (4, 0, 0) 2 = 3 := by rw [(hF145_ (4, 0, 0) 2 (by simp [S_c_X4_next]))]; exact kf139_
      refine w_if_lt (tgt := 72) dX4_read_65 (by decide) (rfl : r140_.toInt = r140_.toInt) (fun h149_ => ?_) (fun h149_ => ?_)
      · refine w_aload_n dX4_read_72 rfl 0 rfl ?_
        refine w_getI fl_RX4_35 rfl rfl ic_4 dX4_read_73 (fun z150_ e151_ => ?_)
        refine w_if_ge (tgt := 86) dX4_read_76 (by decide) (rfl : z150_.toInt = z150_.toInt) (fun h152_ => ?_) (fun h152_ => ?_)
        · refine w_bipush (v := (-10)) dX4_read_86 (by decide) ?_
          refine w_aload_n dX4_read_88 rfl 0 rfl ?_
          refine w_getI fl_RX4_35 rfl rfl ic_4 dX4_read_89 (fun z153_ e154_ => ?_)
          obtain rfl : z150_ = z153_ := e151_.trans e154_.symm
          refine w_isub dX4_read_92 (fun z155_ _ => ?_)
          exact w_iret rfl dX4_read_93 ⟨hI144_, hF146_, trivial⟩
        · refine w_aload_n dX4_read_79 rfl 0 rfl ?_
          refine w_getI fl_RX4_41 rfl rfl ic_4 dX4_read_80 (fun z156_ e157_ => ?_)
          refine w_goto (tgt := 93) dX4_read_83 (by decide) ?_
          exact w_iret rfl dX4_read_93 ⟨hI144_, hF146_, trivial⟩
      · refine w_aload_n dX4_read_68 rfl 0 rfl ?_
        refine w_callVv (as := []) (rest := []) (c_X4_fail l G cy ad (d + 72) M141_ hI144_) kV_X4_fail (by decide +kernel) (Nat.le_of_ble_eq_true rfl) m_728 rfl rfl rfl ic_4 rfl rfl (by decide) (Nat.le_of_ble_eq_true rfl) dX4_read_69 (fun M158_ q159_ => ?_)
        obtain ⟨hI161_, hF162_, h160_⟩ := q159_
        have hF163_ := hF146_.tr hF162_ (fun c k => (fun h => h.elim (fun h => (Or.inr (Or.inr (Or.inr (Or.inl ⟨h.1, h.2.1, h.2.2⟩))))) (fun h => h.elim)))
        have kf164_ : M158_.1 (4, 0, 0) 1 = 1 := by rw [(hF162_ (4, 0, 0) 1 (by simp [S_c_X4_fail]))]; exact kf147_
        have kf165_ : M158_.1 (4, 0, 0) 2 = 1 ∨ M158_.1 (4, 0, 0) 2 = 2 ∨ M158_.1 (4, 0, 0) 2 = 3 := by rw [(hF162_ (4, 0, 0) 2 (by simp [S_c_X4_fail]))]; exact kf148_
        refine w_aload_n dX4_read_72 rfl 0 rfl ?_
        refine w_getI fl_RX4_35 rfl rfl ic_4 dX4_read_73 (fun z166_ e167_ => ?_)
        refine w_if_ge (tgt := 86) dX4_read_76 (by decide) (rfl : z166_.toInt = z166_.toInt) (fun h168_ => ?_) (fun h168_ => ?_)
        · refine w_bipush (v := (-10)) dX4_read_86 (by decide) ?_
          refine w_aload_n dX4_read_88 rfl 0 rfl ?_
          refine w_getI fl_RX4_35 rfl rfl ic_4 dX4_read_89 (fun z169_ e170_ => ?_)
          obtain rfl : z166_ = z169_ := e167_.trans e170_.symm
          refine w_isub dX4_read_92 (fun z171_ _ => ?_)
          exact w_iret rfl dX4_read_93 ⟨hI161_, hF163_, trivial⟩
        · refine w_aload_n dX4_read_79 rfl 0 rfl ?_
          refine w_getI fl_RX4_41 rfl rfl ic_4 dX4_read_80 (fun z172_ e173_ => ?_)
          refine w_goto (tgt := 93) dX4_read_83 (by decide) ?_
          exact w_iret rfl dX4_read_93 ⟨hI161_, hF163_, trivial⟩
  · refine w_ldcS (k := 1) rfl dX4_read_10 ?_
    refine w_goto (tgt := 27) dX4_read_12 (by decide) ?_
    refine w_putD 1 CC_nd fl_RX4_27 rfl rfl ic_4 rfl rfl rfl dX4_read_27 (fun M174_ hM175_ => ?_)
    have hI176_ := hI3_.put hM175_ trivial
    have hF177_ := hF4_.put hM175_ (Or.inr (Or.inl ⟨rfl, rfl, rfl⟩))
    have kf178_ : M174_.1 (4, 0, 0) 1 = 1 := by rw [(show M174_.1 (4, 0, 0) 1 = M1_.1 (4, 0, 0) 1 by rw [hM175_, up_ne (by simp)])]; exact kf5_
    have kf179_ : M174_.1 (4, 0, 0) 2 = 1 ∨ M174_.1 (4, 0, 0) 2 = 2 ∨ M174_.1 (4, 0, 0) 2 = 3 := by rw [hM175_, up_same]; decide
    refine w_aload_n dX4_read_30 rfl 0 rfl ?_
    refine w_iconst (v := 0) dX4_read_31 (by decide) ?_
    refine w_putI CC_nd fl_RX4_31 rfl rfl ic_4 dX4_read_32 (fun M180_ hM181_ => ?_)
    have hI182_ := hI176_.put hM181_ trivial
    have hF183_ := hF177_.put hM181_ (Or.inr (Or.inr (Or.inl ⟨rfl, rfl, rfl⟩)))
    have kf184_ : M180_.1 (4, 0, 0) 1 = 1 := by rw [(show M180_.1 (4, 0, 0) 1 = M174_.1 (4, 0, 0) 1 by rw [hM181_, up_ne (by simp)])]; exact kf178_
    have kf185_ : M180_.1 (4, 0, 0) 2 = 1 ∨ M180_.1 (4, 0, 0) 2 = 2 ∨ M180_.1 (4, 0, 0) 2 = 3 := by rw [(show M180_.1 (4, 0, 0) 2 = M174_.1 (4, 0, 0) 2 by rw [hM181_, up_ne (by simp)])]; exact kf179_
    refine w_aload_n dX4_read_35 rfl 0 rfl ?_
    refine w_iconst (v := (-1)) dX4_read_36 (by decide) ?_
    refine w_putI CC_nd fl_RX4_35 rfl rfl ic_4 dX4_read_37 (fun M186_ hM187_ => ?_)
    have hI188_ := hI182_.put hM187_ trivial
    have hF189_ := hF183_.put hM187_ (Or.inr (Or.inr (Or.inr (Or.inl ⟨rfl, rfl, rfl⟩))))
    have kf190_ : M186_.1 (4, 0, 0) 1 = 1 := by rw [(show M186_.1 (4, 0, 0) 1 = M180_.1 (4, 0, 0) 1 by rw [hM187_, up_ne (by simp)])]; exact kf184_
    have kf191_ : M186_.1 (4, 0, 0) 2 = 1 ∨ M186_.1 (4, 0, 0) 2 = 2 ∨ M186_.1 (4, 0, 0) 2 = 3 := by rw [(show M186_.1 (4, 0, 0) 2 = M180_.1 (4, 0, 0) 2 by rw [hM187_, up_ne (by simp)])]; exact kf185_
    refine w_aload_n dX4_read_40 rfl 0 rfl ?_
    refine w_iconst (v := 0) dX4_read_41 (by decide) ?_
    refine w_putI CC_nd fl_RX4_38 rfl rfl ic_4 dX4_read_42 (fun M192_ hM193_ => ?_)
    have hI194_ := hI188_.put hM193_ trivial
    have hF195_ := hF189_.put hM193_ (Or.inr (Or.inr (Or.inr (Or.inr (Or.inl ⟨rfl, rfl, rfl⟩)))))
    have kf196_ : M192_.1 (4, 0, 0) 1 = 1 := by rw [(show M192_.1 (4, 0, 0) 1 = M186_.1 (4, 0, 0) 1 by rw [hM193_, up_ne (by simp)])]; exact kf190_
    have kf197_ : M192_.1 (4, 0, 0) 2 = 1 ∨ M192_.1 (4, 0, 0) 2 = 2 ∨ M192_.1 (4, 0, 0) 2 = 3 := by rw [(show M192_.1 (4, 0, 0) 2 = M186_.1 (4, 0, 0) 2 by rw [hM193_, up_ne (by simp)])]; exact kf191_
    have kf198_ : (M192_.1 (4, 0, 0) 5).toInt = 0 := by rw [hM193_, up_same]; exact (lf_c_X4_read_2 )
    refine w_aload_n dX4_read_45 rfl 0 rfl ?_
    refine w_iconst (v := 0) dX4_read_46 (by decide) ?_
    refine w_putI CC_nd fl_RX4_41 rfl rfl ic_4 dX4_read_47 (fun M199_ hM200_ => ?_)
    have hI201_ := hI194_.put hM200_ trivial
    have hF202_ := hF195_.put hM200_ (Or.inr (Or.inr (Or.inr (Or.inr (Or.inr (Or.inl ⟨rfl, rfl, rfl⟩))))))
    have kf203_ : M199_.1 (4, 0, 0) 1 = 1 := by rw [(show M199_.1 (4, 0, 0) 1 = M192_.1 (4, 0, 0) 1 by rw [hM200_, up_ne (by simp)])]; exact kf196_
    have kf204_ : M199_.1 (4, 0, 0) 2 = 1 ∨ M199_.1 (4, 0, 0) 2 = 2 ∨ M199_.1 (4, 0, 0) 2 = 3 := by rw [(show M199_.1 (4, 0, 0) 2 = M192_.1 (4, 0, 0) 2 by rw [hM200_, up_ne (by simp)])]; exact kf197_
    have kf205_ : (M199_.1 (4, 0, 0) 5).toInt = 0 := by rw [(show M199_.1 (4, 0, 0) 5 = M192_.1 (4, 0, 0) 5 by rw [hM200_, up_ne (by simp)])]; exact kf198_
    refine w_aload_n dX4_read_50 rfl 0 rfl ?_
    refine w_getR (c' := (1, 3, 0)) fl_RX4_10 rfl rfl ic_4 dX4_read_51 rfl ?_
    refine w_callVv (as := []) (rest := []) (c_X1_clear l G cy ad (d + 72) 3 0 M199_ hI201_ (by first | decide | (unfold vF; omega) | (unfold vRw; omega))) kV_X1_clear (by decide +kernel) (Nat.le_of_ble_eq_true rfl) m_688 rfl rfl rfl (ic_1 (by unfold vF; omega)) rfl rfl (by decide) (Nat.le_of_ble_eq_true rfl) dX4_read_54 (fun M206_ q207_ => ?_)
    obtain ⟨hI209_, hF210_, h208_⟩ := q207_
    have hF211_ := hF202_.tr hF210_ (fun c k => (fun h => h.elim (fun h => (Or.inr (Or.inr (Or.inr (Or.inr (Or.inr (Or.inr (Or.inl ⟨h.1, h.2.1, h.2.2.1, h.2.2.2⟩)))))))) (fun h => h.elim)))
    have kf212_ : M206_.1 (4, 0, 0) 1 = 1 := by rw [(hF210_ (4, 0, 0) 1 (by simp [S_c_X1_clear]))]; exact kf203_
    have kf213_ : M206_.1 (4, 0, 0) 2 = 1 ∨ M206_.1 (4, 0, 0) 2 = 2 ∨ M206_.1 (4, 0, 0) 2 = 3 := by rw [(hF210_ (4, 0, 0) 2 (by simp [S_c_X1_clear]))]; exact kf204_
    have kf214_ : (M206_.1 (4, 0, 0) 5).toInt = 0 := by rw [(hF210_ (4, 0, 0) 5 (by simp [S_c_X1_clear]))]; exact kf205_
    refine w_aload_n dX4_read_57 rfl 0 rfl ?_
    refine w_callVv (as := []) (rest := []) (c_X4_cmp5 l G cy ad d M206_ hI209_ kf212_ kf213_ kf214_) kV_X4_readComparisons (by decide +kernel) (Nat.le_of_ble_eq_true rfl) m_692 rfl rfl rfl ic_4 rfl rfl (by decide) (Nat.le_of_ble_eq_true rfl) dX4_read_58 (fun M215_ q216_ => ?_)
    obtain ⟨hI218_, hF219_, h217_⟩ := q216_
    have hF220_ := hF211_.tr hF219_ (fun c k => (fun h => h.elim (fun h => (Or.inr (Or.inr (Or.inl ⟨h.1, h.2.1, h.2.2⟩)))) (fun h => h.elim (fun h => (Or.inr (Or.inr (Or.inr (Or.inl ⟨h.1, h.2.1, h.2.2⟩))))) (fun h => h.elim (fun h => (Or.inr (Or.inr (Or.inr (Or.inr (Or.inl ⟨h.1, h.2.1, h.2.2⟩)))))) (fun h => h.elim (fun h => (Or.inr (Or.inr (Or.inr (Or.inr (Or.inr (Or.inl ⟨h.1, h.2.1, h.2.2⟩))))))) (fun h => h.elim (fun h => (Or.inr (Or.inr (Or.inr (Or.inr (Or.inr (Or.inr (Or.inl ⟨h.1, h.2.1, h.2.2.1, h.2.2.2⟩)))))))) (fun h => h.elim (fun h => (Or.inr (Or.inr (Or.inr (Or.inr (Or.inr (Or.inr (Or.inr (Or.inl ⟨h.1, h.2.1, h.2.2⟩))))))))) (fun h => h.elim))))))))
    have kf221_ : M215_.1 (4, 0, 0) 1 = 1 := by rw [(hF219_ (4, 0, 0) 1 (by simp [S_reader]))]; exact kf212_
    have kf222_ : M215_.1 (4, 0, 0) 2 = 1 ∨ M215_.1 (4, 0, 0) 2 = 2 ∨ M215_.1 (4, 0, 0) 2 = 3 := by rw [(hF219_ (4, 0, 0) 2 (by simp [S_reader]))]; exact kf213_
    refine w_aload_n dX4_read_61 rfl 0 rfl ?_
    refine w_callV (as := []) (rest := []) (c_X4_next l G cy ad (d + 71) M215_ hI218_ kf221_) kV_X4_next (by decide +kernel) (Nat.le_of_ble_eq_true rfl) m_708 rfl rfl rfl ic_4 rfl rfl (by decide) (Nat.le_of_ble_eq_true rfl) dX4_read_62 (fun r223_ M224_ q225_ => ?_)
    obtain ⟨hI227_, hF228_, h226_⟩ := q225_
    have hF229_ := hF220_.tr hF228_ (fun c k => (fun h => h.elim (fun h => (Or.inr (Or.inr (Or.inl ⟨h.1, h.2.1, h.2.2⟩)))) (fun h => h.elim)))
    have kf230_ : M224_.1 (4, 0, 0) 1 = 1 := by rw [(hF228_ (4, 0, 0) 1 (by simp [S_c_X4_next]))]; exact kf221_
    have kf231_ : M224_.1 (4, 0, 0) 2 = 1 ∨ M224_.1 (4, 0, 0) 2 = 2 ∨ M224_.1 (4, 0, 0) 2 = 3 := by rw [(hF228_ (4, 0, 0) 2 (by simp [S_c_X4_next]))]; exact kf222_
    refine w_if_lt (tgt := 72) dX4_read_65 (by decide) (rfl : r223_.toInt = r223_.toInt) (fun h232_ => ?_) (fun h232_ => ?_)
    · refine w_aload_n dX4_read_72 rfl 0 rfl ?_
      refine w_getI fl_RX4_35 rfl rfl ic_4 dX4_read_73 (fun z233_ e234_ => ?_)
      refine w_if_ge (tgt := 86) dX4_read_76 (by decide) (rfl : z233_.toInt = z233_.toInt) (fun h235_ => ?_) (fun h235_ => ?_)
      · refine w_bipush (v := (-10)) dX4_read_86 (by decide) ?_
        refine w_aload_n dX4_read_88 rfl 0 rfl ?_
        refine w_getI fl_RX4_35 rfl rfl ic_4 dX4_read_89 (fun z236_ e237_ => ?_)
        obtain rfl : z233_ = z236_ := e234_.trans e237_.symm
        refine w_isub dX4_read_92 (fun z238_ _ => ?_)
        exact w_iret rfl dX4_read_93 ⟨hI227_, hF229_, trivial⟩
      · refine w_aload_n dX4_read_79 rfl 0 rfl ?_
        refine w_getI fl_RX4_41 rfl rfl ic_4 dX4_read_80 (fun z239_ e240_ => ?_)
        refine w_goto (tgt := 93) dX4_read_83 (by decide) ?_
        exact w_iret rfl dX4_read_93 ⟨hI227_, hF229_, trivial⟩
    · refine w_aload_n dX4_read_68 rfl 0 rfl ?_
      refine w_callVv (as := []) (rest := []) (c_X4_fail l G cy ad (d + 72) M224_ hI227_) kV_X4_fail (by decide +kernel) (Nat.le_of_ble_eq_true rfl) m_728 rfl rfl rfl ic_4 rfl rfl (by decide) (Nat.le_of_ble_eq_true rfl) dX4_read_69 (fun M241_ q242_ => ?_)
      obtain ⟨hI244_, hF245_, h243_⟩ := q242_
      have hF246_ := hF229_.tr hF245_ (fun c k => (fun h => h.elim (fun h => (Or.inr (Or.inr (Or.inr (Or.inl ⟨h.1, h.2.1, h.2.2⟩))))) (fun h => h.elim)))
      have kf247_ : M241_.1 (4, 0, 0) 1 = 1 := by rw [(hF245_ (4, 0, 0) 1 (by simp [S_c_X4_fail]))]; exact kf230_
      have kf248_ : M241_.1 (4, 0, 0) 2 = 1 ∨ M241_.1 (4, 0, 0) 2 = 2 ∨ M241_.1 (4, 0, 0) 2 = 3 := by rw [(hF245_ (4, 0, 0) 2 (by simp [S_c_X4_fail]))]; exact kf231_
      refine w_aload_n dX4_read_72 rfl 0 rfl ?_
      refine w_getI fl_RX4_35 rfl rfl ic_4 dX4_read_73 (fun z249_ e250_ => ?_)
      refine w_if_ge (tgt := 86) dX4_read_76 (by decide) (rfl : z249_.toInt = z249_.toInt) (fun h251_ => ?_) (fun h251_ => ?_)
      · refine w_bipush (v := (-10)) dX4_read_86 (by decide) ?_
        refine w_aload_n dX4_read_88 rfl 0 rfl ?_
        refine w_getI fl_RX4_35 rfl rfl ic_4 dX4_read_89 (fun z252_ e253_ => ?_)
        obtain rfl : z249_ = z252_ := e250_.trans e253_.symm
        refine w_isub dX4_read_92 (fun z254_ _ => ?_)
        exact w_iret rfl dX4_read_93 ⟨hI244_, hF246_, trivial⟩
      · refine w_aload_n dX4_read_79 rfl 0 rfl ?_
        refine w_getI fl_RX4_41 rfl rfl ic_4 dX4_read_80 (fun z255_ e256_ => ?_)
        refine w_goto (tgt := 93) dX4_read_83 (by decide) ?_
        exact w_iret rfl dX4_read_93 ⟨hI244_, hF246_, trivial⟩
def S_c_X11_text : rf → Nat → Prop := fun c k => (c.1 = 4 ∧ c.2.1 = 0 ∧ k = 1) ∨ (c.1 = 4 ∧ c.2.1 = 0 ∧ k = 2) ∨ (c.1 = 4 ∧ c.2.1 = 0 ∧ k = 3) ∨ (c.1 = 4 ∧ c.2.1 = 0 ∧ k = 4) ∨ (c.1 = 4 ∧ c.2.1 = 0 ∧ k = 5) ∨ (c.1 = 4 ∧ c.2.1 = 0 ∧ k = 6) ∨ (c.1 = 1 ∧ c.2.1 = 3 ∧ c.2.2 = 0 ∧ k = 2) ∨ (c.1 = 24 ∧ c.2.1 = 3 ∧ c.2.2 = 0) ∨ (c.1 = 5 ∧ c.2.1 = 0 ∧ c.2.2 = 0 ∧ k = 1) ∨ (c.1 = 1 ∧ c.2.1 = 0 ∧ k = 2) ∨ (c.1 = 24 ∧ c.2.1 = 0) ∨ (c.1 = 44 ∧ c.2.1 = 0) ∨ False
theorem lf_c_X11_text_0  (v : Int32) (h4_ : 0 ≤ v.toInt ∧ v.toInt ≤ 2) : 0 ≤ v.toInt ∧ v.toInt < ((3 : Nat) : Int) := by have r_v := rngI v; omega
set_option maxHeartbeats 4000000 in
set_option maxRecDepth 100000 in
theorem c_X11_text (l : Launch) (G : va_G) (cy : Nat → ClassId) (ad : rf → Nat) (d : Nat) (v : Int32) (Mz : mM) (hIz : Inv Mz) : WP CC l G cy ad yX11_text cX11_text 3 (some .int) (d + 74) 0 [(0, vR (11, 0, 0)), (1, vI v)] [] Mz (fun r M' => Inv M' ∧ FR (S_c_X11_text) Mz M' ∧ True) := by
  have hFz : FR (S_c_X11_text) Mz Mz := FR.self
  refine w_iload_n dX11_text_0 rfl 1 rfl ?_
  refine w_iconst (v := 0) dX11_text_1 (by decide) ?_
  refine w_iconst (v := 2) dX11_text_2 (by decide) ?_
  refine w_callS (as := [vI v, vI 0, vI 2]) (rest := []) (c_X11_within l G cy ad (d + 73) v 0 2 Mz hIz) kS_X11_within (by decide +kernel) (Nat.le_of_ble_eq_true rfl) m_494 rfl rfl (by decide) (Nat.le_of_ble_eq_true rfl) dX11_text_3 (fun r1_ M2_ q3_ => ?_)
  obtain ⟨rfl, h4_⟩ := q3_
  rcases h4_ with ⟨rfl, h4_⟩ | ⟨rfl, h4_⟩
  · simp only [li_0, li_2] at h4_
    refine w_if_ne (tgt := 15) dX11_text_6 (by decide) li_1 (fun h5_ => ?_) (fun h9 => (absurd h9 (by decide)))
    refine w_aload_n dX11_text_15 rfl 0 rfl ?_
    refine w_getR (c' := (4, 0, 0)) fl_RX11_35 rfl rfl ic_11 dX11_text_16 rfl ?_
    refine w_aload_n dX11_text_19 rfl 0 rfl ?_
    refine w_getR (c' := (10, 0, 0)) fl_RX11_10 rfl rfl ic_11 dX11_text_20 rfl ?_
    refine w_getR (c' := (5, 0, 0)) fl_RX11_192 rfl rfl (ic_10 (by decide)) dX11_text_23 rfl ?_
    refine w_iload_n dX11_text_26 rfl 1 rfl ?_
    refine w_callV (as := [vR (5, 0, 0), vI v]) (rest := []) (c_X4_read l G cy ad d v Mz hIz) kV_X4_read (by decide +kernel) (Nat.le_of_ble_eq_true rfl) m_681 rfl rfl rfl ic_4 rfl rfl (by decide) (Nat.le_of_ble_eq_true rfl) dX11_text_27 (fun r6_ M7_ q8_ => ?_)
    obtain ⟨hI10_, hF11_, h9_⟩ := q8_
    have hF12_ := hFz.tr hF11_ (fun c k => (fun h => h.elim (fun h => (Or.inl ⟨h.1, h.2.1, h.2.2⟩)) (fun h => h.elim (fun h => (Or.inr (Or.inl ⟨h.1, h.2.1, h.2.2⟩))) (fun h => h.elim (fun h => (Or.inr (Or.inr (Or.inl ⟨h.1, h.2.1, h.2.2⟩)))) (fun h => h.elim (fun h => (Or.inr (Or.inr (Or.inr (Or.inl ⟨h.1, h.2.1, h.2.2⟩))))) (fun h => h.elim (fun h => (Or.inr (Or.inr (Or.inr (Or.inr (Or.inl ⟨h.1, h.2.1, h.2.2⟩)))))) (fun h => h.elim (fun h => (Or.inr (Or.inr (Or.inr (Or.inr (Or.inr (Or.inl ⟨h.1, h.2.1, h.2.2⟩))))))) (fun h => h.elim (fun h => (Or.inr (Or.inr (Or.inr (Or.inr (Or.inr (Or.inr (Or.inl ⟨h.1, h.2.1, h.2.2.1, h.2.2.2⟩)))))))) (fun h => h.elim (fun h => (Or.inr (Or.inr (Or.inr (Or.inr (Or.inr (Or.inr (Or.inr (Or.inl ⟨h.1, h.2.1, h.2.2⟩))))))))) (fun h => h.elim))))))))))
    refine w_istore_n (ls' := [(2, vI r6_), (0, vR (11, 0, 0)), (1, vI v)]) dX11_text_30 rfl (by decide) rfl ?_
    refine w_iload_n dX11_text_31 rfl 0 rfl ?_
    refine w_if_lt (tgt := 57) dX11_text_32 (by decide) (rfl : r6_.toInt = r6_.toInt) (fun h13_ => ?_) (fun h13_ => ?_)
    · refine w_aload_n dX11_text_57 rfl 1 rfl ?_
      refine w_getR (c' := (10, 0, 0)) fl_RX11_10 rfl rfl ic_11 dX11_text_58 rfl ?_
      refine w_getR (c' := (5, 0, 0)) fl_RX11_192 rfl rfl (ic_10 (by decide)) dX11_text_61 rfl ?_
      refine w_callVv (as := []) (rest := []) (c_X5_clear l G cy ad (d + 73) 0 0 M7_ hI10_ (by first | decide | (unfold vF; omega) | (unfold vRw; omega))) kV_X5_clear (by decide +kernel) (Nat.le_of_ble_eq_true rfl) m_831 rfl rfl rfl (ic_5 (by unfold vRw; omega)) rfl rfl (by decide) (Nat.le_of_ble_eq_true rfl) dX11_text_64 (fun M14_ q15_ => ?_)
      obtain ⟨hI17_, hF18_, h16_⟩ := q15_
      have hF19_ := hF12_.tr hF18_ (fun c k => (fun h => h.elim (fun h => (Or.inr (Or.inr (Or.inr (Or.inr (Or.inr (Or.inr (Or.inr (Or.inr (Or.inl ⟨h.1, h.2.1, h.2.2.1, h.2.2.2⟩)))))))))) (fun h => h.elim)))
      refine w_iload_n dX11_text_67 rfl 0 rfl ?_
      exact w_iret rfl dX11_text_68 ⟨hI17_, hF19_, trivial⟩
    · refine w_aload_n dX11_text_35 rfl 1 rfl ?_
      refine w_getR (c' := (10, 0, 0)) fl_RX11_10 rfl rfl ic_11 dX11_text_36 rfl ?_
      refine w_getR (c' := (2, 0, 0)) fl_RX11_114 rfl rfl (ic_10 (by decide)) dX11_text_39 rfl ?_
      refine w_getR (c' := (28, 0, 0)) fl_RX11_210 rfl rfl (ic_2 (by decide)) dX11_text_42 rfl ?_
      refine w_iload_n dX11_text_45 rfl 2 rfl ?_
      refine w_aald rfl rfl rfl (fun _ => rfl) (ic_28 (by decide)) (rfl : v.toInt = v.toInt) (lf_c_X11_text_0 v h4_) dX11_text_46 (fun j20_ h21_ h22_ => ?_)
      have h23_ : vF 0 j20_ := Or.inl ⟨(by decide), h22_⟩
      refine w_aload_n dX11_text_47 rfl 1 rfl ?_
      refine w_getR (c' := (4, 0, 0)) fl_RX11_35 rfl rfl ic_11 dX11_text_48 rfl ?_
      refine w_getR (c' := (1, 3, 0)) fl_RX11_214 rfl rfl ic_4 dX11_text_51 rfl ?_
      refine w_callVv (as := [vR (1, 3, 0)]) (rest := []) (c_X1_takeFrom l G cy ad (d + 72) 0 j20_ 3 0 M7_ hI10_ h23_ (by first | decide | (unfold vF; omega) | (unfold vRw; omega))) kV_X1_takeFrom (by decide +kernel) (Nat.le_of_ble_eq_true rfl) m_824 rfl rfl rfl (ic_1 h23_) rfl rfl (by decide) (Nat.le_of_ble_eq_true rfl) dX11_text_54 (fun M24_ q25_ => ?_)
      obtain ⟨hI27_, hF28_, h26_⟩ := q25_
      have hF29_ := hF12_.tr hF28_ (fun c k => (fun h => h.elim (fun h => (Or.inr (Or.inr (Or.inr (Or.inr (Or.inr (Or.inr (Or.inr (Or.inr (Or.inr (Or.inl ⟨h.1, h.2.1, h.2.2.2⟩))))))))))) (fun h => h.elim (fun h => (Or.inr (Or.inr (Or.inr (Or.inr (Or.inr (Or.inr (Or.inr (Or.inr (Or.inr (Or.inr (Or.inl ⟨h.1, h.2.1⟩)))))))))))) (fun h => h.elim))))
      refine w_aload_n dX11_text_57 rfl 1 rfl ?_
      refine w_getR (c' := (10, 0, 0)) fl_RX11_10 rfl rfl ic_11 dX11_text_58 rfl ?_
      refine w_getR (c' := (5, 0, 0)) fl_RX11_192 rfl rfl (ic_10 (by decide)) dX11_text_61 rfl ?_
      refine w_callVv (as := []) (rest := []) (c_X5_clear l G cy ad (d + 73) 0 0 M24_ hI27_ (by first | decide | (unfold vF; omega) | (unfold vRw; omega))) kV_X5_clear (by decide +kernel) (Nat.le_of_ble_eq_true rfl) m_831 rfl rfl rfl (ic_5 (by unfold vRw; omega)) rfl rfl (by decide) (Nat.le_of_ble_eq_true rfl) dX11_text_64 (fun M30_ q31_ => ?_)
      obtain ⟨hI33_, hF34_, h32_⟩ := q31_
      have hF35_ := hF29_.tr hF34_ (fun c k => (fun h => h.elim (fun h => (Or.inr (Or.inr (Or.inr (Or.inr (Or.inr (Or.inr (Or.inr (Or.inr (Or.inl ⟨h.1, h.2.1, h.2.2.1, h.2.2.2⟩)))))))))) (fun h => h.elim)))
      refine w_iload_n dX11_text_67 rfl 0 rfl ?_
      exact w_iret rfl dX11_text_68 ⟨hI33_, hF35_, trivial⟩
  · simp only [li_0, li_2] at h4_
    refine w_if_ne (tgt := 15) dX11_text_6 (by decide) li_0 (fun h9 => (absurd h9 (by decide))) (fun h36_ => ?_)
    refine w_aload_n dX11_text_9 rfl 0 rfl ?_
    refine w_iconst (v := 1) dX11_text_10 (by decide) ?_
    refine w_callV (as := [vI 1]) (rest := []) (c_X11_error l G cy ad (d + 73) 1 Mz hIz) kV_X11_error (by decide +kernel) (Nat.le_of_ble_eq_true rfl) m_500 rfl rfl rfl ic_11 rfl rfl (by decide) (Nat.le_of_ble_eq_true rfl) dX11_text_11 (fun r37_ M38_ q39_ => ?_)
    obtain ⟨hI41_, hF42_, h40_⟩ := q39_
    have hF43_ := hFz.tr hF42_ (fun c k => (fun h => h.elim (fun h => (Or.inr (Or.inr (Or.inr (Or.inr (Or.inr (Or.inr (Or.inr (Or.inr (Or.inr (Or.inr (Or.inr (Or.inl ⟨h.1, h.2⟩))))))))))))) (fun h => h.elim)))
    exact w_iret rfl dX11_text_14 ⟨hI41_, hF43_, trivial⟩
