def S_c_X4_read : rf → Nat → Prop := fun c k => (c.1 = 4 ∧ c.2.1 = 0 ∧ k = 1) ∨ (c.1 = 4 ∧ c.2.1 = 0 ∧ k = 2) ∨ (c.1 = 4 ∧ c.2.1 = 0 ∧ k = 3) ∨ (c.1 = 4 ∧ c.2.1 = 0 ∧ k = 4) ∨ (c.1 = 4 ∧ c.2.1 = 0 ∧ k = 5) ∨ (c.1 = 4 ∧ c.2.1 = 0 ∧ k = 6) ∨ (c.1 = 1 ∧ c.2.1 = 3 ∧ c.2.2 = 0 ∧ k = 2) ∨ (c.1 = 24 ∧ c.2.1 = 3 ∧ c.2.2 = 0) ∨ False
def SP_X4_read (v : Int32) (Mz : mM) (r_ : Int32) (M_ : mM) : Prop := ∃ M1_ : mM, (M1_ = up Mz (4, 0, 0) 1 1) ∧ (((¬ v.toInt = 0) ∧ (((¬ v.toInt = 1) ∧ ∃ M8_ : mM, (M8_ = up M1_ (4, 0, 0) 2 3) ∧ ∃ M14_ : mM, (M14_ = up M8_ (4, 0, 0) 3 0) ∧ ∃ M20_ : mM, (M20_ = up M14_ (4, 0, 0) 4 (-1)) ∧ ∃ M26_ : mM, (M26_ = up M20_ (4, 0, 0) 5 0) ∧ ∃ M33_ : mM, (M33_ = up M26_ (4, 0, 0) 6 0) ∧ (Inv M33_) ∧ ∃ M40_ : mM, (Inv M40_) ∧ (FR (S_c_X1_clear 3 0) M33_ M40_) ∧ (SP_X1_clear 3 0 M33_ M40_) ∧ ∃ M50_ : mM, (Inv M50_) ∧ (FR (S_reader) M40_ M50_) ∧ ∃ M60_ : mM, (Inv M60_) ∧ (FR (S_c_X4_next) M50_ M60_) ∧ ∃ r59_ : Int32, (SP_X4_next M50_ r59_ M60_) ∧ (((r59_.toInt < 0) ∧ ∃ z70_ : Int32, (z70_ = M60_.1 (4, 0, 0) 4) ∧ (((0 ≤ z70_.toInt) ∧ ∃ z75_ : Int32, (z75_ = ((-10) : Int32) - z70_) ∧ r_ = z75_ ∧ M_ = M60_) ∨ ((z70_.toInt < 0) ∧ ∃ z77_ : Int32, (z77_ = M60_.1 (4, 0, 0) 6) ∧ r_ = z77_ ∧ M_ = M60_))) ∨ ((0 ≤ r59_.toInt) ∧ ∃ M79_ : mM, (Inv M79_) ∧ (FR (S_c_X4_fail) M60_ M79_) ∧ (SP_X4_fail M60_ M79_) ∧ ∃ z88_ : Int32, (z88_ = M79_.1 (4, 0, 0) 4) ∧ (((0 ≤ z88_.toInt) ∧ ∃ z93_ : Int32, (z93_ = ((-10) : Int32) - z88_) ∧ r_ = z93_ ∧ M_ = M79_) ∨ ((z88_.toInt < 0) ∧ ∃ z95_ : Int32, (z95_ = M79_.1 (4, 0, 0) 6) ∧ r_ = z95_ ∧ M_ = M79_))))) ∨ ((v.toInt = 1) ∧ ∃ M97_ : mM, (M97_ = up M1_ (4, 0, 0) 2 2) ∧ ∃ M103_ : mM, (M103_ = up M97_ (4, 0, 0) 3 0) ∧ ∃ M109_ : mM, (M109_ = up M103_ (4, 0, 0) 4 (-1)) ∧ ∃ M115_ : mM, (M115_ = up M109_ (4, 0, 0) 5 0) ∧ ∃ M122_ : mM, (M122_ = up M115_ (4, 0, 0) 6 0) ∧ (Inv M122_) ∧ ∃ M129_ : mM, (Inv M129_) ∧ (FR (S_c_X1_clear 3 0) M122_ M129_) ∧ (SP_X1_clear 3 0 M122_ M129_) ∧ ∃ M139_ : mM, (Inv M139_) ∧ (FR (S_reader) M129_ M139_) ∧ ∃ M149_ : mM, (Inv M149_) ∧ (FR (S_c_X4_next) M139_ M149_) ∧ ∃ r148_ : Int32, (SP_X4_next M139_ r148_ M149_) ∧ (((r148_.toInt < 0) ∧ ∃ z159_ : Int32, (z159_ = M149_.1 (4, 0, 0) 4) ∧ (((0 ≤ z159_.toInt) ∧ ∃ z164_ : Int32, (z164_ = ((-10) : Int32) - z159_) ∧ r_ = z164_ ∧ M_ = M149_) ∨ ((z159_.toInt < 0) ∧ ∃ z166_ : Int32, (z166_ = M149_.1 (4, 0, 0) 6) ∧ r_ = z166_ ∧ M_ = M149_))) ∨ ((0 ≤ r148_.toInt) ∧ ∃ M168_ : mM, (Inv M168_) ∧ (FR (S_c_X4_fail) M149_ M168_) ∧ (SP_X4_fail M149_ M168_) ∧ ∃ z177_ : Int32, (z177_ = M168_.1 (4, 0, 0) 4) ∧ (((0 ≤ z177_.toInt) ∧ ∃ z182_ : Int32, (z182_ = ((-10) : Int32) - z177_) ∧ r_ = z182_ ∧ M_ = M168_) ∨ ((z177_.toInt < 0) ∧ ∃ z184_ : Int32, (z184_ = M168_.1 (4, 0, 0) 6) ∧ r_ = z184_ ∧ M_ = M168_))))))) ∨ ((v.toInt = 0) ∧ ∃ M186_ : mM, (M186_ = up M1_ (4, 0, 0) 2 1) ∧ ∃ M192_ : mM, (M192_ = up M186_ (4, 0, 0) 3 0) ∧ ∃ M198_ : mM, (M198_ = up M192_ (4, 0, 0) 4 (-1)) ∧ ∃ M204_ : mM, (M204_ = up M198_ (4, 0, 0) 5 0) ∧ ∃ M211_ : mM, (M211_ = up M204_ (4, 0, 0) 6 0) ∧ (Inv M211_) ∧ ∃ M218_ : mM, (Inv M218_) ∧ (FR (S_c_X1_clear 3 0) M211_ M218_) ∧ (SP_X1_clear 3 0 M211_ M218_) ∧ ∃ M228_ : mM, (Inv M228_) ∧ (FR (S_reader) M218_ M228_) ∧ ∃ M238_ : mM, (Inv M238_) ∧ (FR (S_c_X4_next) M228_ M238_) ∧ ∃ r237_ : Int32, (SP_X4_next M228_ r237_ M238_) ∧ (((r237_.toInt < 0) ∧ ∃ z248_ : Int32, (z248_ = M238_.1 (4, 0, 0) 4) ∧ (((0 ≤ z248_.toInt) ∧ ∃ z253_ : Int32, (z253_ = ((-10) : Int32) - z248_) ∧ r_ = z253_ ∧ M_ = M238_) ∨ ((z248_.toInt < 0) ∧ ∃ z255_ : Int32, (z255_ = M238_.1 (4, 0, 0) 6) ∧ r_ = z255_ ∧ M_ = M238_))) ∨ ((0 ≤ r237_.toInt) ∧ ∃ M257_ : mM, (Inv M257_) ∧ (FR (S_c_X4_fail) M238_ M257_) ∧ (SP_X4_fail M238_ M257_) ∧ ∃ z266_ : Int32, (z266_ = M257_.1 (4, 0, 0) 4) ∧ (((0 ≤ z266_.toInt) ∧ ∃ z271_ : Int32, (z271_ = ((-10) : Int32) - z266_) ∧ r_ = z271_ ∧ M_ = M257_) ∨ ((z266_.toInt < 0) ∧ ∃ z273_ : Int32, (z273_ = M257_.1 (4, 0, 0) 6) ∧ r_ = z273_ ∧ M_ = M257_))))))
theorem lf_c_X4_read_0    : (0 : Int32).toInt = 0 := by have q0 := li_0; omega
theorem lf_c_X4_read_1    : (0 : Int32).toInt = 0 := by have q0 := li_0; omega
theorem lf_c_X4_read_2    : (0 : Int32).toInt = 0 := by have q0 := li_0; omega
set_option maxHeartbeats 4000000 in
set_option maxRecDepth 100000 in
theorem c_X4_read (l : Launch) (G : va_G) (cy : Nat → ClassId) (ad : rf → Nat) (d : Nat) (v : Int32) (Mz : mM) (hIz : Inv Mz) : WP CC l G cy ad yX4_read cX4_read 3 (some .int) (d + 73) 0 [(0, vR (4, 0, 0)), (1, vR (5, 0, 0)), (2, vI v)] [] Mz (fun r M' => Inv M' ∧ FR (S_c_X4_read) Mz M' ∧ (True) ∧ SP_X4_read v Mz r M') := by
  have hFz : FR (S_c_X4_read) Mz Mz := FR.self
  refine w_aload_n dX4_read_0 rfl 0 rfl ?_
  refine w_aload_n dX4_read_1 rfl 1 rfl ?_
  refine w_putD 1 CC_nd fl_RX4_21 rfl rfl ic_4 rfl rfl rfl dX4_read_2 (fun M1_ hM2_ => ?_)
  have hI3_ := hIz.put hM2_ trivial
  have hF4_ := hFz.put hM2_ (Or.inl ⟨rfl, rfl, rfl⟩)
  have kf5_ : M1_.1 (4, 0, 0) 1 = 1 := by rw [hM2_, up_same]
  refine w_aload_n dX4_read_5 rfl 0 rfl ?_
  refine w_iload_n dX4_read_6 rfl 2 rfl ?_
  refine w_if_ne (tgt := 15) dX4_read_7 (by decide) (rfl : v.toInt = v.toInt) (fun h6_ => ?_) (fun h6_ => ?_)
  · refine w_iload_n dX4_read_15 rfl 2 rfl ?_
    refine w_iconst (v := 1) dX4_read_16 (by decide) ?_
    refine w_icmp_ne (tgt := 25) dX4_read_17 (by decide) (rfl : v.toInt = v.toInt) li_1 (fun h7_ => ?_) (fun h7_ => ?_)
    · refine w_ldcS (k := 3) rfl dX4_read_25 ?_
      refine w_putD 3 CC_nd fl_RX4_27 rfl rfl ic_4 rfl rfl rfl dX4_read_27 (fun M8_ hM9_ => ?_)
      have hI10_ := hI3_.put hM9_ trivial
      have hF11_ := hF4_.put hM9_ (Or.inr (Or.inl ⟨rfl, rfl, rfl⟩))
      have kf12_ : M8_.1 (4, 0, 0) 1 = 1 := by rw [(show M8_.1 (4, 0, 0) 1 = M1_.1 (4, 0, 0) 1 by rw [hM9_, up_ne (by simp)])]; exact kf5_
      have kf13_ : M8_.1 (4, 0, 0) 2 = 1 ∨ M8_.1 (4, 0, 0) 2 = 2 ∨ M8_.1 (4, 0, 0) 2 = 3 := by rw [hM9_, up_same]; decide
      refine w_aload_n dX4_read_30 rfl 0 rfl ?_
      refine w_iconst (v := 0) dX4_read_31 (by decide) ?_
      refine w_putI CC_nd fl_RX4_31 rfl rfl ic_4 dX4_read_32 (fun M14_ hM15_ => ?_)
      have hI16_ := hI10_.put hM15_ trivial
      have hF17_ := hF11_.put hM15_ (Or.inr (Or.inr (Or.inl ⟨rfl, rfl, rfl⟩)))
      have kf18_ : M14_.1 (4, 0, 0) 1 = 1 := by rw [(show M14_.1 (4, 0, 0) 1 = M8_.1 (4, 0, 0) 1 by rw [hM15_, up_ne (by simp)])]; exact kf12_
      have kf19_ : M14_.1 (4, 0, 0) 2 = 1 ∨ M14_.1 (4, 0, 0) 2 = 2 ∨ M14_.1 (4, 0, 0) 2 = 3 := by rw [(show M14_.1 (4, 0, 0) 2 = M8_.1 (4, 0, 0) 2 by rw [hM15_, up_ne (by simp)])]; exact kf13_
      refine w_aload_n dX4_read_35 rfl 0 rfl ?_
      refine w_iconst (v := (-1)) dX4_read_36 (by decide) ?_
      refine w_putI CC_nd fl_RX4_35 rfl rfl ic_4 dX4_read_37 (fun M20_ hM21_ => ?_)
      have hI22_ := hI16_.put hM21_ trivial
      have hF23_ := hF17_.put hM21_ (Or.inr (Or.inr (Or.inr (Or.inl ⟨rfl, rfl, rfl⟩))))
      have kf24_ : M20_.1 (4, 0, 0) 1 = 1 := by rw [(show M20_.1 (4, 0, 0) 1 = M14_.1 (4, 0, 0) 1 by rw [hM21_, up_ne (by simp)])]; exact kf18_
      have kf25_ : M20_.1 (4, 0, 0) 2 = 1 ∨ M20_.1 (4, 0, 0) 2 = 2 ∨ M20_.1 (4, 0, 0) 2 = 3 := by rw [(show M20_.1 (4, 0, 0) 2 = M14_.1 (4, 0, 0) 2 by rw [hM21_, up_ne (by simp)])]; exact kf19_
      refine w_aload_n dX4_read_40 rfl 0 rfl ?_
      refine w_iconst (v := 0) dX4_read_41 (by decide) ?_
      refine w_putI CC_nd fl_RX4_38 rfl rfl ic_4 dX4_read_42 (fun M26_ hM27_ => ?_)
      have hI28_ := hI22_.put hM27_ trivial
      have hF29_ := hF23_.put hM27_ (Or.inr (Or.inr (Or.inr (Or.inr (Or.inl ⟨rfl, rfl, rfl⟩)))))
      have kf30_ : M26_.1 (4, 0, 0) 1 = 1 := by rw [(show M26_.1 (4, 0, 0) 1 = M20_.1 (4, 0, 0) 1 by rw [hM27_, up_ne (by simp)])]; exact kf24_
      have kf31_ : M26_.1 (4, 0, 0) 2 = 1 ∨ M26_.1 (4, 0, 0) 2 = 2 ∨ M26_.1 (4, 0, 0) 2 = 3 := by rw [(show M26_.1 (4, 0, 0) 2 = M20_.1 (4, 0, 0) 2 by rw [hM27_, up_ne (by simp)])]; exact kf25_
      have kf32_ : (M26_.1 (4, 0, 0) 5).toInt = 0 := by rw [hM27_, up_same]; exact (lf_c_X4_read_0 )
      refine w_aload_n dX4_read_45 rfl 0 rfl ?_
      refine w_iconst (v := 0) dX4_read_46 (by decide) ?_
      refine w_putI CC_nd fl_RX4_41 rfl rfl ic_4 dX4_read_47 (fun M33_ hM34_ => ?_)
      have hI35_ := hI28_.put hM34_ trivial
      have hF36_ := hF29_.put hM34_ (Or.inr (Or.inr (Or.inr (Or.inr (Or.inr (Or.inl ⟨rfl, rfl, rfl⟩))))))
      have kf37_ : M33_.1 (4, 0, 0) 1 = 1 := by rw [(show M33_.1 (4, 0, 0) 1 = M26_.1 (4, 0, 0) 1 by rw [hM34_, up_ne (by simp)])]; exact kf30_
      have kf38_ : M33_.1 (4, 0, 0) 2 = 1 ∨ M33_.1 (4, 0, 0) 2 = 2 ∨ M33_.1 (4, 0, 0) 2 = 3 := by rw [(show M33_.1 (4, 0, 0) 2 = M26_.1 (4, 0, 0) 2 by rw [hM34_, up_ne (by simp)])]; exact kf31_
      have kf39_ : (M33_.1 (4, 0, 0) 5).toInt = 0 := by rw [(show M33_.1 (4, 0, 0) 5 = M26_.1 (4, 0, 0) 5 by rw [hM34_, up_ne (by simp)])]; exact kf32_
      refine w_aload_n dX4_read_50 rfl 0 rfl ?_
      refine w_getR (c' := (1, 3, 0)) fl_RX4_10 rfl rfl ic_4 dX4_read_51 rfl ?_
      refine w_callVv (as := []) (rest := []) (c_X1_clear l G cy ad (d + 72) 3 0 M33_ hI35_ (by first | decide | (unfold vF; omega) | (unfold vRw; omega))) kV_X1_clear (by decide +kernel) (Nat.le_of_ble_eq_true rfl) m_688 rfl rfl rfl (ic_1 (by unfold vF; omega)) rfl rfl (by decide) (Nat.le_of_ble_eq_true rfl) dX4_read_54 (fun M40_ q41_ => ?_)
      obtain ⟨hI43_, hF44_, h42_, hs46_⟩ := q41_
      have hF45_ := hF36_.tr hF44_ (fun c k => (fun h => h.elim (fun h => (Or.inr (Or.inr (Or.inr (Or.inr (Or.inr (Or.inr (Or.inl ⟨h.1, h.2.1, h.2.2.1, h.2.2.2⟩)))))))) (fun h => h.elim)))
      have kf47_ : M40_.1 (4, 0, 0) 1 = 1 := by rw [(hF44_ (4, 0, 0) 1 (by simp [S_c_X1_clear]))]; exact kf37_
      have kf48_ : M40_.1 (4, 0, 0) 2 = 1 ∨ M40_.1 (4, 0, 0) 2 = 2 ∨ M40_.1 (4, 0, 0) 2 = 3 := by rw [(hF44_ (4, 0, 0) 2 (by simp [S_c_X1_clear]))]; exact kf38_
      have kf49_ : (M40_.1 (4, 0, 0) 5).toInt = 0 := by rw [(hF44_ (4, 0, 0) 5 (by simp [S_c_X1_clear]))]; exact kf39_
      refine w_aload_n dX4_read_57 rfl 0 rfl ?_
      refine w_callVv (as := []) (rest := []) (c_X4_cmp5 l G cy ad d M40_ hI43_ kf47_ kf48_ kf49_) kV_X4_readComparisons (by decide +kernel) (Nat.le_of_ble_eq_true rfl) m_692 rfl rfl rfl ic_4 rfl rfl (by decide) (Nat.le_of_ble_eq_true rfl) dX4_read_58 (fun M50_ q51_ => ?_)
      obtain ⟨hI53_, hF54_, h52_⟩ := q51_
      have hF55_ := hF45_.tr hF54_ (fun c k => (fun h => h.elim (fun h => (Or.inr (Or.inr (Or.inl ⟨h.1, h.2.1, h.2.2⟩)))) (fun h => h.elim (fun h => (Or.inr (Or.inr (Or.inr (Or.inl ⟨h.1, h.2.1, h.2.2⟩))))) (fun h => h.elim (fun h => (Or.inr (Or.inr (Or.inr (Or.inr (Or.inl ⟨h.1, h.2.1, h.2.2⟩)))))) (fun h => h.elim (fun h => (Or.inr (Or.inr (Or.inr (Or.inr (Or.inr (Or.inl ⟨h.1, h.2.1, h.2.2⟩))))))) (fun h => h.elim (fun h => (Or.inr (Or.inr (Or.inr (Or.inr (Or.inr (Or.inr (Or.inl ⟨h.1, h.2.1, h.2.2.1, h.2.2.2⟩)))))))) (fun h => h.elim (fun h => (Or.inr (Or.inr (Or.inr (Or.inr (Or.inr (Or.inr (Or.inr (Or.inl ⟨h.1, h.2.1, h.2.2⟩))))))))) (fun h => h.elim))))))))
      have kf57_ : M50_.1 (4, 0, 0) 1 = 1 := by rw [(hF54_ (4, 0, 0) 1 (by simp [S_reader]))]; exact kf47_
      have kf58_ : M50_.1 (4, 0, 0) 2 = 1 ∨ M50_.1 (4, 0, 0) 2 = 2 ∨ M50_.1 (4, 0, 0) 2 = 3 := by rw [(hF54_ (4, 0, 0) 2 (by simp [S_reader]))]; exact kf48_
      refine w_aload_n dX4_read_61 rfl 0 rfl ?_
      refine w_callV (as := []) (rest := []) (c_X4_next l G cy ad (d + 71) M50_ hI53_ kf57_) kV_X4_next (by decide +kernel) (Nat.le_of_ble_eq_true rfl) m_708 rfl rfl rfl ic_4 rfl rfl (by decide) (Nat.le_of_ble_eq_true rfl) dX4_read_62 (fun r59_ M60_ q61_ => ?_)
      obtain ⟨hI63_, hF64_, h62_, hs66_⟩ := q61_
      have hF65_ := hF55_.tr hF64_ (fun c k => (fun h => h.elim (fun h => (Or.inr (Or.inr (Or.inl ⟨h.1, h.2.1, h.2.2⟩)))) (fun h => h.elim)))
      have kf67_ : M60_.1 (4, 0, 0) 1 = 1 := by rw [(hF64_ (4, 0, 0) 1 (by simp [S_c_X4_next]))]; exact kf57_
      have kf68_ : M60_.1 (4, 0, 0) 2 = 1 ∨ M60_.1 (4, 0, 0) 2 = 2 ∨ M60_.1 (4, 0, 0) 2 = 3 := by rw [(hF64_ (4, 0, 0) 2 (by simp [S_c_X4_next]))]; exact kf58_
      refine w_if_lt (tgt := 72) dX4_read_65 (by decide) (rfl : r59_.toInt = r59_.toInt) (fun h69_ => ?_) (fun h69_ => ?_)
      · refine w_aload_n dX4_read_72 rfl 0 rfl ?_
        refine w_getI fl_RX4_35 rfl rfl ic_4 dX4_read_73 (fun z70_ e71_ => ?_)
        refine w_if_ge (tgt := 86) dX4_read_76 (by decide) (rfl : z70_.toInt = z70_.toInt) (fun h72_ => ?_) (fun h72_ => ?_)
        · refine w_bipush (v := (-10)) dX4_read_86 (by decide) ?_
          refine w_aload_n dX4_read_88 rfl 0 rfl ?_
          refine w_getI fl_RX4_35 rfl rfl ic_4 dX4_read_89 (fun z73_ e74_ => ?_)
          obtain rfl : z70_ = z73_ := e71_.trans e74_.symm
          refine w_isub dX4_read_92 (fun z75_ h76_ => ?_)
          exact w_iret rfl dX4_read_93 ⟨hI63_, hF65_, trivial, ⟨M1_, hM2_, (Or.inl ⟨h6_, (Or.inl ⟨h7_, M8_, hM9_, M14_, hM15_, M20_, hM21_, M26_, hM27_, M33_, hM34_, hI35_, M40_, hI43_, hF44_, hs46_, M50_, hI53_, hF54_, M60_, hI63_, hF64_, r59_, hs66_, (Or.inl ⟨h69_, z70_, e71_, (Or.inl ⟨h72_, z75_, h76_, rfl, rfl⟩)⟩)⟩)⟩)⟩⟩
        · refine w_aload_n dX4_read_79 rfl 0 rfl ?_
          refine w_getI fl_RX4_41 rfl rfl ic_4 dX4_read_80 (fun z77_ e78_ => ?_)
          refine w_goto (tgt := 93) dX4_read_83 (by decide) ?_
          exact w_iret rfl dX4_read_93 ⟨hI63_, hF65_, trivial, ⟨M1_, hM2_, (Or.inl ⟨h6_, (Or.inl ⟨h7_, M8_, hM9_, M14_, hM15_, M20_, hM21_, M26_, hM27_, M33_, hM34_, hI35_, M40_, hI43_, hF44_, hs46_, M50_, hI53_, hF54_, M60_, hI63_, hF64_, r59_, hs66_, (Or.inl ⟨h69_, z70_, e71_, (Or.inr ⟨h72_, z77_, e78_, rfl, rfl⟩)⟩)⟩)⟩)⟩⟩
      · refine w_aload_n dX4_read_68 rfl 0 rfl ?_
        refine w_callVv (as := []) (rest := []) (c_X4_fail l G cy ad (d + 72) M60_ hI63_) kV_X4_fail (by decide +kernel) (Nat.le_of_ble_eq_true rfl) m_728 rfl rfl rfl ic_4 rfl rfl (by decide) (Nat.le_of_ble_eq_true rfl) dX4_read_69 (fun M79_ q80_ => ?_)
        obtain ⟨hI82_, hF83_, h81_, hs85_⟩ := q80_
        have hF84_ := hF65_.tr hF83_ (fun c k => (fun h => h.elim (fun h => (Or.inr (Or.inr (Or.inr (Or.inl ⟨h.1, h.2.1, h.2.2⟩))))) (fun h => h.elim)))
        have kf86_ : M79_.1 (4, 0, 0) 1 = 1 := by rw [(hF83_ (4, 0, 0) 1 (by simp [S_c_X4_fail]))]; exact kf67_
        have kf87_ : M79_.1 (4, 0, 0) 2 = 1 ∨ M79_.1 (4, 0, 0) 2 = 2 ∨ M79_.1 (4, 0, 0) 2 = 3 := by rw [(hF83_ (4, 0, 0) 2 (by simp [S_c_X4_fail]))]; exact kf68_
        refine w_aload_n dX4_read_72 rfl 0 rfl ?_
        refine w_getI fl_RX4_35 rfl rfl ic_4 dX4_read_73 (fun z88_ e89_ => ?_)
        refine w_if_ge (tgt := 86) dX4_read_76 (by decide) (rfl : z88_.toInt = z88_.toInt) (fun h90_ => ?_) (fun h90_ => ?_)
        · refine w_bipush (v := (-10)) dX4_read_86 (by decide) ?_
          refine w_aload_n dX4_read_88 rfl 0 rfl ?_
          refine w_getI fl_RX4_35 rfl rfl ic_4 dX4_read_89 (fun z91_ e92_ => ?_)
          obtain rfl : z88_ = z91_ := e89_.trans e92_.symm
          refine w_isub dX4_read_92 (fun z93_ h94_ => ?_)
          exact w_iret rfl dX4_read_93 ⟨hI82_, hF84_, trivial, ⟨M1_, hM2_, (Or.inl ⟨h6_, (Or.inl ⟨h7_, M8_, hM9_, M14_, hM15_, M20_, hM21_, M26_, hM27_, M33_, hM34_, hI35_, M40_, hI43_, hF44_, hs46_, M50_, hI53_, hF54_, M60_, hI63_, hF64_, r59_, hs66_, (Or.inr ⟨h69_, M79_, hI82_, hF83_, hs85_, z88_, e89_, (Or.inl ⟨h90_, z93_, h94_, rfl, rfl⟩)⟩)⟩)⟩)⟩⟩
        · refine w_aload_n dX4_read_79 rfl 0 rfl ?_
          refine w_getI fl_RX4_41 rfl rfl ic_4 dX4_read_80 (fun z95_ e96_ => ?_)
          refine w_goto (tgt := 93) dX4_read_83 (by decide) ?_
          exact w_iret rfl dX4_read_93 ⟨hI82_, hF84_, trivial, ⟨M1_, hM2_, (Or.inl ⟨h6_, (Or.inl ⟨h7_, M8_, hM9_, M14_, hM15_, M20_, hM21_, M26_, hM27_, M33_, hM34_, hI35_, M40_, hI43_, hF44_, hs46_, M50_, hI53_, hF54_, M60_, hI63_, hF64_, r59_, hs66_, (Or.inr ⟨h69_, M79_, hI82_, hF83_, hs85_, z88_, e89_, (Or.inr ⟨h90_, z95_, e96_, rfl, rfl⟩)⟩)⟩)⟩)⟩⟩
    · refine w_ldcS (k := 2) rfl dX4_read_20 ?_
      refine w_goto (tgt := 27) dX4_read_22 (by decide) ?_
      refine w_putD 2 CC_nd fl_RX4_27 rfl rfl ic_4 rfl rfl rfl dX4_read_27 (fun M97_ hM98_ => ?_)
      have hI99_ := hI3_.put hM98_ trivial
      have hF100_ := hF4_.put hM98_ (Or.inr (Or.inl ⟨rfl, rfl, rfl⟩))
      have kf101_ : M97_.1 (4, 0, 0) 1 = 1 := by rw [(show M97_.1 (4, 0, 0) 1 = M1_.1 (4, 0, 0) 1 by rw [hM98_, up_ne (by simp)])]; exact kf5_
      have kf102_ : M97_.1 (4, 0, 0) 2 = 1 ∨ M97_.1 (4, 0, 0) 2 = 2 ∨ M97_.1 (4, 0, 0) 2 = 3 := by rw [hM98_, up_same]; decide
      refine w_aload_n dX4_read_30 rfl 0 rfl ?_
      refine w_iconst (v := 0) dX4_read_31 (by decide) ?_
      refine w_putI CC_nd fl_RX4_31 rfl rfl ic_4 dX4_read_32 (fun M103_ hM104_ => ?_)
      have hI105_ := hI99_.put hM104_ trivial
      have hF106_ := hF100_.put hM104_ (Or.inr (Or.inr (Or.inl ⟨rfl, rfl, rfl⟩)))
      have kf107_ : M103_.1 (4, 0, 0) 1 = 1 := by rw [(show M103_.1 (4, 0, 0) 1 = M97_.1 (4, 0, 0) 1 by rw [hM104_, up_ne (by simp)])]; exact kf101_
      have kf108_ : M103_.1 (4, 0, 0) 2 = 1 ∨ M103_.1 (4, 0, 0) 2 = 2 ∨ M103_.1 (4, 0, 0) 2 = 3 := by rw [(show M103_.1 (4, 0, 0) 2 = M97_.1 (4, 0, 0) 2 by rw [hM104_, up_ne (by simp)])]; exact kf102_
      refine w_aload_n dX4_read_35 rfl 0 rfl ?_
      refine w_iconst (v := (-1)) dX4_read_36 (by decide) ?_
      refine w_putI CC_nd fl_RX4_35 rfl rfl ic_4 dX4_read_37 (fun M109_ hM110_ => ?_)
      have hI111_ := hI105_.put hM110_ trivial
      have hF112_ := hF106_.put hM110_ (Or.inr (Or.inr (Or.inr (Or.inl ⟨rfl, rfl, rfl⟩))))
      have kf113_ : M109_.1 (4, 0, 0) 1 = 1 := by rw [(show M109_.1 (4, 0, 0) 1 = M103_.1 (4, 0, 0) 1 by rw [hM110_, up_ne (by simp)])]; exact kf107_
      have kf114_ : M109_.1 (4, 0, 0) 2 = 1 ∨ M109_.1 (4, 0, 0) 2 = 2 ∨ M109_.1 (4, 0, 0) 2 = 3 := by rw [(show M109_.1 (4, 0, 0) 2 = M103_.1 (4, 0, 0) 2 by rw [hM110_, up_ne (by simp)])]; exact kf108_
      refine w_aload_n dX4_read_40 rfl 0 rfl ?_
      refine w_iconst (v := 0) dX4_read_41 (by decide) ?_
      refine w_putI CC_nd fl_RX4_38 rfl rfl ic_4 dX4_read_42 (fun M115_ hM116_ => ?_)
      have hI117_ := hI111_.put hM116_ trivial
      have hF118_ := hF112_.put hM116_ (Or.inr (Or.inr (Or.inr (Or.inr (Or.inl ⟨rfl, rfl, rfl⟩)))))
      have kf119_ : M115_.1 (4, 0, 0) 1 = 1 := by rw [(show M115_.1 (4, 0, 0) 1 = M109_.1 (4, 0, 0) 1 by rw [hM116_, up_ne (by simp)])]; exact kf113_
      have kf120_ : M115_.1 (4, 0, 0) 2 = 1 ∨ M115_.1 (4, 0, 0) 2 = 2 ∨ M115_.1 (4, 0, 0) 2 = 3 := by rw [(show M115_.1 (4, 0, 0) 2 = M109_.1 (4, 0, 0) 2 by rw [hM116_, up_ne (by simp)])]; exact kf114_
      have kf121_ : (M115_.1 (4, 0, 0) 5).toInt = 0 := by rw [hM116_, up_same]; exact (lf_c_X4_read_1 )
      refine w_aload_n dX4_read_45 rfl 0 rfl ?_
      refine w_iconst (v := 0) dX4_read_46 (by decide) ?_
      refine w_putI CC_nd fl_RX4_41 rfl rfl ic_4 dX4_read_47 (fun M122_ hM123_ => ?_)
      have hI124_ := hI117_.put hM123_ trivial
      have hF125_ := hF118_.put hM123_ (Or.inr (Or.inr (Or.inr (Or.inr (Or.inr (Or.inl ⟨rfl, rfl, rfl⟩))))))
      have kf126_ : M122_.1 (4, 0, 0) 1 = 1 := by rw [(show M122_.1 (4, 0, 0) 1 = M115_.1 (4, 0, 0) 1 by rw [hM123_, up_ne (by simp)])]; exact kf119_
      have kf127_ : M122_.1 (4, 0, 0) 2 = 1 ∨ M122_.1 (4, 0, 0) 2 = 2 ∨ M122_.1 (4, 0, 0) 2 = 3 := by rw [(show M122_.1 (4, 0, 0) 2 = M115_.1 (4, 0, 0) 2 by rw [hM123_, up_ne (by simp)])]; exact kf120_
      have kf128_ : (M122_.1 (4, 0, 0) 5).toInt = 0 := by rw [(show M122_.1 (4, 0, 0) 5 = M115_.1 (4, 0, 0) 5 by rw [hM123_, up_ne (by simp)])]; exact kf121_
      refine w_aload_n dX4_read_50 rfl 0 rfl ?_
      refine w_getR (c' := (1, 3, 0)) fl_RX4_10 rfl rfl ic_4 dX4_read_51 rfl ?_
      refine w_callVv (as := []) (rest := []) (c_X1_clear l G cy ad (d + 72) 3 0 M122_ hI124_ (by first | decide | (unfold vF; omega) | (unfold vRw; omega))) kV_X1_clear (by decide +kernel) (Nat.le_of_ble_eq_true rfl) m_688 rfl rfl rfl (ic_1 (by unfold vF; omega)) rfl rfl (by decide) (Nat.le_of_ble_eq_true rfl) dX4_read_54 (fun M129_ q130_ => ?_)
      obtain ⟨hI132_, hF133_, h131_, hs135_⟩ := q130_
      have hF134_ := hF125_.tr hF133_ (fun c k => (fun h => h.elim (fun h => (Or.inr (Or.inr (Or.inr (Or.inr (Or.inr (Or.inr (Or.inl ⟨h.1, h.2.1, h.2.2.1, h.2.2.2⟩)))))))) (fun h => h.elim)))
      have kf136_ : M129_.1 (4, 0, 0) 1 = 1 := by rw [(hF133_ (4, 0, 0) 1 (by simp [S_c_X1_clear]))]; exact kf126_
      have kf137_ : M129_.1 (4, 0, 0) 2 = 1 ∨ M129_.1 (4, 0, 0) 2 = 2 ∨ M129_.1 (4, 0, 0) 2 = 3 := by rw [(hF133_ (4, 0, 0) 2 (by simp [S_c_X1_clear]))]; exact kf127_
      have kf138_ : (M129_.1 (4, 0, 0) 5).toInt = 0 := by rw [(hF133_ (4, 0, 0) 5 (by simp [S_c_X1_clear]))]; exact kf128_
      refine w_aload_n dX4_read_57 rfl 0 rfl ?_
      refine w_callVv (as := []) (rest := []) (c_X4_cmp5 l G cy ad d M129_ hI132_ kf136_ kf137_ kf138_) kV_X4_readComparisons (by decide +kernel) (Nat.le_of_ble_eq_true rfl) m_692 rfl rfl rfl ic_4 rfl rfl (by decide) (Nat.le_of_ble_eq_true rfl) dX4_read_58 (fun M139_ q140_ => ?_)
      obtain ⟨hI142_, hF143_, h141_⟩ := q140_
      have hF144_ := hF134_.tr hF143_ (fun c k => (fun h => h.elim (fun h => (Or.inr (Or.inr (Or.inl ⟨h.1, h.2.1, h.2.2⟩)))) (fun h => h.elim (fun h => (Or.inr (Or.inr (Or.inr (Or.inl ⟨h.1, h.2.1, h.2.2⟩))))) (fun h => h.elim (fun h => (Or.inr (Or.inr (Or.inr (Or.inr (Or.inl ⟨h.1, h.2.1, h.2.2⟩)))))) (fun h => h.elim (fun h => (Or.inr (Or.inr (Or.inr (Or.inr (Or.inr (Or.inl ⟨h.1, h.2.1, h.2.2⟩))))))) (fun h => h.elim (fun h => (Or.inr (Or.inr (Or.inr (Or.inr (Or.inr (Or.inr (Or.inl ⟨h.1, h.2.1, h.2.2.1, h.2.2.2⟩)))))))) (fun h => h.elim (fun h => (Or.inr (Or.inr (Or.inr (Or.inr (Or.inr (Or.inr (Or.inr (Or.inl ⟨h.1, h.2.1, h.2.2⟩))))))))) (fun h => h.elim))))))))
      have kf146_ : M139_.1 (4, 0, 0) 1 = 1 := by rw [(hF143_ (4, 0, 0) 1 (by simp [S_reader]))]; exact kf136_
      have kf147_ : M139_.1 (4, 0, 0) 2 = 1 ∨ M139_.1 (4, 0, 0) 2 = 2 ∨ M139_.1 (4, 0, 0) 2 = 3 := by rw [(hF143_ (4, 0, 0) 2 (by simp [S_reader]))]; exact kf137_
      refine w_aload_n dX4_read_61 rfl 0 rfl ?_
      refine w_callV (as := []) (rest := []) (c_X4_next l G cy ad (d + 71) M139_ hI142_ kf146_) kV_X4_next (by decide +kernel) (Nat.le_of_ble_eq_true rfl) m_708 rfl rfl rfl ic_4 rfl rfl (by decide) (Nat.le_of_ble_eq_true rfl) dX4_read_62 (fun r148_ M149_ q150_ => ?_)
      obtain ⟨hI152_, hF153_, h151_, hs155_⟩ := q150_
      have hF154_ := hF144_.tr hF153_ (fun c k => (fun h => h.elim (fun h => (Or.inr (Or.inr (Or.inl ⟨h.1, h.2.1, h.2.2⟩)))) (fun h => h.elim)))
      have kf156_ : M149_.1 (4, 0, 0) 1 = 1 := by rw [(hF153_ (4, 0, 0) 1 (by simp [S_c_X4_next]))]; exact kf146_
      have kf157_ : M149_.1 (4, 0, 0) 2 = 1 ∨ M149_.1 (4, 0, 0) 2 = 2 ∨ M149_.1 (4, 0, 0) 2 = 3 := by rw [(hF153_ (4, 0, 0) 2 (by simp [S_c_X4_next]))]; exact kf147_
      refine w_if_lt (tgt := 72) dX4_read_65 (by decide) (rfl : r148_.toInt = r148_.toInt) (fun h158_ => ?_) (fun h158_ => ?_)
      · refine w_aload_n dX4_read_72 rfl 0 rfl ?_
        refine w_getI fl_RX4_35 rfl rfl ic_4 dX4_read_73 (fun z159_ e160_ => ?_)
        refine w_if_ge (tgt := 86) dX4_read_76 (by decide) (rfl : z159_.toInt = z159_.toInt) (fun h161_ => ?_) (fun h161_ => ?_)
        · refine w_bipush (v := (-10)) dX4_read_86 (by decide) ?_
          refine w_aload_n dX4_read_88 rfl 0 rfl ?_
          refine w_getI fl_RX4_35 rfl rfl ic_4 dX4_read_89 (fun z162_ e163_ => ?_)
          obtain rfl : z159_ = z162_ := e160_.trans e163_.symm
          refine w_isub dX4_read_92 (fun z164_ h165_ => ?_)
          exact w_iret rfl dX4_read_93 ⟨hI152_, hF154_, trivial, ⟨M1_, hM2_, (Or.inl ⟨h6_, (Or.inr ⟨h7_, M97_, hM98_, M103_, hM104_, M109_, hM110_, M115_, hM116_, M122_, hM123_, hI124_, M129_, hI132_, hF133_, hs135_, M139_, hI142_, hF143_, M149_, hI152_, hF153_, r148_, hs155_, (Or.inl ⟨h158_, z159_, e160_, (Or.inl ⟨h161_, z164_, h165_, rfl, rfl⟩)⟩)⟩)⟩)⟩⟩
        · refine w_aload_n dX4_read_79 rfl 0 rfl ?_
          refine w_getI fl_RX4_41 rfl rfl ic_4 dX4_read_80 (fun z166_ e167_ => ?_)
          refine w_goto (tgt := 93) dX4_read_83 (by decide) ?_
          exact w_iret rfl dX4_read_93 ⟨hI152_, hF154_, trivial, ⟨M1_, hM2_, (Or.inl ⟨h6_, (Or.inr ⟨h7_, M97_, hM98_, M103_, hM104_, M109_, hM110_, M115_, hM116_, M122_, hM123_, hI124_, M129_, hI132_, hF133_, hs135_, M139_, hI142_, hF143_, M149_, hI152_, hF153_, r148_, hs155_, (Or.inl ⟨h158_, z159_, e160_, (Or.inr ⟨h161_, z166_, e167_, rfl, rfl⟩)⟩)⟩)⟩)⟩⟩
      · refine w_aload_n dX4_read_68 rfl 0 rfl ?_
        refine w_callVv (as := []) (rest := []) (c_X4_fail l G cy ad (d + 72) M149_ hI152_) kV_X4_fail (by decide +kernel) (Nat.le_of_ble_eq_true rfl) m_728 rfl rfl rfl ic_4 rfl rfl (by decide) (Nat.le_of_ble_eq_true rfl) dX4_read_69 (fun M168_ q169_ => ?_)
        obtain ⟨hI171_, hF172_, h170_, hs174_⟩ := q169_
        have hF173_ := hF154_.tr hF172_ (fun c k => (fun h => h.elim (fun h => (Or.inr (Or.inr (Or.inr (Or.inl ⟨h.1, h.2.1, h.2.2⟩))))) (fun h => h.elim)))
        have kf175_ : M168_.1 (4, 0, 0) 1 = 1 := by rw [(hF172_ (4, 0, 0) 1 (by simp [S_c_X4_fail]))]; exact kf156_
        have kf176_ : M168_.1 (4, 0, 0) 2 = 1 ∨ M168_.1 (4, 0, 0) 2 = 2 ∨ M168_.1 (4, 0, 0) 2 = 3 := by rw [(hF172_ (4, 0, 0) 2 (by simp [S_c_X4_fail]))]; exact kf157_
        refine w_aload_n dX4_read_72 rfl 0 rfl ?_
        refine w_getI fl_RX4_35 rfl rfl ic_4 dX4_read_73 (fun z177_ e178_ => ?_)
        refine w_if_ge (tgt := 86) dX4_read_76 (by decide) (rfl : z177_.toInt = z177_.toInt) (fun h179_ => ?_) (fun h179_ => ?_)
        · refine w_bipush (v := (-10)) dX4_read_86 (by decide) ?_
          refine w_aload_n dX4_read_88 rfl 0 rfl ?_
          refine w_getI fl_RX4_35 rfl rfl ic_4 dX4_read_89 (fun z180_ e181_ => ?_)
          obtain rfl : z177_ = z180_ := e178_.trans e181_.symm
          refine w_isub dX4_read_92 (fun z182_ h183_ => ?_)
          exact w_iret rfl dX4_read_93 ⟨hI171_, hF173_, trivial, ⟨M1_, hM2_, (Or.inl ⟨h6_, (Or.inr ⟨h7_, M97_, hM98_, M103_, hM104_, M109_, hM110_, M115_, hM116_, M122_, hM123_, hI124_, M129_, hI132_, hF133_, hs135_, M139_, hI142_, hF143_, M149_, hI152_, hF153_, r148_, hs155_, (Or.inr ⟨h158_, M168_, hI171_, hF172_, hs174_, z177_, e178_, (Or.inl ⟨h179_, z182_, h183_, rfl, rfl⟩)⟩)⟩)⟩)⟩⟩
        · refine w_aload_n dX4_read_79 rfl 0 rfl ?_
          refine w_getI fl_RX4_41 rfl rfl ic_4 dX4_read_80 (fun z184_ e185_ => ?_)
          refine w_goto (tgt := 93) dX4_read_83 (by decide) ?_
          exact w_iret rfl dX4_read_93 ⟨hI171_, hF173_, trivial, ⟨M1_, hM2_, (Or.inl ⟨h6_, (Or.inr ⟨h7_, M97_, hM98_, M103_, hM104_, M109_, hM110_, M115_, hM116_, M122_, hM123_, hI124_, M129_, hI132_, hF133_, hs135_, M139_, hI142_, hF143_, M149_, hI152_, hF153_, r148_, hs155_, (Or.inr ⟨h158_, M168_, hI171_, hF172_, hs174_, z177_, e178_, (Or.inr ⟨h179_, z184_, e185_, rfl, rfl⟩)⟩)⟩)⟩)⟩⟩
  · refine w_ldcS (k := 1) rfl dX4_read_10 ?_
    refine w_goto (tgt := 27) dX4_read_12 (by decide) ?_
    refine w_putD 1 CC_nd fl_RX4_27 rfl rfl ic_4 rfl rfl rfl dX4_read_27 (fun M186_ hM187_ => ?_)
    have hI188_ := hI3_.put hM187_ trivial
    have hF189_ := hF4_.put hM187_ (Or.inr (Or.inl ⟨rfl, rfl, rfl⟩))
    have kf190_ : M186_.1 (4, 0, 0) 1 = 1 := by rw [(show M186_.1 (4, 0, 0) 1 = M1_.1 (4, 0, 0) 1 by rw [hM187_, up_ne (by simp)])]; exact kf5_
    have kf191_ : M186_.1 (4, 0, 0) 2 = 1 ∨ M186_.1 (4, 0, 0) 2 = 2 ∨ M186_.1 (4, 0, 0) 2 = 3 := by rw [hM187_, up_same]; decide
    refine w_aload_n dX4_read_30 rfl 0 rfl ?_
    refine w_iconst (v := 0) dX4_read_31 (by decide) ?_
    refine w_putI CC_nd fl_RX4_31 rfl rfl ic_4 dX4_read_32 (fun M192_ hM193_ => ?_)
    have hI194_ := hI188_.put hM193_ trivial
    have hF195_ := hF189_.put hM193_ (Or.inr (Or.inr (Or.inl ⟨rfl, rfl, rfl⟩)))
    have kf196_ : M192_.1 (4, 0, 0) 1 = 1 := by rw [(show M192_.1 (4, 0, 0) 1 = M186_.1 (4, 0, 0) 1 by rw [hM193_, up_ne (by simp)])]; exact kf190_
    have kf197_ : M192_.1 (4, 0, 0) 2 = 1 ∨ M192_.1 (4, 0, 0) 2 = 2 ∨ M192_.1 (4, 0, 0) 2 = 3 := by rw [(show M192_.1 (4, 0, 0) 2 = M186_.1 (4, 0, 0) 2 by rw [hM193_, up_ne (by simp)])]; exact kf191_
    refine w_aload_n dX4_read_35 rfl 0 rfl ?_
    refine w_iconst (v := (-1)) dX4_read_36 (by decide) ?_
    refine w_putI CC_nd fl_RX4_35 rfl rfl ic_4 dX4_read_37 (fun M198_ hM199_ => ?_)
    have hI200_ := hI194_.put hM199_ trivial
    have hF201_ := hF195_.put hM199_ (Or.inr (Or.inr (Or.inr (Or.inl ⟨rfl, rfl, rfl⟩))))
    have kf202_ : M198_.1 (4, 0, 0) 1 = 1 := by rw [(show M198_.1 (4, 0, 0) 1 = M192_.1 (4, 0, 0) 1 by rw [hM199_, up_ne (by simp)])]; exact kf196_
    have kf203_ : M198_.1 (4, 0, 0) 2 = 1 ∨ M198_.1 (4, 0, 0) 2 = 2 ∨ M198_.1 (4, 0, 0) 2 = 3 := by rw [(show M198_.1 (4, 0, 0) 2 = M192_.1 (4, 0, 0) 2 by rw [hM199_, up_ne (by simp)])]; exact kf197_
    refine w_aload_n dX4_read_40 rfl 0 rfl ?_
    refine w_iconst (v := 0) dX4_read_41 (by decide) ?_
    refine w_putI CC_nd fl_RX4_38 rfl rfl ic_4 dX4_read_42 (fun M204_ hM205_ => ?_)
    have hI206_ := hI200_.put hM205_ trivial
    have hF207_ := hF201_.put hM205_ (Or.inr (Or.inr (Or.inr (Or.inr (Or.inl ⟨rfl, rfl, rfl⟩)))))
    have kf208_ : M204_.1 (4, 0, 0) 1 = 1 := by rw [(show M204_.1 (4, 0, 0) 1 = M198_.1 (4, 0, 0) 1 by rw [hM205_, up_ne (by simp)])]; exact kf202_
    have kf209_ : M204_.1 (4, 0, 0) 2 = 1 ∨ M204_.1 (4, 0, 0) 2 = 2 ∨ M204_.1 (4, 0, 0) 2 = 3 := by rw [(show M204_.1 (4, 0, 0) 2 = M198_.1 (4, 0, 0) 2 by rw [hM205_, up_ne (by simp)])]; exact kf203_
    have kf210_ : (M204_.1 (4, 0, 0) 5).toInt = 0 := by rw [hM205_, up_same]; exact (lf_c_X4_read_2 )
    refine w_aload_n dX4_read_45 rfl 0 rfl ?_
    refine w_iconst (v := 0) dX4_read_46 (by decide) ?_
    refine w_putI CC_nd fl_RX4_41 rfl rfl ic_4 dX4_read_47 (fun M211_ hM212_ => ?_)
    have hI213_ := hI206_.put hM212_ trivial
    have hF214_ := hF207_.put hM212_ (Or.inr (Or.inr (Or.inr (Or.inr (Or.inr (Or.inl ⟨rfl, rfl, rfl⟩))))))
    have kf215_ : M211_.1 (4, 0, 0) 1 = 1 := by rw [(show M211_.1 (4, 0, 0) 1 = M204_.1 (4, 0, 0) 1 by rw [hM212_, up_ne (by simp)])]; exact kf208_
    have kf216_ : M211_.1 (4, 0, 0) 2 = 1 ∨ M211_.1 (4, 0, 0) 2 = 2 ∨ M211_.1 (4, 0, 0) 2 = 3 := by rw [(show M211_.1 (4, 0, 0) 2 = M204_.1 (4, 0, 0) 2 by rw [hM212_, up_ne (by simp)])]; exact kf209_
    have kf217_ : (M211_.1 (4, 0, 0) 5).toInt = 0 := by rw [(show M211_.1 (4, 0, 0) 5 = M204_.1 (4, 0, 0) 5 by rw [hM212_, up_ne (by simp)])]; exact kf210_
    refine w_aload_n dX4_read_50 rfl 0 rfl ?_
    refine w_getR (c' := (1, 3, 0)) fl_RX4_10 rfl rfl ic_4 dX4_read_51 rfl ?_
    refine w_callVv (as := []) (rest := []) (c_X1_clear l G cy ad (d + 72) 3 0 M211_ hI213_ (by first | decide | (unfold vF; omega) | (unfold vRw; omega))) kV_X1_clear (by decide +kernel) (Nat.le_of_ble_eq_true rfl) m_688 rfl rfl rfl (ic_1 (by unfold vF; omega)) rfl rfl (by decide) (Nat.le_of_ble_eq_true rfl) dX4_read_54 (fun M218_ q219_ => ?_)
    obtain ⟨hI221_, hF222_, h220_, hs224_⟩ := q219_
    have hF223_ := hF214_.tr hF222_ (fun c k => (fun h => h.elim (fun h => (Or.inr (Or.inr (Or.inr (Or.inr (Or.inr (Or.inr (Or.inl ⟨h.1, h.2.1, h.2.2.1, h.2.2.2⟩)))))))) (fun h => h.elim)))
    have kf225_ : M218_.1 (4, 0, 0) 1 = 1 := by rw [(hF222_ (4, 0, 0) 1 (by simp [S_c_X1_clear]))]; exact kf215_
    have kf226_ : M218_.1 (4, 0, 0) 2 = 1 ∨ M218_.1 (4, 0, 0) 2 = 2 ∨ M218_.1 (4, 0, 0) 2 = 3 := by rw [(hF222_ (4, 0, 0) 2 (by simp [S_c_X1_clear]))]; exact kf216_
    have kf227_ : (M218_.1 (4, 0, 0) 5).toInt = 0 := by rw [(hF222_ (4, 0, 0) 5 (by simp [S_c_X1_clear]))]; exact kf217_
    refine w_aload_n dX4_read_57 rfl 0 rfl ?_
    refine w_callVv (as := []) (rest := []) (c_X4_cmp5 l G cy ad d M218_ hI221_ kf225_ kf226_ kf227_) kV_X4_readComparisons (by decide +kernel) (Nat.le_of_ble_eq_true rfl) m_692 rfl rfl rfl ic_4 rfl rfl (by decide) (Nat.le_of_ble_eq_true rfl) dX4_read_58 (fun M228_ q229_ => ?_)
    obtain ⟨hI231_, hF232_, h230_⟩ := q229_
    have hF233_ := hF223_.tr hF232_ (fun c k => (fun h => h.elim (fun h => (Or.inr (Or.inr (Or.inl ⟨h.1, h.2.1, h.2.2⟩)))) (fun h => h.elim (fun h => (Or.inr (Or.inr (Or.inr (Or.inl ⟨h.1, h.2.1, h.2.2⟩))))) (fun h => h.elim (fun h => (Or.inr (Or.inr (Or.inr (Or.inr (Or.inl ⟨h.1, h.2.1, h.2.2⟩)))))) (fun h => h.elim (fun h => (Or.inr (Or.inr (Or.inr (Or.inr (Or.inr (Or.inl ⟨h.1, h.2.1, h.2.2⟩))))))) (fun h => h.elim (fun h => (Or.inr (Or.inr (Or.inr (Or.inr (Or.inr (Or.inr (Or.inl ⟨h.1, h.2.1, h.2.2.1, h.2.2.2⟩)))))))) (fun h => h.elim (fun h => (Or.inr (Or.inr (Or.inr (Or.inr (Or.inr (Or.inr (Or.inr (Or.inl ⟨h.1, h.2.1, h.2.2⟩))))))))) (fun h => h.elim))))))))
    have kf235_ : M228_.1 (4, 0, 0) 1 = 1 := by rw [(hF232_ (4, 0, 0) 1 (by simp [S_reader]))]; exact kf225_
    have kf236_ : M228_.1 (4, 0, 0) 2 = 1 ∨ M228_.1 (4, 0, 0) 2 = 2 ∨ M228_.1 (4, 0, 0) 2 = 3 := by rw [(hF232_ (4, 0, 0) 2 (by simp [S_reader]))]; exact kf226_
    refine w_aload_n dX4_read_61 rfl 0 rfl ?_
    refine w_callV (as := []) (rest := []) (c_X4_next l G cy ad (d + 71) M228_ hI231_ kf235_) kV_X4_next (by decide +kernel) (Nat.le_of_ble_eq_true rfl) m_708 rfl rfl rfl ic_4 rfl rfl (by decide) (Nat.le_of_ble_eq_true rfl) dX4_read_62 (fun r237_ M238_ q239_ => ?_)
    obtain ⟨hI241_, hF242_, h240_, hs244_⟩ := q239_
    have hF243_ := hF233_.tr hF242_ (fun c k => (fun h => h.elim (fun h => (Or.inr (Or.inr (Or.inl ⟨h.1, h.2.1, h.2.2⟩)))) (fun h => h.elim)))
    have kf245_ : M238_.1 (4, 0, 0) 1 = 1 := by rw [(hF242_ (4, 0, 0) 1 (by simp [S_c_X4_next]))]; exact kf235_
    have kf246_ : M238_.1 (4, 0, 0) 2 = 1 ∨ M238_.1 (4, 0, 0) 2 = 2 ∨ M238_.1 (4, 0, 0) 2 = 3 := by rw [(hF242_ (4, 0, 0) 2 (by simp [S_c_X4_next]))]; exact kf236_
    refine w_if_lt (tgt := 72) dX4_read_65 (by decide) (rfl : r237_.toInt = r237_.toInt) (fun h247_ => ?_) (fun h247_ => ?_)
    · refine w_aload_n dX4_read_72 rfl 0 rfl ?_
      refine w_getI fl_RX4_35 rfl rfl ic_4 dX4_read_73 (fun z248_ e249_ => ?_)
      refine w_if_ge (tgt := 86) dX4_read_76 (by decide) (rfl : z248_.toInt = z248_.toInt) (fun h250_ => ?_) (fun h250_ => ?_)
      · refine w_bipush (v := (-10)) dX4_read_86 (by decide) ?_
        refine w_aload_n dX4_read_88 rfl 0 rfl ?_
        refine w_getI fl_RX4_35 rfl rfl ic_4 dX4_read_89 (fun z251_ e252_ => ?_)
        obtain rfl : z248_ = z251_ := e249_.trans e252_.symm
        refine w_isub dX4_read_92 (fun z253_ h254_ => ?_)
        exact w_iret rfl dX4_read_93 ⟨hI241_, hF243_, trivial, ⟨M1_, hM2_, (Or.inr ⟨h6_, M186_, hM187_, M192_, hM193_, M198_, hM199_, M204_, hM205_, M211_, hM212_, hI213_, M218_, hI221_, hF222_, hs224_, M228_, hI231_, hF232_, M238_, hI241_, hF242_, r237_, hs244_, (Or.inl ⟨h247_, z248_, e249_, (Or.inl ⟨h250_, z253_, h254_, rfl, rfl⟩)⟩)⟩)⟩⟩
      · refine w_aload_n dX4_read_79 rfl 0 rfl ?_
        refine w_getI fl_RX4_41 rfl rfl ic_4 dX4_read_80 (fun z255_ e256_ => ?_)
        refine w_goto (tgt := 93) dX4_read_83 (by decide) ?_
        exact w_iret rfl dX4_read_93 ⟨hI241_, hF243_, trivial, ⟨M1_, hM2_, (Or.inr ⟨h6_, M186_, hM187_, M192_, hM193_, M198_, hM199_, M204_, hM205_, M211_, hM212_, hI213_, M218_, hI221_, hF222_, hs224_, M228_, hI231_, hF232_, M238_, hI241_, hF242_, r237_, hs244_, (Or.inl ⟨h247_, z248_, e249_, (Or.inr ⟨h250_, z255_, e256_, rfl, rfl⟩)⟩)⟩)⟩⟩
    · refine w_aload_n dX4_read_68 rfl 0 rfl ?_
      refine w_callVv (as := []) (rest := []) (c_X4_fail l G cy ad (d + 72) M238_ hI241_) kV_X4_fail (by decide +kernel) (Nat.le_of_ble_eq_true rfl) m_728 rfl rfl rfl ic_4 rfl rfl (by decide) (Nat.le_of_ble_eq_true rfl) dX4_read_69 (fun M257_ q258_ => ?_)
      obtain ⟨hI260_, hF261_, h259_, hs263_⟩ := q258_
      have hF262_ := hF243_.tr hF261_ (fun c k => (fun h => h.elim (fun h => (Or.inr (Or.inr (Or.inr (Or.inl ⟨h.1, h.2.1, h.2.2⟩))))) (fun h => h.elim)))
      have kf264_ : M257_.1 (4, 0, 0) 1 = 1 := by rw [(hF261_ (4, 0, 0) 1 (by simp [S_c_X4_fail]))]; exact kf245_
      have kf265_ : M257_.1 (4, 0, 0) 2 = 1 ∨ M257_.1 (4, 0, 0) 2 = 2 ∨ M257_.1 (4, 0, 0) 2 = 3 := by rw [(hF261_ (4, 0, 0) 2 (by simp [S_c_X4_fail]))]; exact kf246_
      refine w_aload_n dX4_read_72 rfl 0 rfl ?_
      refine w_getI fl_RX4_35 rfl rfl ic_4 dX4_read_73 (fun z266_ e267_ => ?_)
      refine w_if_ge (tgt := 86) dX4_read_76 (by decide) (rfl : z266_.toInt = z266_.toInt) (fun h268_ => ?_) (fun h268_ => ?_)
      · refine w_bipush (v := (-10)) dX4_read_86 (by decide) ?_
        refine w_aload_n dX4_read_88 rfl 0 rfl ?_
        refine w_getI fl_RX4_35 rfl rfl ic_4 dX4_read_89 (fun z269_ e270_ => ?_)
        obtain rfl : z266_ = z269_ := e267_.trans e270_.symm
        refine w_isub dX4_read_92 (fun z271_ h272_ => ?_)
        exact w_iret rfl dX4_read_93 ⟨hI260_, hF262_, trivial, ⟨M1_, hM2_, (Or.inr ⟨h6_, M186_, hM187_, M192_, hM193_, M198_, hM199_, M204_, hM205_, M211_, hM212_, hI213_, M218_, hI221_, hF222_, hs224_, M228_, hI231_, hF232_, M238_, hI241_, hF242_, r237_, hs244_, (Or.inr ⟨h247_, M257_, hI260_, hF261_, hs263_, z266_, e267_, (Or.inl ⟨h268_, z271_, h272_, rfl, rfl⟩)⟩)⟩)⟩⟩
      · refine w_aload_n dX4_read_79 rfl 0 rfl ?_
        refine w_getI fl_RX4_41 rfl rfl ic_4 dX4_read_80 (fun z273_ e274_ => ?_)
        refine w_goto (tgt := 93) dX4_read_83 (by decide) ?_
        exact w_iret rfl dX4_read_93 ⟨hI260_, hF262_, trivial, ⟨M1_, hM2_, (Or.inr ⟨h6_, M186_, hM187_, M192_, hM193_, M198_, hM199_, M204_, hM205_, M211_, hM212_, hI213_, M218_, hI221_, hF222_, hs224_, M228_, hI231_, hF232_, M238_, hI241_, hF242_, r237_, hs244_, (Or.inr ⟨h247_, M257_, hI260_, hF261_, hs263_, z266_, e267_, (Or.inr ⟨h268_, z273_, e274_, rfl, rfl⟩)⟩)⟩)⟩⟩
def S_c_X11_text : rf → Nat → Prop := fun c k => (c.1 = 4 ∧ c.2.1 = 0 ∧ k = 1) ∨ (c.1 = 4 ∧ c.2.1 = 0 ∧ k = 2) ∨ (c.1 = 4 ∧ c.2.1 = 0 ∧ k = 3) ∨ (c.1 = 4 ∧ c.2.1 = 0 ∧ k = 4) ∨ (c.1 = 4 ∧ c.2.1 = 0 ∧ k = 5) ∨ (c.1 = 4 ∧ c.2.1 = 0 ∧ k = 6) ∨ (c.1 = 1 ∧ c.2.1 = 3 ∧ c.2.2 = 0 ∧ k = 2) ∨ (c.1 = 24 ∧ c.2.1 = 3 ∧ c.2.2 = 0) ∨ (c.1 = 5 ∧ c.2.1 = 0 ∧ c.2.2 = 0 ∧ k = 1) ∨ (c.1 = 1 ∧ c.2.1 = 0 ∧ k = 2) ∨ (c.1 = 24 ∧ c.2.1 = 0) ∨ (c.1 = 44 ∧ c.2.1 = 0) ∨ False
def SP_X11_text (v : Int32) (Mz : mM) (r_ : Int32) (M_ : mM) : Prop := (((SP_X11_within v 0 2 Mz (1 : Int32)) ∧ (0 ≤ v.toInt ∧ v.toInt ≤ 2) ∧ ∃ M8_ : mM, (Inv M8_) ∧ (FR (S_c_X4_read) Mz M8_) ∧ ∃ r7_ : Int32, (SP_X4_read v Mz r7_ M8_) ∧ (((r7_.toInt < 0) ∧ ∃ M16_ : mM, (Inv M16_) ∧ (FR (S_c_X5_clear 0 0) M8_ M16_) ∧ (SP_X5_clear 0 0 M8_ M16_) ∧ r_ = r7_ ∧ M_ = M16_) ∨ ((0 ≤ r7_.toInt) ∧ ∃ j23_ : Nat, ((j23_ : Int) = v.toInt) ∧ (j23_ < 3) ∧ (vF 0 j23_) ∧ ∃ M27_ : mM, (Inv M27_) ∧ (FR (S_c_X1_takeFrom 0 j23_ 3 0) M8_ M27_) ∧ (SP_X1_takeFrom 0 j23_ 3 0 M8_ M27_) ∧ ∃ M34_ : mM, (Inv M34_) ∧ (FR (S_c_X5_clear 0 0) M27_ M34_) ∧ (SP_X5_clear 0 0 M27_ M34_) ∧ r_ = r7_ ∧ M_ = M34_))) ∨ ((SP_X11_within v 0 2 Mz (0 : Int32)) ∧ (¬ (0 ≤ v.toInt ∧ v.toInt ≤ 2)) ∧ ∃ M43_ : mM, (Inv M43_) ∧ (FR (S_c_X11_error) Mz M43_) ∧ ∃ r42_ : Int32, (SP_X11_error 1 Mz r42_ M43_) ∧ r_ = r42_ ∧ M_ = M43_))
theorem lf_c_X11_text_0  (v : Int32) (h4_ : 0 ≤ v.toInt ∧ v.toInt ≤ 2) : 0 ≤ v.toInt ∧ v.toInt < ((3 : Nat) : Int) := by have r_v := rngI v; omega
set_option maxHeartbeats 4000000 in
set_option maxRecDepth 100000 in
theorem c_X11_text (l : Launch) (G : va_G) (cy : Nat → ClassId) (ad : rf → Nat) (d : Nat) (v : Int32) (Mz : mM) (hIz : Inv Mz) : WP CC l G cy ad yX11_text cX11_text 3 (some .int) (d + 74) 0 [(0, vR (11, 0, 0)), (1, vI v)] [] Mz (fun r M' => Inv M' ∧ FR (S_c_X11_text) Mz M' ∧ (True) ∧ SP_X11_text v Mz r M') := by
  have hFz : FR (S_c_X11_text) Mz Mz := FR.self
  refine w_iload_n dX11_text_0 rfl 1 rfl ?_
  refine w_iconst (v := 0) dX11_text_1 (by decide) ?_
  refine w_iconst (v := 2) dX11_text_2 (by decide) ?_
  refine w_callS (as := [vI v, vI 0, vI 2]) (rest := []) (c_X11_within l G cy ad (d + 73) v 0 2 Mz hIz) kS_X11_within (by decide +kernel) (Nat.le_of_ble_eq_true rfl) m_494 rfl rfl (by decide) (Nat.le_of_ble_eq_true rfl) dX11_text_3 (fun r1_ M2_ q3_ => ?_)
  obtain ⟨rfl, h4_, hs5_⟩ := q3_
  rcases h4_ with ⟨rfl, h4_⟩ | ⟨rfl, h4_⟩
  · simp only [li_0, li_2] at h4_
    refine w_if_ne (tgt := 15) dX11_text_6 (by decide) li_1 (fun h6_ => ?_) (fun h9 => (absurd h9 (by decide)))
    refine w_aload_n dX11_text_15 rfl 0 rfl ?_
    refine w_getR (c' := (4, 0, 0)) fl_RX11_35 rfl rfl ic_11 dX11_text_16 rfl ?_
    refine w_aload_n dX11_text_19 rfl 0 rfl ?_
    refine w_getR (c' := (10, 0, 0)) fl_RX11_10 rfl rfl ic_11 dX11_text_20 rfl ?_
    refine w_getR (c' := (5, 0, 0)) fl_RX11_192 rfl rfl (ic_10 (by decide)) dX11_text_23 rfl ?_
    refine w_iload_n dX11_text_26 rfl 1 rfl ?_
    refine w_callV (as := [vR (5, 0, 0), vI v]) (rest := []) (c_X4_read l G cy ad d v Mz hIz) kV_X4_read (by decide +kernel) (Nat.le_of_ble_eq_true rfl) m_681 rfl rfl rfl ic_4 rfl rfl (by decide) (Nat.le_of_ble_eq_true rfl) dX11_text_27 (fun r7_ M8_ q9_ => ?_)
    obtain ⟨hI11_, hF12_, h10_, hs14_⟩ := q9_
    have hF13_ := hFz.tr hF12_ (fun c k => (fun h => h.elim (fun h => (Or.inl ⟨h.1, h.2.1, h.2.2⟩)) (fun h => h.elim (fun h => (Or.inr (Or.inl ⟨h.1, h.2.1, h.2.2⟩))) (fun h => h.elim (fun h => (Or.inr (Or.inr (Or.inl ⟨h.1, h.2.1, h.2.2⟩)))) (fun h => h.elim (fun h => (Or.inr (Or.inr (Or.inr (Or.inl ⟨h.1, h.2.1, h.2.2⟩))))) (fun h => h.elim (fun h => (Or.inr (Or.inr (Or.inr (Or.inr (Or.inl ⟨h.1, h.2.1, h.2.2⟩)))))) (fun h => h.elim (fun h => (Or.inr (Or.inr (Or.inr (Or.inr (Or.inr (Or.inl ⟨h.1, h.2.1, h.2.2⟩))))))) (fun h => h.elim (fun h => (Or.inr (Or.inr (Or.inr (Or.inr (Or.inr (Or.inr (Or.inl ⟨h.1, h.2.1, h.2.2.1, h.2.2.2⟩)))))))) (fun h => h.elim (fun h => (Or.inr (Or.inr (Or.inr (Or.inr (Or.inr (Or.inr (Or.inr (Or.inl ⟨h.1, h.2.1, h.2.2⟩))))))))) (fun h => h.elim))))))))))
    refine w_istore_n (ls' := [(2, vI r7_), (0, vR (11, 0, 0)), (1, vI v)]) dX11_text_30 rfl (by decide) rfl ?_
    refine w_iload_n dX11_text_31 rfl 0 rfl ?_
    refine w_if_lt (tgt := 57) dX11_text_32 (by decide) (rfl : r7_.toInt = r7_.toInt) (fun h15_ => ?_) (fun h15_ => ?_)
    · refine w_aload_n dX11_text_57 rfl 1 rfl ?_
      refine w_getR (c' := (10, 0, 0)) fl_RX11_10 rfl rfl ic_11 dX11_text_58 rfl ?_
      refine w_getR (c' := (5, 0, 0)) fl_RX11_192 rfl rfl (ic_10 (by decide)) dX11_text_61 rfl ?_
      refine w_callVv (as := []) (rest := []) (c_X5_clear l G cy ad (d + 73) 0 0 M8_ hI11_ (by first | decide | (unfold vF; omega) | (unfold vRw; omega))) kV_X5_clear (by decide +kernel) (Nat.le_of_ble_eq_true rfl) m_831 rfl rfl rfl (ic_5 (by unfold vRw; omega)) rfl rfl (by decide) (Nat.le_of_ble_eq_true rfl) dX11_text_64 (fun M16_ q17_ => ?_)
      obtain ⟨hI19_, hF20_, h18_, hs22_⟩ := q17_
      have hF21_ := hF13_.tr hF20_ (fun c k => (fun h => h.elim (fun h => (Or.inr (Or.inr (Or.inr (Or.inr (Or.inr (Or.inr (Or.inr (Or.inr (Or.inl ⟨h.1, h.2.1, h.2.2.1, h.2.2.2⟩)))))))))) (fun h => h.elim)))
      refine w_iload_n dX11_text_67 rfl 0 rfl ?_
      exact w_iret rfl dX11_text_68 ⟨hI19_, hF21_, trivial, (Or.inl ⟨hs5_, h4_, M8_, hI11_, hF12_, r7_, hs14_, (Or.inl ⟨h15_, M16_, hI19_, hF20_, hs22_, rfl, rfl⟩)⟩)⟩
    · refine w_aload_n dX11_text_35 rfl 1 rfl ?_
      refine w_getR (c' := (10, 0, 0)) fl_RX11_10 rfl rfl ic_11 dX11_text_36 rfl ?_
      refine w_getR (c' := (2, 0, 0)) fl_RX11_114 rfl rfl (ic_10 (by decide)) dX11_text_39 rfl ?_
      refine w_getR (c' := (28, 0, 0)) fl_RX11_210 rfl rfl (ic_2 (by decide)) dX11_text_42 rfl ?_
      refine w_iload_n dX11_text_45 rfl 2 rfl ?_
      refine w_aald rfl rfl rfl (fun _ => rfl) (ic_28 (by decide)) (rfl : v.toInt = v.toInt) (lf_c_X11_text_0 v h4_) dX11_text_46 (fun j23_ h24_ h25_ => ?_)
      have h26_ : vF 0 j23_ := Or.inl ⟨(by decide), h25_⟩
      refine w_aload_n dX11_text_47 rfl 1 rfl ?_
      refine w_getR (c' := (4, 0, 0)) fl_RX11_35 rfl rfl ic_11 dX11_text_48 rfl ?_
      refine w_getR (c' := (1, 3, 0)) fl_RX11_214 rfl rfl ic_4 dX11_text_51 rfl ?_
      refine w_callVv (as := [vR (1, 3, 0)]) (rest := []) (c_X1_takeFrom l G cy ad (d + 72) 0 j23_ 3 0 M8_ hI11_ h26_ (by first | decide | (unfold vF; omega) | (unfold vRw; omega))) kV_X1_takeFrom (by decide +kernel) (Nat.le_of_ble_eq_true rfl) m_824 rfl rfl rfl (ic_1 h26_) rfl rfl (by decide) (Nat.le_of_ble_eq_true rfl) dX11_text_54 (fun M27_ q28_ => ?_)
      obtain ⟨hI30_, hF31_, h29_, hs33_⟩ := q28_
      have hF32_ := hF13_.tr hF31_ (fun c k => (fun h => h.elim (fun h => (Or.inr (Or.inr (Or.inr (Or.inr (Or.inr (Or.inr (Or.inr (Or.inr (Or.inr (Or.inl ⟨h.1, h.2.1, h.2.2.2⟩))))))))))) (fun h => h.elim (fun h => (Or.inr (Or.inr (Or.inr (Or.inr (Or.inr (Or.inr (Or.inr (Or.inr (Or.inr (Or.inr (Or.inl ⟨h.1, h.2.1⟩)))))))))))) (fun h => h.elim))))
      refine w_aload_n dX11_text_57 rfl 1 rfl ?_
      refine w_getR (c' := (10, 0, 0)) fl_RX11_10 rfl rfl ic_11 dX11_text_58 rfl ?_
      refine w_getR (c' := (5, 0, 0)) fl_RX11_192 rfl rfl (ic_10 (by decide)) dX11_text_61 rfl ?_
      refine w_callVv (as := []) (rest := []) (c_X5_clear l G cy ad (d + 73) 0 0 M27_ hI30_ (by first | decide | (unfold vF; omega) | (unfold vRw; omega))) kV_X5_clear (by decide +kernel) (Nat.le_of_ble_eq_true rfl) m_831 rfl rfl rfl (ic_5 (by unfold vRw; omega)) rfl rfl (by decide) (Nat.le_of_ble_eq_true rfl) dX11_text_64 (fun M34_ q35_ => ?_)
      obtain ⟨hI37_, hF38_, h36_, hs40_⟩ := q35_
      have hF39_ := hF32_.tr hF38_ (fun c k => (fun h => h.elim (fun h => (Or.inr (Or.inr (Or.inr (Or.inr (Or.inr (Or.inr (Or.inr (Or.inr (Or.inl ⟨h.1, h.2.1, h.2.2.1, h.2.2.2⟩)))))))))) (fun h => h.elim)))
      refine w_iload_n dX11_text_67 rfl 0 rfl ?_
      exact w_iret rfl dX11_text_68 ⟨hI37_, hF39_, trivial, (Or.inl ⟨hs5_, h4_, M8_, hI11_, hF12_, r7_, hs14_, (Or.inr ⟨h15_, j23_, h24_, h25_, h26_, M27_, hI30_, hF31_, hs33_, M34_, hI37_, hF38_, hs40_, rfl, rfl⟩)⟩)⟩
  · simp only [li_0, li_2] at h4_
    refine w_if_ne (tgt := 15) dX11_text_6 (by decide) li_0 (fun h9 => (absurd h9 (by decide))) (fun h41_ => ?_)
    refine w_aload_n dX11_text_9 rfl 0 rfl ?_
    refine w_iconst (v := 1) dX11_text_10 (by decide) ?_
    refine w_callV (as := [vI 1]) (rest := []) (c_X11_error l G cy ad (d + 73) 1 Mz hIz) kV_X11_error (by decide +kernel) (Nat.le_of_ble_eq_true rfl) m_500 rfl rfl rfl ic_11 rfl rfl (by decide) (Nat.le_of_ble_eq_true rfl) dX11_text_11 (fun r42_ M43_ q44_ => ?_)
    obtain ⟨hI46_, hF47_, h45_, hs49_⟩ := q44_
    have hF48_ := hFz.tr hF47_ (fun c k => (fun h => h.elim (fun h => (Or.inr (Or.inr (Or.inr (Or.inr (Or.inr (Or.inr (Or.inr (Or.inr (Or.inr (Or.inr (Or.inr (Or.inl ⟨h.1, h.2⟩))))))))))))) (fun h => h.elim)))
    exact w_iret rfl dX11_text_14 ⟨hI46_, hF48_, trivial, (Or.inr ⟨hs5_, h4_, M43_, hI46_, hF47_, r42_, hs49_, rfl, rfl⟩)⟩
