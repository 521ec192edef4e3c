section
def S_c_X4_read : rf → Nat → Prop := fun c k => (c.1 = 4 ∧ c.2.1 = 0 ∧ k = 1) ∨ (c.1 = 4 ∧ c.2.1 = 0 ∧ k = 2) ∨ (c.1 = 4 ∧ c.2.1 = 0 ∧ k = 3) ∨ (c.1 = 4 ∧ c.2.1 = 0 ∧ k = 4) ∨ (c.1 = 4 ∧ c.2.1 = 0 ∧ k = 5) ∨ (c.1 = 4 ∧ c.2.1 = 0 ∧ k = 6) ∨ (c.1 = 1 ∧ c.2.1 = 3 ∧ c.2.2 = 0 ∧ k = 2) ∨ (c.1 = 24 ∧ c.2.1 = 3 ∧ c.2.2 = 0) ∨ False
def SP_X4_read (v : Int32) (Mz : mM) (r_ : Int32) (M_ : mM) : Prop := ∃ M1_ : mM, (M1_ = up Mz (4, 0, 0) 1 1) ∧ (((¬ v.toInt = 0) ∧ (((¬ v.toInt = 1) ∧ ∃ M8_ : mM, (M8_ = up M1_ (4, 0, 0) 2 3) ∧ ∃ M14_ : mM, (M14_ = up M8_ (4, 0, 0) 3 0) ∧ ∃ M20_ : mM, (M20_ = up M14_ (4, 0, 0) 4 (-1)) ∧ ∃ M26_ : mM, (M26_ = up M20_ (4, 0, 0) 5 0) ∧ ∃ M33_ : mM, (M33_ = up M26_ (4, 0, 0) 6 0) ∧ (Inv M33_) ∧ ∃ M40_ : mM, (Inv M40_) ∧ (FR (S_c_X1_clear 3 0) M33_ M40_) ∧ (SP_X1_clear 3 0 M33_ M40_) ∧ ∃ M50_ : mM, (Inv M50_) ∧ (FR (S_reader) M40_ M50_) ∧ (SP_X4_cmp5 M40_ M50_) ∧ ∃ M60_ : mM, (Inv M60_) ∧ (FR (S_c_X4_next) M50_ M60_) ∧ ∃ r59_ : Int32, (SP_X4_next M50_ r59_ M60_) ∧ (((r59_.toInt < 0) ∧ ∃ z70_ : Int32, (z70_ = M60_.1 (4, 0, 0) 4) ∧ (((0 ≤ z70_.toInt) ∧ ∃ z75_ : Int32, (z75_ = ((-10) : Int32) - z70_) ∧ r_ = z75_ ∧ M_ = M60_) ∨ ((z70_.toInt < 0) ∧ ∃ z77_ : Int32, (z77_ = M60_.1 (4, 0, 0) 6) ∧ r_ = z77_ ∧ M_ = M60_))) ∨ ((0 ≤ r59_.toInt) ∧ ∃ M79_ : mM, (Inv M79_) ∧ (FR (S_c_X4_fail) M60_ M79_) ∧ (SP_X4_fail M60_ M79_) ∧ ∃ z88_ : Int32, (z88_ = M79_.1 (4, 0, 0) 4) ∧ (((0 ≤ z88_.toInt) ∧ ∃ z93_ : Int32, (z93_ = ((-10) : Int32) - z88_) ∧ r_ = z93_ ∧ M_ = M79_) ∨ ((z88_.toInt < 0) ∧ ∃ z95_ : Int32, (z95_ = M79_.1 (4, 0, 0) 6) ∧ r_ = z95_ ∧ M_ = M79_))))) ∨ ((v.toInt = 1) ∧ ∃ M97_ : mM, (M97_ = up M1_ (4, 0, 0) 2 2) ∧ ∃ M103_ : mM, (M103_ = up M97_ (4, 0, 0) 3 0) ∧ ∃ M109_ : mM, (M109_ = up M103_ (4, 0, 0) 4 (-1)) ∧ ∃ M115_ : mM, (M115_ = up M109_ (4, 0, 0) 5 0) ∧ ∃ M122_ : mM, (M122_ = up M115_ (4, 0, 0) 6 0) ∧ (Inv M122_) ∧ ∃ M129_ : mM, (Inv M129_) ∧ (FR (S_c_X1_clear 3 0) M122_ M129_) ∧ (SP_X1_clear 3 0 M122_ M129_) ∧ ∃ M139_ : mM, (Inv M139_) ∧ (FR (S_reader) M129_ M139_) ∧ (SP_X4_cmp5 M129_ M139_) ∧ ∃ M149_ : mM, (Inv M149_) ∧ (FR (S_c_X4_next) M139_ M149_) ∧ ∃ r148_ : Int32, (SP_X4_next M139_ r148_ M149_) ∧ (((r148_.toInt < 0) ∧ ∃ z159_ : Int32, (z159_ = M149_.1 (4, 0, 0) 4) ∧ (((0 ≤ z159_.toInt) ∧ ∃ z164_ : Int32, (z164_ = ((-10) : Int32) - z159_) ∧ r_ = z164_ ∧ M_ = M149_) ∨ ((z159_.toInt < 0) ∧ ∃ z166_ : Int32, (z166_ = M149_.1 (4, 0, 0) 6) ∧ r_ = z166_ ∧ M_ = M149_))) ∨ ((0 ≤ r148_.toInt) ∧ ∃ M168_ : mM, (Inv M168_) ∧ (FR (S_c_X4_fail) M149_ M168_) ∧ (SP_X4_fail M149_ M168_) ∧ ∃ z177_ : Int32, (z177_ = M168_.1 (4, 0, 0) 4) ∧ (((0 ≤ z177_.toInt) ∧ ∃ z182_ : Int32, (z182_ = ((-10) : Int32) - z177_) ∧ r_ = z182_ ∧ M_ = M168_) ∨ ((z177_.toInt < 0) ∧ ∃ z184_ : Int32, (z184_ = M168_.1 (4, 0, 0) 6) ∧ r_ = z184_ ∧ M_ = M168_))))))) ∨ ((v.toInt = 0) ∧ ∃ M186_ : mM, (M186_ = up M1_ (4, 0, 0) 2 1) ∧ ∃ M192_ : mM, (M192_ = up M186_ (4, 0, 0) 3 0) ∧ ∃ M198_ : mM, (M198_ = up M192_ (4, 0, 0) 4 (-1)) ∧ ∃ M204_ : mM, (M204_ = up M198_ (4, 0, 0) 5 0) ∧ ∃ M211_ : mM, (M211_ = up M204_ (4, 0, 0) 6 0) ∧ (Inv M211_) ∧ ∃ M218_ : mM, (Inv M218_) ∧ (FR (S_c_X1_clear 3 0) M211_ M218_) ∧ (SP_X1_clear 3 0 M211_ M218_) ∧ ∃ M228_ : mM, (Inv M228_) ∧ (FR (S_reader) M218_ M228_) ∧ (SP_X4_cmp5 M218_ M228_) ∧ ∃ M238_ : mM, (Inv M238_) ∧ (FR (S_c_X4_next) M228_ M238_) ∧ ∃ r237_ : Int32, (SP_X4_next M228_ r237_ M238_) ∧ (((r237_.toInt < 0) ∧ ∃ z248_ : Int32, (z248_ = M238_.1 (4, 0, 0) 4) ∧ (((0 ≤ z248_.toInt) ∧ ∃ z253_ : Int32, (z253_ = ((-10) : Int32) - z248_) ∧ r_ = z253_ ∧ M_ = M238_) ∨ ((z248_.toInt < 0) ∧ ∃ z255_ : Int32, (z255_ = M238_.1 (4, 0, 0) 6) ∧ r_ = z255_ ∧ M_ = M238_))) ∨ ((0 ≤ r237_.toInt) ∧ ∃ M257_ : mM, (Inv M257_) ∧ (FR (S_c_X4_fail) M238_ M257_) ∧ (SP_X4_fail M238_ M257_) ∧ ∃ z266_ : Int32, (z266_ = M257_.1 (4, 0, 0) 4) ∧ (((0 ≤ z266_.toInt) ∧ ∃ z271_ : Int32, (z271_ = ((-10) : Int32) - z266_) ∧ r_ = z271_ ∧ M_ = M257_) ∨ ((z266_.toInt < 0) ∧ ∃ z273_ : Int32, (z273_ = M257_.1 (4, 0, 0) 6) ∧ r_ = z273_ ∧ M_ = M257_))))))
set_option maxHeartbeats 4000000 in
set_option maxRecDepth 100000 in
theorem c_X4_read (l : Launch) (G : va_G) (cy : Nat → ClassId) (ad : rf → Nat) (d : Nat) (v : Int32) (Mz : mM) (hIz : Inv Mz) : WP CC l G cy ad yX4_read cX4_read 3 (some .int) (d + 73) 0 [(0, vR (4, 0, 0)), (1, vR (5, 0, 0)), (2, vI v)] [] Mz (fun r M' => Inv M' ∧ FR (S_c_X4_read) Mz M' ∧ (True) ∧ SP_X4_read v Mz r M') := by
  have hFz : FR (S_c_X4_read) Mz Mz := FR.self
  refine w_aload_n dX4_read_0 rfl 0 rfl ?_
  refine w_aload_n dX4_read_1 rfl 1 rfl ?_
  refine w_putD 1 CC_nd fl_RX4_21 rfl rfl ic_4 rfl rfl rfl dX4_read_2 (fun M1_ hM2_ => ?_)
  have hI3_ := hIz.put hM2_ trivial
  have hF4_ := hFz.put hM2_ (Or.inl ⟨rfl, rfl, rfl⟩)
  have kf5_ : M1_.1 (4, 0, 0) 1 = 1 := by rw [hM2_, up_same]
  refine w_aload_n dX4_read_5 rfl 0 rfl ?_
  refine w_iload_n dX4_read_6 rfl 2 rfl ?_
  refine w_if_ne (tgt := 15) dX4_read_7 (by decide) (rfl : v.toInt = v.toInt) (fun h6_ => ?_) (fun h6_ => ?_)
  · refine w_iload_n dX4_read_15 rfl 2 rfl ?_
    refine w_iconst (v := 1) dX4_read_16 (by decide) ?_
    refine w_icmp_ne (tgt := 25) dX4_read_17 (by decide) (rfl : v.toInt = v.toInt) li_1 (fun h7_ => ?_) (fun h7_ => ?_)
    · refine w_ldcS (k := 3) rfl dX4_read_25 ?_
      refine w_putD 3 CC_nd fl_RX4_27 rfl rfl ic_4 rfl rfl rfl dX4_read_27 (fun M8_ hM9_ => ?_)
      have hI10_ := hI3_.put hM9_ trivial
      have hF11_ := hF4_.put hM9_ (Or.inr (Or.inl ⟨rfl, rfl, rfl⟩))
      have kf12_ : M8_.1 (4, 0, 0) 1 = 1 := by rw [(show M8_.1 (4, 0, 0) 1 = M1_.1 (4, 0, 0) 1 by rw [hM9_, up_ne (by simp)])]; exact kf5_
      have kf13_ : M8_.1 (4, 0, 0) 2 = 1 ∨ M8_.1 (4, 0, 0) 2 = 2 ∨ M8_.1 (4, 0, 0) 2 = 3 := by rw [hM9_, up_same]; decide
      refine w_aload_n dX4_read_30 rfl 0 rfl ?_
      refine w_iconst (v := 0) dX4_read_31 (by decide) ?_
      refine w_putI CC_nd fl_RX4_31 rfl rfl ic_4 dX4_read_32 (fun M14_ hM15_ => ?_)
      have hI16_ := hI10_.put hM15_ trivial
      have hF17_ := hF11_.put hM15_ (Or.inr (Or.inr (Or.inl ⟨rfl, rfl, rfl⟩)))
      have kf18_ : M14_.1 (4, 0, 0) 1 = 1 := by rw [(show M14_.1 (4, 0, 0) 1 = M8_.1 (4, 0, 0) 1 by rw [hM15_, up_ne (by simp)])]; exact kf12_
      have kf19_ : M14_.1 (4, 0, 0) 2 = 1 ∨ M14_.1 (4, 0, 0) 2 = 2 ∨ M14_.1 (4, 0, 0) 2 = 3 := by rw [(show M14_.1 (4, 0, 0) 2 = M8_.1 (4, 0, 0) 2 by rw [hM15_, up_ne (by simp)])]; exact kf13_
      refine w_aload_n dX4_read_35 rfl 0 rfl ?_
      refine w_iconst (v := (-1)) dX4_read_36 (by decide) ?_
      refine w_putI CC_nd fl_RX4_35 rfl rfl ic_4 dX4_read_37 (fun M20_ hM21_ => ?_)
      have hI22_ := hI16_.put hM21_ trivial
      have hF23_ := hF17_.put hM21_ (Or.inr (Or.inr (Or.inr (Or.inl ⟨rfl, rfl, rfl⟩))))
      have kf24_ : M20_.1 (4, 0, 0) 1 = 1 := by rw [(show M20_.1 (4, 0, 0) 1 = M14_.1 (4, 0, 0) 1 by rw [hM21_, up_ne (by simp)])]; exact kf18_
      have kf25_ : M20_.1 (4, 0, 0) 2 = 1 ∨ M20_.1 (4, 0, 0) 2 = 2 ∨ M20_.1 (4, 0, 0) 2 = 3 := by rw [(show M20_.1 (4, 0, 0) 2 = M14_.1 (4, 0, 0) 2 by rw [hM21_, up_ne (by simp)])]; exact kf19_
      refine w_aload_n dX4_read_40 rfl 0 rfl ?_
      refine w_iconst (v := 0) dX4_read_41 (by decide) ?_
      refine w_putI CC_nd fl_RX4_38 rfl rfl ic_4 dX4_read_42 (fun M26_ hM27_ => ?_)
      have hI28_ := hI22_.put hM27_ trivial
      have hF29_ := hF23_.put hM27_ (Or.inr (Or.inr (Or.inr (Or.inr (Or.inl ⟨rfl, rfl, rfl⟩)))))
      have kf30_ : M26_.1 (4, 0, 0) 1 = 1 := by rw [(show M26_.1 (4, 0, 0) 1 = M20_.1 (4, 0, 0) 1 by rw [hM27_, up_ne (by simp)])]; exact kf24_
      have kf31_ : M26_.1 (4, 0, 0) 2 = 1 ∨ M26_.1 (4, 0, 0) 2 = 2 ∨ M26_.1 (4, 0, 0) 2 = 3 := by rw [(show M26_.1 (4, 0, 0) 2 = M20_.1 (4, 0, 0) 2 by rw [hM27_, up_ne (by simp)])]; exact kf25_
      have kf32_ : (M26_.1 (4, 0, 0) 5).toInt = 0 := by rw [hM27_, up_same]; exact (lf_c_X5_clear2_1 )
      refine w_aload_n dX4_read_45 rfl 0 rfl ?_
      refine w_iconst (v := 0) dX4_read_46 (by decide) ?_
      refine w_putI CC_nd fl_RX4_41 rfl rfl ic_4 dX4_read_47 (fun M33_ hM34_ => ?_)
      have hI35_ := hI28_.put hM34_ trivial
      have hF36_ := hF29_.put hM34_ (Or.inr (Or.inr (Or.inr (Or.inr (Or.inr (Or.inl ⟨rfl, rfl, rfl⟩))))))
      have kf37_ : M33_.1 (4, 0, 0) 1 = 1 := by rw [(show M33_.1 (4, 0, 0) 1 = M26_.1 (4, 0, 0) 1 by rw [hM34_, up_ne (by simp)])]; exact kf30_
      have kf38_ : M33_.1 (4, 0, 0) 2 = 1 ∨ M33_.1 (4, 0, 0) 2 = 2 ∨ M33_.1 (4, 0, 0) 2 = 3 := by rw [(show M33_.1 (4, 0, 0) 2 = M26_.1 (4, 0, 0) 2 by rw [hM34_, up_ne (by simp)])]; exact kf31_
      have kf39_ : (M33_.1 (4, 0, 0) 5).toInt = 0 := by rw [(show M33_.1 (4, 0, 0) 5 = M26_.1 (4, 0, 0) 5 by rw [hM34_, up_ne (by simp)])]; exact kf32_
      refine w_aload_n dX4_read_50 rfl 0 rfl ?_
      refine w_getR (c' := (1, 3, 0)) fl_RX4_10 rfl rfl ic_4 dX4_read_51 rfl ?_
      refine w_callVv (as := []) (rest := []) (c_X1_clear l G cy ad (d + 72) 3 0 M33_ hI35_ (by first | decide | (unfold vF; omega) | (unfold vRw; omega))) kV_X1_clear pnn_6 (Nat.le_of_ble_eq_true rfl) m_688 rfl rfl rfl (ic_1 (by unfold vF; omega)) rfl rfl (by decide) (Nat.le_of_ble_eq_true rfl) dX4_read_54 (fun M40_ q41_ => ?_)
      obtain ⟨hI43_, hF44_, h42_, hs46_⟩ := q41_
      have hF45_ := hF36_.tr hF44_ (fun c k => (fun h => h.elim (fun h => (Or.inr (Or.inr (Or.inr (Or.inr (Or.inr (Or.inr (Or.inl ⟨h.1, h.2.1, h.2.2.1, h.2.2.2⟩)))))))) (fun h => h.elim)))
      have kf47_ : M40_.1 (4, 0, 0) 1 = 1 := by rw [(hF44_ (4, 0, 0) 1 (by simp [S_c_X1_clear]))]; exact kf37_
      have kf48_ : M40_.1 (4, 0, 0) 2 = 1 ∨ M40_.1 (4, 0, 0) 2 = 2 ∨ M40_.1 (4, 0, 0) 2 = 3 := by rw [(hF44_ (4, 0, 0) 2 (by simp [S_c_X1_clear]))]; exact kf38_
      have kf49_ : (M40_.1 (4, 0, 0) 5).toInt = 0 := by rw [(hF44_ (4, 0, 0) 5 (by simp [S_c_X1_clear]))]; exact kf39_
      refine w_aload_n dX4_read_57 rfl 0 rfl ?_
      refine w_callVv (as := []) (rest := []) (c_X4_cmp5 l G cy ad d M40_ hI43_ kf47_ kf48_ kf49_) kV_X4_readComparisons pnn_16 (Nat.le_of_ble_eq_true rfl) m_692 rfl rfl rfl ic_4 rfl rfl (by decide) (Nat.le_of_ble_eq_true rfl) dX4_read_58 (fun M50_ q51_ => ?_)
      obtain ⟨hI53_, hF54_, h52_, hs56_⟩ := q51_
      have hF55_ := hF45_.tr hF54_ (fun c k => (fun h => h.elim (fun h => (Or.inr (Or.inr (Or.inl ⟨h.1, h.2.1, h.2.2⟩)))) (fun h => h.elim (fun h => (Or.inr (Or.inr (Or.inr (Or.inl ⟨h.1, h.2.1, h.2.2⟩))))) (fun h => h.elim (fun h => (Or.inr (Or.inr (Or.inr (Or.inr (Or.inl ⟨h.1, h.2.1, h.2.2⟩)))))) (fun h => h.elim (fun h => (Or.inr (Or.inr (Or.inr (Or.inr (Or.inr (Or.inl ⟨h.1, h.2.1, h.2.2⟩))))))) (fun h => h.elim (fun h => (Or.inr (Or.inr (Or.inr (Or.inr (Or.inr (Or.inr (Or.inl ⟨h.1, h.2.1, h.2.2.1, h.2.2.2⟩)))))))) (fun h => h.elim (fun h => (Or.inr (Or.inr (Or.inr (Or.inr (Or.inr (Or.inr (Or.inr (Or.inl ⟨h.1, h.2.1, h.2.2⟩))))))))) (fun h => h.elim))))))))
      have kf57_ : M50_.1 (4, 0, 0) 1 = 1 := by rw [(hF54_ (4, 0, 0) 1 (by simp [S_reader]))]; exact kf47_
      have kf58_ : M50_.1 (4, 0, 0) 2 = 1 ∨ M50_.1 (4, 0, 0) 2 = 2 ∨ M50_.1 (4, 0, 0) 2 = 3 := by rw [(hF54_ (4, 0, 0) 2 (by simp [S_reader]))]; exact kf48_
      refine w_aload_n dX4_read_61 rfl 0 rfl ?_
      refine w_callV (as := []) (rest := []) (c_X4_next l G cy ad (d + 71) M50_ hI53_ kf57_) kV_X4_next pnn_16 (Nat.le_of_ble_eq_true rfl) m_708 rfl rfl rfl ic_4 rfl rfl (by decide) (Nat.le_of_ble_eq_true rfl) dX4_read_62 (fun r59_ M60_ q61_ => ?_)
      obtain ⟨hI63_, hF64_, h62_, hs66_⟩ := q61_
      have hF65_ := hF55_.tr hF64_ (fun c k => (fun h => h.elim (fun h => (Or.inr (Or.inr (Or.inl ⟨h.1, h.2.1, h.2.2⟩)))) (fun h => h.elim)))
      have kf67_ : M60_.1 (4, 0, 0) 1 = 1 := by rw [(hF64_ (4, 0, 0) 1 (by simp [S_c_X4_next]))]; exact kf57_
      have kf68_ : M60_.1 (4, 0, 0) 2 = 1 ∨ M60_.1 (4, 0, 0) 2 = 2 ∨ M60_.1 (4, 0, 0) 2 = 3 := by rw [(hF64_ (4, 0, 0) 2 (by simp [S_c_X4_next]))]; exact kf58_
      refine w_if_lt (tgt := 72) dX4_read_65 (by decide) (rfl : r59_.toInt = r59_.toInt) (fun h69_ => ?_) (fun h69_ => ?_)
      · refine w_aload_n dX4_read_72 rfl 0 rfl ?_
        refine w_getI fl_RX4_35 rfl rfl ic_4 dX4_read_73 (fun z70_ e71_ => ?_)
        refine w_if_ge (tgt := 86) dX4_read_76 (by decide) (rfl : z70_.toInt = z70_.toInt) (fun h72_ => ?_) (fun h72_ => ?_)
        · refine w_bipush (v := (-10)) dX4_read_86 (by decide) ?_
          refine w_aload_n dX4_read_88 rfl 0 rfl ?_
          refine w_getI fl_RX4_35 rfl rfl ic_4 dX4_read_89 (fun z73_ e74_ => ?_)
          obtain rfl : z70_ = z73_ := e71_.trans e74_.symm
          refine w_isub dX4_read_92 (fun z75_ h76_ => ?_)
          exact w_iret rfl dX4_read_93 ⟨hI63_, hF65_, trivial, ⟨M1_, hM2_, (Or.inl ⟨h6_, (Or.inl ⟨h7_, M8_, hM9_, M14_, hM15_, M20_, hM21_, M26_, hM27_, M33_, hM34_, hI35_, M40_, hI43_, hF44_, hs46_, M50_, hI53_, hF54_, hs56_, M60_, hI63_, hF64_, r59_, hs66_, (Or.inl ⟨h69_, z70_, e71_, (Or.inl ⟨h72_, z75_, h76_, rfl, rfl⟩)⟩)⟩)⟩)⟩⟩
        · refine w_aload_n dX4_read_79 rfl 0 rfl ?_
          refine w_getI fl_RX4_41 rfl rfl ic_4 dX4_read_80 (fun z77_ e78_ => ?_)
          refine w_goto (tgt := 93) dX4_read_83 (by decide) ?_
          exact w_iret rfl dX4_read_93 ⟨hI63_, hF65_, trivial, ⟨M1_, hM2_, (Or.inl ⟨h6_, (Or.inl ⟨h7_, M8_, hM9_, M14_, hM15_, M20_, hM21_, M26_, hM27_, M33_, hM34_, hI35_, M40_, hI43_, hF44_, hs46_, M50_, hI53_, hF54_, hs56_, M60_, hI63_, hF64_, r59_, hs66_, (Or.inl ⟨h69_, z70_, e71_, (Or.inr ⟨h72_, z77_, e78_, rfl, rfl⟩)⟩)⟩)⟩)⟩⟩
      · refine w_aload_n dX4_read_68 rfl 0 rfl ?_
        refine w_callVv (as := []) (rest := []) (c_X4_fail l G cy ad (d + 72) M60_ hI63_) kV_X4_fail pnn_16 (Nat.le_of_ble_eq_true rfl) m_728 rfl rfl rfl ic_4 rfl rfl (by decide) (Nat.le_of_ble_eq_true rfl) dX4_read_69 (fun M79_ q80_ => ?_)
        obtain ⟨hI82_, hF83_, h81_, hs85_⟩ := q80_
        have hF84_ := hF65_.tr hF83_ (fun c k => (fun h => h.elim (fun h => (Or.inr (Or.inr (Or.inr (Or.inl ⟨h.1, h.2.1, h.2.2⟩))))) (fun h => h.elim)))
        have kf86_ : M79_.1 (4, 0, 0) 1 = 1 := by rw [(hF83_ (4, 0, 0) 1 (by simp [S_c_X4_fail]))]; exact kf67_
        have kf87_ : M79_.1 (4, 0, 0) 2 = 1 ∨ M79_.1 (4, 0, 0) 2 = 2 ∨ M79_.1 (4, 0, 0) 2 = 3 := by rw [(hF83_ (4, 0, 0) 2 (by simp [S_c_X4_fail]))]; exact kf68_
        refine w_aload_n dX4_read_72 rfl 0 rfl ?_
        refine w_getI fl_RX4_35 rfl rfl ic_4 dX4_read_73 (fun z88_ e89_ => ?_)
        refine w_if_ge (tgt := 86) dX4_read_76 (by decide) (rfl : z88_.toInt = z88_.toInt) (fun h90_ => ?_) (fun h90_ => ?_)
        · refine w_bipush (v := (-10)) dX4_read_86 (by decide) ?_
          refine w_aload_n dX4_read_88 rfl 0 rfl ?_
          refine w_getI fl_RX4_35 rfl rfl ic_4 dX4_read_89 (fun z91_ e92_ => ?_)
          obtain rfl : z88_ = z91_ := e89_.trans e92_.symm
          refine w_isub dX4_read_92 (fun z93_ h94_ => ?_)
          exact w_iret rfl dX4_read_93 ⟨hI82_, hF84_, trivial, ⟨M1_, hM2_, (Or.inl ⟨h6_, (Or.inl ⟨h7_, M8_, hM9_, M14_, hM15_, M20_, hM21_, M26_, hM27_, M33_, hM34_, hI35_, M40_, hI43_, hF44_, hs46_, M50_, hI53_, hF54_, hs56_, M60_, hI63_, hF64_, r59_, hs66_, (Or.inr ⟨h69_, M79_, hI82_, hF83_, hs85_, z88_, e89_, (Or.inl ⟨h90_, z93_, h94_, rfl, rfl⟩)⟩)⟩)⟩)⟩⟩
        · refine w_aload_n dX4_read_79 rfl 0 rfl ?_
          refine w_getI fl_RX4_41 rfl rfl ic_4 dX4_read_80 (fun z95_ e96_ => ?_)
          refine w_goto (tgt := 93) dX4_read_83 (by decide) ?_
          exact w_iret rfl dX4_read_93 ⟨hI82_, hF84_, trivial, ⟨M1_, hM2_, (Or.inl ⟨h6_, (Or.inl ⟨h7_, M8_, hM9_, M14_, hM15_, M20_, hM21_, M26_, hM27_, M33_, hM34_, hI35_, M40_, hI43_, hF44_, hs46_, M50_, hI53_, hF54_, hs56_, M60_, hI63_, hF64_, r59_, hs66_, (Or.inr ⟨h69_, M79_, hI82_, hF83_, hs85_, z88_, e89_, (Or.inr ⟨h90_, z95_, e96_, rfl, rfl⟩)⟩)⟩)⟩)⟩⟩
    · refine w_ldcS (k := 2) rfl dX4_read_20 ?_
      refine w_goto (tgt := 27) dX4_read_22 (by decide) ?_
      refine w_putD 2 CC_nd fl_RX4_27 rfl rfl ic_4 rfl rfl rfl dX4_read_27 (fun M97_ hM98_ => ?_)
      have hI99_ := hI3_.put hM98_ trivial
      have hF100_ := hF4_.put hM98_ (Or.inr (Or.inl ⟨rfl, rfl, rfl⟩))
      have kf101_ : M97_.1 (4, 0, 0) 1 = 1 := by rw [(show M97_.1 (4, 0, 0) 1 = M1_.1 (4, 0, 0) 1 by rw [hM98_, up_ne (by simp)])]; exact kf5_
      have kf102_ : M97_.1 (4, 0, 0) 2 = 1 ∨ M97_.1 (4, 0, 0) 2 = 2 ∨ M97_.1 (4, 0, 0) 2 = 3 := by rw [hM98_, up_same]; decide
      refine w_aload_n dX4_read_30 rfl 0 rfl ?_
      refine w_iconst (v := 0) dX4_read_31 (by decide) ?_
      refine w_putI CC_nd fl_RX4_31 rfl rfl ic_4 dX4_read_32 (fun M103_ hM104_ => ?_)
      have hI105_ := hI99_.put hM104_ trivial
      have hF106_ := hF100_.put hM104_ (Or.inr (Or.inr (Or.inl ⟨rfl, rfl, rfl⟩)))
      have kf107_ : M103_.1 (4, 0, 0) 1 = 1 := by rw [(show M103_.1 (4, 0, 0) 1 = M97_.1 (4, 0, 0) 1 by rw [hM104_, up_ne (by simp)])]; exact kf101_
      have kf108_ : M103_.1 (4, 0, 0) 2 = 1 ∨ M103_.1 (4, 0, 0) 2 = 2 ∨ M103_.1 (4, 0, 0) 2 = 3 := by rw [(show M103_.1 (4, 0, 0) 2 = M97_.1 (4, 0, 0) 2 by rw [hM104_, up_ne (by simp)])]; exact kf102_
      refine w_aload_n dX4_read_35 rfl 0 rfl ?_
      refine w_iconst (v := (-1)) dX4_read_36 (by decide) ?_
      refine w_putI CC_nd fl_RX4_35 rfl rfl ic_4 dX4_read_37 (fun M109_ hM110_ => ?_)
      have hI111_ := hI105_.put hM110_ trivial
      have hF112_ := hF106_.put hM110_ (Or.inr (Or.inr (Or.inr (Or.inl ⟨rfl, rfl, rfl⟩))))
      have kf113_ : M109_.1 (4, 0, 0) 1 = 1 := by rw [(show M109_.1 (4, 0, 0) 1 = M103_.1 (4, 0, 0) 1 by rw [hM110_, up_ne (by simp)])]; exact kf107_
      have kf114_ : M109_.1 (4, 0, 0) 2 = 1 ∨ M109_.1 (4, 0, 0) 2 = 2 ∨ M109_.1 (4, 0, 0) 2 = 3 := by rw [(show M109_.1 (4, 0, 0) 2 = M103_.1 (4, 0, 0) 2 by rw [hM110_, up_ne (by simp)])]; exact kf108_
      refine w_aload_n dX4_read_40 rfl 0 rfl ?_
      refine w_iconst (v := 0) dX4_read_41 (by decide) ?_
      refine w_putI CC_nd fl_RX4_38 rfl rfl ic_4 dX4_read_42 (fun M115_ hM116_ => ?_)
      have hI117_ := hI111_.put hM116_ trivial
      have hF118_ := hF112_.put hM116_ (Or.inr (Or.inr (Or.inr (Or.inr (Or.inl ⟨rfl, rfl, rfl⟩)))))
      have kf119_ : M115_.1 (4, 0, 0) 1 = 1 := by rw [(show M115_.1 (4, 0, 0) 1 = M109_.1 (4, 0, 0) 1 by rw [hM116_, up_ne (by simp)])]; exact kf113_
      have kf120_ : M115_.1 (4, 0, 0) 2 = 1 ∨ M115_.1 (4, 0, 0) 2 = 2 ∨ M115_.1 (4, 0, 0) 2 = 3 := by rw [(show M115_.1 (4, 0, 0) 2 = M109_.1 (4, 0, 0) 2 by rw [hM116_, up_ne (by simp)])]; exact kf114_
      have kf121_ : (M115_.1 (4, 0, 0) 5).toInt = 0 := by rw [hM116_, up_same]; exact (lf_c_X5_clear2_1 )
      refine w_aload_n dX4_read_45 rfl 0 rfl ?_
      refine w_iconst (v := 0) dX4_read_46 (by decide) ?_
      refine w_putI CC_nd fl_RX4_41 rfl rfl ic_4 dX4_read_47 (fun M122_ hM123_ => ?_)
      have hI124_ := hI117_.put hM123_ trivial
      have hF125_ := hF118_.put hM123_ (Or.inr (Or.inr (Or.inr (Or.inr (Or.inr (Or.inl ⟨rfl, rfl, rfl⟩))))))
      have kf126_ : M122_.1 (4, 0, 0) 1 = 1 := by rw [(show M122_.1 (4, 0, 0) 1 = M115_.1 (4, 0, 0) 1 by rw [hM123_, up_ne (by simp)])]; exact kf119_
      have kf127_ : M122_.1 (4, 0, 0) 2 = 1 ∨ M122_.1 (4, 0, 0) 2 = 2 ∨ M122_.1 (4, 0, 0) 2 = 3 := by rw [(show M122_.1 (4, 0, 0) 2 = M115_.1 (4, 0, 0) 2 by rw [hM123_, up_ne (by simp)])]; exact kf120_
      have kf128_ : (M122_.1 (4, 0, 0) 5).toInt = 0 := by rw [(show M122_.1 (4, 0, 0) 5 = M115_.1 (4, 0, 0) 5 by rw [hM123_, up_ne (by simp)])]; exact kf121_
      refine w_aload_n dX4_read_50 rfl 0 rfl ?_
      refine w_getR (c' := (1, 3, 0)) fl_RX4_10 rfl rfl ic_4 dX4_read_51 rfl ?_
      refine w_callVv (as := []) (rest := []) (c_X1_clear l G cy ad (d + 72) 3 0 M122_ hI124_ (by first | decide | (unfold vF; omega) | (unfold vRw; omega))) kV_X1_clear pnn_6 (Nat.le_of_ble_eq_true rfl) m_688 rfl rfl rfl (ic_1 (by unfold vF; omega)) rfl rfl (by decide) (Nat.le_of_ble_eq_true rfl) dX4_read_54 (fun M129_ q130_ => ?_)
      obtain ⟨hI132_, hF133_, h131_, hs135_⟩ := q130_
      have hF134_ := hF125_.tr hF133_ (fun c k => (fun h => h.elim (fun h => (Or.inr (Or.inr (Or.inr (Or.inr (Or.inr (Or.inr (Or.inl ⟨h.1, h.2.1, h.2.2.1, h.2.2.2⟩)))))))) (fun h => h.elim)))
      have kf136_ : M129_.1 (4, 0, 0) 1 = 1 := by rw [(hF133_ (4, 0, 0) 1 (by simp [S_c_X1_clear]))]; exact kf126_
      have kf137_ : M129_.1 (4, 0, 0) 2 = 1 ∨ M129_.1 (4, 0, 0) 2 = 2 ∨ M129_.1 (4, 0, 0) 2 = 3 := by rw [(hF133_ (4, 0, 0) 2 (by simp [S_c_X1_clear]))]; exact kf127_
      have kf138_ : (M129_.1 (4, 0, 0) 5).toInt = 0 := by rw [(hF133_ (4, 0, 0) 5 (by simp [S_c_X1_clear]))]; exact kf128_
      refine w_aload_n dX4_read_57 rfl 0 rfl ?_
      refine w_callVv (as := []) (rest := []) (c_X4_cmp5 l G cy ad d M129_ hI132_ kf136_ kf137_ kf138_) kV_X4_readComparisons pnn_16 (Nat.le_of_ble_eq_true rfl) m_692 rfl rfl rfl ic_4 rfl rfl (by decide) (Nat.le_of_ble_eq_true rfl) dX4_read_58 (fun M139_ q140_ => ?_)
      obtain ⟨hI142_, hF143_, h141_, hs145_⟩ := q140_
      have hF144_ := hF134_.tr hF143_ (fun c k => (fun h => h.elim (fun h => (Or.inr (Or.inr (Or.inl ⟨h.1, h.2.1, h.2.2⟩)))) (fun h => h.elim (fun h => (Or.inr (Or.inr (Or.inr (Or.inl ⟨h.1, h.2.1, h.2.2⟩))))) (fun h => h.elim (fun h => (Or.inr (Or.inr (Or.inr (Or.inr (Or.inl ⟨h.1, h.2.1, h.2.2⟩)))))) (fun h => h.elim (fun h => (Or.inr (Or.inr (Or.inr (Or.inr (Or.inr (Or.inl ⟨h.1, h.2.1, h.2.2⟩))))))) (fun h => h.elim (fun h => (Or.inr (Or.inr (Or.inr (Or.inr (Or.inr (Or.inr (Or.inl ⟨h.1, h.2.1, h.2.2.1, h.2.2.2⟩)))))))) (fun h => h.elim (fun h => (Or.inr (Or.inr (Or.inr (Or.inr (Or.inr (Or.inr (Or.inr (Or.inl ⟨h.1, h.2.1, h.2.2⟩))))))))) (fun h => h.elim))))))))
      have kf146_ : M139_.1 (4, 0, 0) 1 = 1 := by rw [(hF143_ (4, 0, 0) 1 (by simp [S_reader]))]; exact kf136_
      have kf147_ : M139_.1 (4, 0, 0) 2 = 1 ∨ M139_.1 (4, 0, 0) 2 = 2 ∨ M139_.1 (4, 0, 0) 2 = 3 := by rw [(hF143_ (4, 0, 0) 2 (by simp [S_reader]))]; exact kf137_
      refine w_aload_n dX4_read_61 rfl 0 rfl ?_
      refine w_callV (as := []) (rest := []) (c_X4_next l G cy ad (d + 71) M139_ hI142_ kf146_) kV_X4_next pnn_16 (Nat.le_of_ble_eq_true rfl) m_708 rfl rfl rfl ic_4 rfl rfl (by decide) (Nat.le_of_ble_eq_true rfl) dX4_read_62 (fun r148_ M149_ q150_ => ?_)
      obtain ⟨hI152_, hF153_, h151_, hs155_⟩ := q150_
      have hF154_ := hF144_.tr hF153_ (fun c k => (fun h => h.elim (fun h => (Or.inr (Or.inr (Or.inl ⟨h.1, h.2.1, h.2.2⟩)))) (fun h => h.elim)))
      have kf156_ : M149_.1 (4, 0, 0) 1 = 1 := by rw [(hF153_ (4, 0, 0) 1 (by simp [S_c_X4_next]))]; exact kf146_
      have kf157_ : M149_.1 (4, 0, 0) 2 = 1 ∨ M149_.1 (4, 0, 0) 2 = 2 ∨ M149_.1 (4, 0, 0) 2 = 3 := by rw [(hF153_ (4, 0, 0) 2 (by simp [S_c_X4_next]))]; exact kf147_
      refine w_if_lt (tgt := 72) dX4_read_65 (by decide) (rfl : r148_.toInt = r148_.toInt) (fun h158_ => ?_) (fun h158_ => ?_)
      · refine w_aload_n dX4_read_72 rfl 0 rfl ?_
        refine w_getI fl_RX4_35 rfl rfl ic_4 dX4_read_73 (fun z159_ e160_ => ?_)
        refine w_if_ge (tgt := 86) dX4_read_76 (by decide) (rfl : z159_.toInt = z159_.toInt) (fun h161_ => ?_) (fun h161_ => ?_)
        · refine w_bipush (v := (-10)) dX4_read_86 (by decide) ?_
          refine w_aload_n dX4_read_88 rfl 0 rfl ?_
          refine w_getI fl_RX4_35 rfl rfl ic_4 dX4_read_89 (fun z162_ e163_ => ?_)
          obtain rfl : z159_ = z162_ := e160_.trans e163_.symm
          refine w_isub dX4_read_92 (fun z164_ h165_ => ?_)
          exact w_iret rfl dX4_read_93 ⟨hI152_, hF154_, trivial, ⟨M1_, hM2_, (Or.inl ⟨h6_, (Or.inr ⟨h7_, M97_, hM98_, M103_, hM104_, M109_, hM110_, M115_, hM116_, M122_, hM123_, hI124_, M129_, hI132_, hF133_, hs135_, M139_, hI142_, hF143_, hs145_, M149_, hI152_, hF153_, r148_, hs155_, (Or.inl ⟨h158_, z159_, e160_, (Or.inl ⟨h161_, z164_, h165_, rfl, rfl⟩)⟩)⟩)⟩)⟩⟩
        · refine w_aload_n dX4_read_79 rfl 0 rfl ?_
          refine w_getI fl_RX4_41 rfl rfl ic_4 dX4_read_80 (fun z166_ e167_ => ?_)
          refine w_goto (tgt := 93) dX4_read_83 (by decide) ?_
          exact w_iret rfl dX4_read_93 ⟨hI152_, hF154_, trivial, ⟨M1_, hM2_, (Or.inl ⟨h6_, (Or.inr ⟨h7_, M97_, hM98_, M103_, hM104_, M109_, hM110_, M115_, hM116_, M122_, hM123_, hI124_, M129_, hI132_, hF133_, hs135_, M139_, hI142_, hF143_, hs145_, M149_, hI152_, hF153_, r148_, hs155_, (Or.inl ⟨h158_, z159_, e160_, (Or.inr ⟨h161_, z166_, e167_, rfl, rfl⟩)⟩)⟩)⟩)⟩⟩
      · refine w_aload_n dX4_read_68 rfl 0 rfl ?_
        refine w_callVv (as := []) (rest := []) (c_X4_fail l G cy ad (d + 72) M149_ hI152_) kV_X4_fail pnn_16 (Nat.le_of_ble_eq_true rfl) m_728 rfl rfl rfl ic_4 rfl rfl (by decide) (Nat.le_of_ble_eq_true rfl) dX4_read_69 (fun M168_ q169_ => ?_)
        obtain ⟨hI171_, hF172_, h170_, hs174_⟩ := q169_
        have hF173_ := hF154_.tr hF172_ (fun c k => (fun h => h.elim (fun h => (Or.inr (Or.inr (Or.inr (Or.inl ⟨h.1, h.2.1, h.2.2⟩))))) (fun h => h.elim)))
        have kf175_ : M168_.1 (4, 0, 0) 1 = 1 := by rw [(hF172_ (4, 0, 0) 1 (by simp [S_c_X4_fail]))]; exact kf156_
        have kf176_ : M168_.1 (4, 0, 0) 2 = 1 ∨ M168_.1 (4, 0, 0) 2 = 2 ∨ M168_.1 (4, 0, 0) 2 = 3 := by rw [(hF172_ (4, 0, 0) 2 (by simp [S_c_X4_fail]))]; exact kf157_
        refine w_aload_n dX4_read_72 rfl 0 rfl ?_
        refine w_getI fl_RX4_35 rfl rfl ic_4 dX4_read_73 (fun z177_ e178_ => ?_)
        refine w_if_ge (tgt := 86) dX4_read_76 (by decide) (rfl : z177_.toInt = z177_.toInt) (fun h179_ => ?_) (fun h179_ => ?_)
        · refine w_bipush (v := (-10)) dX4_read_86 (by decide) ?_
          refine w_aload_n dX4_read_88 rfl 0 rfl ?_
          refine w_getI fl_RX4_35 rfl rfl ic_4 dX4_read_89 (fun z180_ e181_ => ?_)
          obtain rfl : z177_ = z180_ := e178_.trans e181_.symm
          refine w_isub dX4_read_92 (fun z182_ h183_ => ?_)
          exact w_iret rfl dX4_read_93 ⟨hI171_, hF173_, trivial, ⟨M1_, hM2_, (Or.inl ⟨h6_, (Or.inr ⟨h7_, M97_, hM98_, M103_, hM104_, M109_, hM110_, M115_, hM116_, M122_, hM123_, hI124_, M129_, hI132_, hF133_, hs135_, M139_, hI142_, hF143_, hs145_, M149_, hI152_, hF153_, r148_, hs155_, (Or.inr ⟨h158_, M168_, hI171_, hF172_, hs174_, z177_, e178_, (Or.inl ⟨h179_, z182_, h183_, rfl, rfl⟩)⟩)⟩)⟩)⟩⟩
        · refine w_aload_n dX4_read_79 rfl 0 rfl ?_
          refine w_getI fl_RX4_41 rfl rfl ic_4 dX4_read_80 (fun z184_ e185_ => ?_)
          refine w_goto (tgt := 93) dX4_read_83 (by decide) ?_
          exact w_iret rfl dX4_read_93 ⟨hI171_, hF173_, trivial, ⟨M1_, hM2_, (Or.inl ⟨h6_, (Or.inr ⟨h7_, M97_, hM98_, M103_, hM104_, M109_, hM110_, M115_, hM116_, M122_, hM123_, hI124_, M129_, hI132_, hF133_, hs135_, M139_, hI142_, hF143_, hs145_, M149_, hI152_, hF153_, r148_, hs155_, (Or.inr ⟨h158_, M168_, hI171_, hF172_, hs174_, z177_, e178_, (Or.inr ⟨h179_, z184_, e185_, rfl, rfl⟩)⟩)⟩)⟩)⟩⟩
  · refine w_ldcS (k := 1) rfl dX4_read_10 ?_
    refine w_goto (tgt := 27) dX4_read_12 (by decide) ?_
    refine w_putD 1 CC_nd fl_RX4_27 rfl rfl ic_4 rfl rfl rfl dX4_read_27 (fun M186_ hM187_ => ?_)
    have hI188_ := hI3_.put hM187_ trivial
    have hF189_ := hF4_.put hM187_ (Or.inr (Or.inl ⟨rfl, rfl, rfl⟩))
    have kf190_ : M186_.1 (4, 0, 0) 1 = 1 := by rw [(show M186_.1 (4, 0, 0) 1 = M1_.1 (4, 0, 0) 1 by rw [hM187_, up_ne (by simp)])]; exact kf5_
    have kf191_ : M186_.1 (4, 0, 0) 2 = 1 ∨ M186_.1 (4, 0, 0) 2 = 2 ∨ M186_.1 (4, 0, 0) 2 = 3 := by rw [hM187_, up_same]; decide
    refine w_aload_n dX4_read_30 rfl 0 rfl ?_
    refine w_iconst (v := 0) dX4_read_31 (by decide) ?_
    refine w_putI CC_nd fl_RX4_31 rfl rfl ic_4 dX4_read_32 (fun M192_ hM193_ => ?_)
    have hI194_ := hI188_.put hM193_ trivial
    have hF195_ := hF189_.put hM193_ (Or.inr (Or.inr (Or.inl ⟨rfl, rfl, rfl⟩)))
    have kf196_ : M192_.1 (4, 0, 0) 1 = 1 := by rw [(show M192_.1 (4, 0, 0) 1 = M186_.1 (4, 0, 0) 1 by rw [hM193_, up_ne (by simp)])]; exact kf190_
    have kf197_ : M192_.1 (4, 0, 0) 2 = 1 ∨ M192_.1 (4, 0, 0) 2 = 2 ∨ M192_.1 (4, 0, 0) 2 = 3 := by rw [(show M192_.1 (4, 0, 0) 2 = M186_.1 (4, 0, 0) 2 by rw [hM193_, up_ne (by simp)])]; exact kf191_
    refine w_aload_n dX4_read_35 rfl 0 rfl ?_
    refine w_iconst (v := (-1)) dX4_read_36 (by decide) ?_
    refine w_putI CC_nd fl_RX4_35 rfl rfl ic_4 dX4_read_37 (fun M198_ hM199_ => ?_)
    have hI200_ := hI194_.put hM199_ trivial
    have hF201_ := hF195_.put hM199_ (Or.inr (Or.inr (Or.inr (Or.inl ⟨rfl, rfl, rfl⟩))))
    have kf202_ : M198_.1 (4, 0, 0) 1 = 1 := by rw [(show M198_.1 (4, 0, 0) 1 = M192_.1 (4, 0, 0) 1 by rw [hM199_, up_ne (by simp)])]; exact kf196_
    have kf203_ : M198_.1 (4, 0, 0) 2 = 1 ∨ M198_.1 (4, 0, 0) 2 = 2 ∨ M198_.1 (4, 0, 0) 2 = 3 := by rw [(show M198_.1 (4, 0, 0) 2 = M192_.1 (4, 0, 0) 2 by rw [hM199_, up_ne (by simp)])]; exact kf197_
    refine w_aload_n dX4_read_40 rfl 0 rfl ?_
    refine w_iconst (v := 0) dX4_read_41 (by decide) ?_
    refine w_putI CC_nd fl_RX4_38 rfl rfl ic_4 dX4_read_42 (fun M204_ hM205_ => ?_)
    have hI206_ := hI200_.put hM205_ trivial
    have hF207_ := hF201_.put hM205_ (Or.inr (Or.inr (Or.inr (Or.inr (Or.inl ⟨rfl, rfl, rfl⟩)))))
    have kf208_ : M204_.1 (4, 0, 0) 1 = 1 := by rw [(show M204_.1 (4, 0, 0) 1 = M198_.1 (4, 0, 0) 1 by rw [hM205_, up_ne (by simp)])]; exact kf202_
    have kf209_ : M204_.1 (4, 0, 0) 2 = 1 ∨ M204_.1 (4, 0, 0) 2 = 2 ∨ M204_.1 (4, 0, 0) 2 = 3 := by rw [(show M204_.1 (4, 0, 0) 2 = M198_.1 (4, 0, 0) 2 by rw [hM205_, up_ne (by simp)])]; exact kf203_
    have kf210_ : (M204_.1 (4, 0, 0) 5).toInt = 0 := by rw [hM205_, up_same]; exact (lf_c_X5_clear2_1 )
    refine w_aload_n dX4_read_45 rfl 0 rfl ?_
    refine w_iconst (v := 0) dX4_read_46 (by decide) ?_
    refine w_putI CC_nd fl_RX4_41 rfl rfl ic_4 dX4_read_47 (fun M211_ hM212_ => ?_)
    have hI213_ := hI206_.put hM212_ trivial
    have hF214_ := hF207_.put hM212_ (Or.inr (Or.inr (Or.inr (Or.inr (Or.inr (Or.inl ⟨rfl, rfl, rfl⟩))))))
    have kf215_ : M211_.1 (4, 0, 0) 1 = 1 := by rw [(show M211_.1 (4, 0, 0) 1 = M204_.1 (4, 0, 0) 1 by rw [hM212_, up_ne (by simp)])]; exact kf208_
    have kf216_ : M211_.1 (4, 0, 0) 2 = 1 ∨ M211_.1 (4, 0, 0) 2 = 2 ∨ M211_.1 (4, 0, 0) 2 = 3 := by rw [(show M211_.1 (4, 0, 0) 2 = M204_.1 (4, 0, 0) 2 by rw [hM212_, up_ne (by simp)])]; exact kf209_
    have kf217_ : (M211_.1 (4, 0, 0) 5).toInt = 0 := by rw [(show M211_.1 (4, 0, 0) 5 = M204_.1 (4, 0, 0) 5 by rw [hM212_, up_ne (by simp)])]; exact kf210_
    refine w_aload_n dX4_read_50 rfl 0 rfl ?_
    refine w_getR (c' := (1, 3, 0)) fl_RX4_10 rfl rfl ic_4 dX4_read_51 rfl ?_
    refine w_callVv (as := []) (rest := []) (c_X1_clear l G cy ad (d + 72) 3 0 M211_ hI213_ (by first | decide | (unfold vF; omega) | (unfold vRw; omega))) kV_X1_clear pnn_6 (Nat.le_of_ble_eq_true rfl) m_688 rfl rfl rfl (ic_1 (by unfold vF; omega)) rfl rfl (by decide) (Nat.le_of_ble_eq_true rfl) dX4_read_54 (fun M218_ q219_ => ?_)
    obtain ⟨hI221_, hF222_, h220_, hs224_⟩ := q219_
    have hF223_ := hF214_.tr hF222_ (fun c k => (fun h => h.elim (fun h => (Or.inr (Or.inr (Or.inr (Or.inr (Or.inr (Or.inr (Or.inl ⟨h.1, h.2.1, h.2.2.1, h.2.2.2⟩)))))))) (fun h => h.elim)))
    have kf225_ : M218_.1 (4, 0, 0) 1 = 1 := by rw [(hF222_ (4, 0, 0) 1 (by simp [S_c_X1_clear]))]; exact kf215_
    have kf226_ : M218_.1 (4, 0, 0) 2 = 1 ∨ M218_.1 (4, 0, 0) 2 = 2 ∨ M218_.1 (4, 0, 0) 2 = 3 := by rw [(hF222_ (4, 0, 0) 2 (by simp [S_c_X1_clear]))]; exact kf216_
    have kf227_ : (M218_.1 (4, 0, 0) 5).toInt = 0 := by rw [(hF222_ (4, 0, 0) 5 (by simp [S_c_X1_clear]))]; exact kf217_
    refine w_aload_n dX4_read_57 rfl 0 rfl ?_
    refine w_callVv (as := []) (rest := []) (c_X4_cmp5 l G cy ad d M218_ hI221_ kf225_ kf226_ kf227_) kV_X4_readComparisons pnn_16 (Nat.le_of_ble_eq_true rfl) m_692 rfl rfl rfl ic_4 rfl rfl (by decide) (Nat.le_of_ble_eq_true rfl) dX4_read_58 (fun M228_ q229_ => ?_)
    obtain ⟨hI231_, hF232_, h230_, hs234_⟩ := q229_
    have hF233_ := hF223_.tr hF232_ (fun c k => (fun h => h.elim (fun h => (Or.inr (Or.inr (Or.inl ⟨h.1, h.2.1, h.2.2⟩)))) (fun h => h.elim (fun h => (Or.inr (Or.inr (Or.inr (Or.inl ⟨h.1, h.2.1, h.2.2⟩))))) (fun h => h.elim (fun h => (Or.inr (Or.inr (Or.inr (Or.inr (Or.inl ⟨h.1, h.2.1, h.2.2⟩)))))) (fun h => h.elim (fun h => (Or.inr (Or.inr (Or.inr (Or.inr (Or.inr (Or.inl ⟨h.1, h.2.1, h.2.2⟩))))))) (fun h => h.elim (fun h => (Or.inr (Or.inr (Or.inr (Or.inr (Or.inr (Or.inr (Or.inl ⟨h.1, h.2.1, h.2.2.1, h.2.2.2⟩)))))))) (fun h => h.elim (fun h => (Or.inr (Or.inr (Or.inr (Or.inr (Or.inr (Or.inr (Or.inr (Or.inl ⟨h.1, h.2.1, h.2.2⟩))))))))) (fun h => h.elim))))))))
    have kf235_ : M228_.1 (4, 0, 0) 1 = 1 := by rw [(hF232_ (4, 0, 0) 1 (by simp [S_reader]))]; exact kf225_
    have kf236_ : M228_.1 (4, 0, 0) 2 = 1 ∨ M228_.1 (4, 0, 0) 2 = 2 ∨ M228_.1 (4, 0, 0) 2 = 3 := by rw [(hF232_ (4, 0, 0) 2 (by simp [S_reader]))]; exact kf226_
    refine w_aload_n dX4_read_61 rfl 0 rfl ?_
    refine w_callV (as := []) (rest := []) (c_X4_next l G cy ad (d + 71) M228_ hI231_ kf235_) kV_X4_next pnn_16 (Nat.le_of_ble_eq_true rfl) m_708 rfl rfl rfl ic_4 rfl rfl (by decide) (Nat.le_of_ble_eq_true rfl) dX4_read_62 (fun r237_ M238_ q239_ => ?_)
    obtain ⟨hI241_, hF242_, h240_, hs244_⟩ := q239_
    have hF243_ := hF233_.tr hF242_ (fun c k => (fun h => h.elim (fun h => (Or.inr (Or.inr (Or.inl ⟨h.1, h.2.1, h.2.2⟩)))) (fun h => h.elim)))
    have kf245_ : M238_.1 (4, 0, 0) 1 = 1 := by rw [(hF242_ (4, 0, 0) 1 (by simp [S_c_X4_next]))]; exact kf235_
    have kf246_ : M238_.1 (4, 0, 0) 2 = 1 ∨ M238_.1 (4, 0, 0) 2 = 2 ∨ M238_.1 (4, 0, 0) 2 = 3 := by rw [(hF242_ (4, 0, 0) 2 (by simp [S_c_X4_next]))]; exact kf236_
    refine w_if_lt (tgt := 72) dX4_read_65 (by decide) (rfl : r237_.toInt = r237_.toInt) (fun h247_ => ?_) (fun h247_ => ?_)
    · refine w_aload_n dX4_read_72 rfl 0 rfl ?_
      refine w_getI fl_RX4_35 rfl rfl ic_4 dX4_read_73 (fun z248_ e249_ => ?_)
      refine w_if_ge (tgt := 86) dX4_read_76 (by decide) (rfl : z248_.toInt = z248_.toInt) (fun h250_ => ?_) (fun h250_ => ?_)
      · refine w_bipush (v := (-10)) dX4_read_86 (by decide) ?_
        refine w_aload_n dX4_read_88 rfl 0 rfl ?_
        refine w_getI fl_RX4_35 rfl rfl ic_4 dX4_read_89 (fun z251_ e252_ => ?_)
        obtain rfl : z248_ = z251_ := e249_.trans e252_.symm
        refine w_isub dX4_read_92 (fun z253_ h254_ => ?_)
        exact w_iret rfl dX4_read_93 ⟨hI241_, hF243_, trivial, ⟨M1_, hM2_, (Or.inr ⟨h6_, M186_, hM187_, M192_, hM193_, M198_, hM199_, M204_, hM205_, M211_, hM212_, hI213_, M218_, hI221_, hF222_, hs224_, M228_, hI231_, hF232_, hs234_, M238_, hI241_, hF242_, r237_, hs244_, (Or.inl ⟨h247_, z248_, e249_, (Or.inl ⟨h250_, z253_, h254_, rfl, rfl⟩)⟩)⟩)⟩⟩
      · refine w_aload_n dX4_read_79 rfl 0 rfl ?_
        refine w_getI fl_RX4_41 rfl rfl ic_4 dX4_read_80 (fun z255_ e256_ => ?_)
        refine w_goto (tgt := 93) dX4_read_83 (by decide) ?_
        exact w_iret rfl dX4_read_93 ⟨hI241_, hF243_, trivial, ⟨M1_, hM2_, (Or.inr ⟨h6_, M186_, hM187_, M192_, hM193_, M198_, hM199_, M204_, hM205_, M211_, hM212_, hI213_, M218_, hI221_, hF222_, hs224_, M228_, hI231_, hF232_, hs234_, M238_, hI241_, hF242_, r237_, hs244_, (Or.inl ⟨h247_, z248_, e249_, (Or.inr ⟨h250_, z255_, e256_, rfl, rfl⟩)⟩)⟩)⟩⟩
    · refine w_aload_n dX4_read_68 rfl 0 rfl ?_
      refine w_callVv (as := []) (rest := []) (c_X4_fail l G cy ad (d + 72) M238_ hI241_) kV_X4_fail pnn_16 (Nat.le_of_ble_eq_true rfl) m_728 rfl rfl rfl ic_4 rfl rfl (by decide) (Nat.le_of_ble_eq_true rfl) dX4_read_69 (fun M257_ q258_ => ?_)
      obtain ⟨hI260_, hF261_, h259_, hs263_⟩ := q258_
      have hF262_ := hF243_.tr hF261_ (fun c k => (fun h => h.elim (fun h => (Or.inr (Or.inr (Or.inr (Or.inl ⟨h.1, h.2.1, h.2.2⟩))))) (fun h => h.elim)))
      have kf264_ : M257_.1 (4, 0, 0) 1 = 1 := by rw [(hF261_ (4, 0, 0) 1 (by simp [S_c_X4_fail]))]; exact kf245_
      have kf265_ : M257_.1 (4, 0, 0) 2 = 1 ∨ M257_.1 (4, 0, 0) 2 = 2 ∨ M257_.1 (4, 0, 0) 2 = 3 := by rw [(hF261_ (4, 0, 0) 2 (by simp [S_c_X4_fail]))]; exact kf246_
      refine w_aload_n dX4_read_72 rfl 0 rfl ?_
      refine w_getI fl_RX4_35 rfl rfl ic_4 dX4_read_73 (fun z266_ e267_ => ?_)
      refine w_if_ge (tgt := 86) dX4_read_76 (by decide) (rfl : z266_.toInt = z266_.toInt) (fun h268_ => ?_) (fun h268_ => ?_)
      · refine w_bipush (v := (-10)) dX4_read_86 (by decide) ?_
        refine w_aload_n dX4_read_88 rfl 0 rfl ?_
        refine w_getI fl_RX4_35 rfl rfl ic_4 dX4_read_89 (fun z269_ e270_ => ?_)
        obtain rfl : z266_ = z269_ := e267_.trans e270_.symm
        refine w_isub dX4_read_92 (fun z271_ h272_ => ?_)
        exact w_iret rfl dX4_read_93 ⟨hI260_, hF262_, trivial, ⟨M1_, hM2_, (Or.inr ⟨h6_, M186_, hM187_, M192_, hM193_, M198_, hM199_, M204_, hM205_, M211_, hM212_, hI213_, M218_, hI221_, hF222_, hs224_, M228_, hI231_, hF232_, hs234_, M238_, hI241_, hF242_, r237_, hs244_, (Or.inr ⟨h247_, M257_, hI260_, hF261_, hs263_, z266_, e267_, (Or.inl ⟨h268_, z271_, h272_, rfl, rfl⟩)⟩)⟩)⟩⟩
      · refine w_aload_n dX4_read_79 rfl 0 rfl ?_
        refine w_getI fl_RX4_41 rfl rfl ic_4 dX4_read_80 (fun z273_ e274_ => ?_)
        refine w_goto (tgt := 93) dX4_read_83 (by decide) ?_
        exact w_iret rfl dX4_read_93 ⟨hI260_, hF262_, trivial, ⟨M1_, hM2_, (Or.inr ⟨h6_, M186_, hM187_, M192_, hM193_, M198_, hM199_, M204_, hM205_, M211_, hM212_, hI213_, M218_, hI221_, hF222_, hs224_, M228_, hI231_, hF232_, hs234_, M238_, hI241_, hF242_, r237_, hs244_, (Or.inr ⟨h247_, M257_, hI260_, hF261_, hs263_, z266_, e267_, (Or.inr ⟨h268_, z273_, e274_, rfl, rfl⟩)⟩)⟩)⟩⟩
def S_c_X11_text : rf → Nat → Prop := fun c k => (c.1 = 4 ∧ c.2.1 = 0 ∧ k = 1) ∨ (c.1 = 4 ∧ c.2.1 = 0 ∧ k = 2) ∨ (c.1 = 4 ∧ c.2.1 = 0 ∧ k = 3) ∨ (c.1 = 4 ∧ c.2.1 = 0 ∧ k = 4) ∨ (c.1 = 4 ∧ c.2.1 = 0 ∧ k = 5) ∨ (c.1 = 4 ∧ c.2.1 = 0 ∧ k = 6) ∨ (c.1 = 1 ∧ c.2.1 = 3 ∧ c.2.2 = 0 ∧ k = 2) ∨ (c.1 = 24 ∧ c.2.1 = 3 ∧ c.2.2 = 0) ∨ (c.1 = 5 ∧ c.2.1 = 0 ∧ c.2.2 = 0 ∧ k = 1) ∨ (c.1 = 1 ∧ c.2.1 = 0 ∧ k = 2) ∨ (c.1 = 24 ∧ c.2.1 = 0) ∨ (c.1 = 44 ∧ c.2.1 = 0) ∨ False
def SP_X11_text (v : Int32) (Mz : mM) (r_ : Int32) (M_ : mM) : Prop := (((SP_X11_within v 0 2 Mz (1 : Int32)) ∧ (0 ≤ v.toInt ∧ v.toInt ≤ 2) ∧ ∃ M8_ : mM, (Inv M8_) ∧ (FR (S_c_X4_read) Mz M8_) ∧ ∃ r7_ : Int32, (SP_X4_read v Mz r7_ M8_) ∧ (((r7_.toInt < 0) ∧ ∃ M16_ : mM, (Inv M16_) ∧ (FR (S_c_X5_clear 0 0) M8_ M16_) ∧ (SP_X5_clear 0 0 M8_ M16_) ∧ r_ = r7_ ∧ M_ = M16_) ∨ ((0 ≤ r7_.toInt) ∧ ∃ j23_ : Nat, ((j23_ : Int) = v.toInt) ∧ (j23_ < 3) ∧ (vF 0 j23_) ∧ ∃ M27_ : mM, (Inv M27_) ∧ (FR (S_c_X1_takeFrom 0 j23_ 3 0) M8_ M27_) ∧ (SP_X1_takeFrom 0 j23_ 3 0 M8_ M27_) ∧ ∃ M34_ : mM, (Inv M34_) ∧ (FR (S_c_X5_clear 0 0) M27_ M34_) ∧ (SP_X5_clear 0 0 M27_ M34_) ∧ r_ = r7_ ∧ M_ = M34_))) ∨ ((SP_X11_within v 0 2 Mz (0 : Int32)) ∧ (¬ (0 ≤ v.toInt ∧ v.toInt ≤ 2)) ∧ ∃ M43_ : mM, (Inv M43_) ∧ (FR (S_c_X11_error) Mz M43_) ∧ ∃ r42_ : Int32, (SP_X11_error 1 Mz r42_ M43_) ∧ r_ = r42_ ∧ M_ = M43_))
theorem lf_c_X11_text_0 (v : Int32) (h4_ : 0 ≤ v.toInt ∧ v.toInt ≤ 2) : 0 ≤ v.toInt ∧ v.toInt < ((3 : Nat) : Int) := by omega
set_option maxHeartbeats 4000000 in
set_option maxRecDepth 100000 in
theorem c_X11_text (l : Launch) (G : va_G) (cy : Nat → ClassId) (ad : rf → Nat) (d : Nat) (v : Int32) (Mz : mM) (hIz : Inv Mz) : WP CC l G cy ad yX11_text cX11_text 3 (some .int) (d + 74) 0 [(0, vR (11, 0, 0)), (1, vI v)] [] Mz (fun r M' => Inv M' ∧ FR (S_c_X11_text) Mz M' ∧ (True) ∧ SP_X11_text v Mz r M') := by
  have hFz : FR (S_c_X11_text) Mz Mz := FR.self
  refine w_iload_n dX11_text_0 rfl 1 rfl ?_
  refine w_iconst (v := 0) dX11_text_1 (by decide) ?_
  refine w_iconst (v := 2) dX11_text_2 (by decide) ?_
  refine w_callS (as := [vI v, vI 0, vI 2]) (rest := []) (c_X11_within l G cy ad (d + 73) v 0 2 Mz hIz) kS_X11_within pnn_0 (Nat.le_of_ble_eq_true rfl) m_494 rfl rfl (by decide) (Nat.le_of_ble_eq_true rfl) dX11_text_3 (fun r1_ M2_ q3_ => ?_)
  obtain ⟨rfl, h4_, hs5_⟩ := q3_
  rcases h4_ with ⟨rfl, h4_⟩ | ⟨rfl, h4_⟩
  · simp only [li_0, li_2] at h4_
    refine w_if_ne (tgt := 15) dX11_text_6 (by decide) li_1 (fun h6_ => ?_) (fun h9 => (absurd h9 (by decide)))
    refine w_aload_n dX11_text_15 rfl 0 rfl ?_
    refine w_getR (c' := (4, 0, 0)) fl_RX11_35 rfl rfl ic_11 dX11_text_16 rfl ?_
    refine w_aload_n dX11_text_19 rfl 0 rfl ?_
    refine w_getR (c' := (10, 0, 0)) fl_RX11_10 rfl rfl ic_11 dX11_text_20 rfl ?_
    refine w_getR (c' := (5, 0, 0)) fl_RX11_192 rfl rfl (ic_10 (by decide)) dX11_text_23 rfl ?_
    refine w_iload_n dX11_text_26 rfl 1 rfl ?_
    refine w_callV (as := [vR (5, 0, 0), vI v]) (rest := []) (c_X4_read l G cy ad d v Mz hIz) kV_X4_read pnn_16 (Nat.le_of_ble_eq_true rfl) m_681 rfl rfl rfl ic_4 rfl rfl (by decide) (Nat.le_of_ble_eq_true rfl) dX11_text_27 (fun r7_ M8_ q9_ => ?_)
    obtain ⟨hI11_, hF12_, h10_, hs14_⟩ := q9_
    have hF13_ := hFz.tr hF12_ (fun c k => (fun h => h.elim (fun h => (Or.inl ⟨h.1, h.2.1, h.2.2⟩)) (fun h => h.elim (fun h => (Or.inr (Or.inl ⟨h.1, h.2.1, h.2.2⟩))) (fun h => h.elim (fun h => (Or.inr (Or.inr (Or.inl ⟨h.1, h.2.1, h.2.2⟩)))) (fun h => h.elim (fun h => (Or.inr (Or.inr (Or.inr (Or.inl ⟨h.1, h.2.1, h.2.2⟩))))) (fun h => h.elim (fun h => (Or.inr (Or.inr (Or.inr (Or.inr (Or.inl ⟨h.1, h.2.1, h.2.2⟩)))))) (fun h => h.elim (fun h => (Or.inr (Or.inr (Or.inr (Or.inr (Or.inr (Or.inl ⟨h.1, h.2.1, h.2.2⟩))))))) (fun h => h.elim (fun h => (Or.inr (Or.inr (Or.inr (Or.inr (Or.inr (Or.inr (Or.inl ⟨h.1, h.2.1, h.2.2.1, h.2.2.2⟩)))))))) (fun h => h.elim (fun h => (Or.inr (Or.inr (Or.inr (Or.inr (Or.inr (Or.inr (Or.inr (Or.inl ⟨h.1, h.2.1, h.2.2⟩))))))))) (fun h => h.elim))))))))))
    refine w_istore_n (ls' := [(2, vI r7_), (0, vR (11, 0, 0)), (1, vI v)]) dX11_text_30 rfl (by decide) rfl ?_
    refine w_iload_n dX11_text_31 rfl 0 rfl ?_
    refine w_if_lt (tgt := 57) dX11_text_32 (by decide) (rfl : r7_.toInt = r7_.toInt) (fun h15_ => ?_) (fun h15_ => ?_)
    · refine w_aload_n dX11_text_57 rfl 1 rfl ?_
      refine w_getR (c' := (10, 0, 0)) fl_RX11_10 rfl rfl ic_11 dX11_text_58 rfl ?_
      refine w_getR (c' := (5, 0, 0)) fl_RX11_192 rfl rfl (ic_10 (by decide)) dX11_text_61 rfl ?_
      refine w_callVv (as := []) (rest := []) (c_X5_clear l G cy ad (d + 73) 0 0 M8_ hI11_ (by first | decide | (unfold vF; omega) | (unfold vRw; omega))) kV_X5_clear pnn_2 (Nat.le_of_ble_eq_true rfl) m_831 rfl rfl rfl (ic_5 (by unfold vRw; omega)) rfl rfl (by decide) (Nat.le_of_ble_eq_true rfl) dX11_text_64 (fun M16_ q17_ => ?_)
      obtain ⟨hI19_, hF20_, h18_, hs22_⟩ := q17_
      have hF21_ := hF13_.tr hF20_ (fun c k => (fun h => h.elim (fun h => (Or.inr (Or.inr (Or.inr (Or.inr (Or.inr (Or.inr (Or.inr (Or.inr (Or.inl ⟨h.1, h.2.1, h.2.2.1, h.2.2.2⟩)))))))))) (fun h => h.elim)))
      refine w_iload_n dX11_text_67 rfl 0 rfl ?_
      exact w_iret rfl dX11_text_68 ⟨hI19_, hF21_, trivial, (Or.inl ⟨hs5_, h4_, M8_, hI11_, hF12_, r7_, hs14_, (Or.inl ⟨h15_, M16_, hI19_, hF20_, hs22_, rfl, rfl⟩)⟩)⟩
    · refine w_aload_n dX11_text_35 rfl 1 rfl ?_
      refine w_getR (c' := (10, 0, 0)) fl_RX11_10 rfl rfl ic_11 dX11_text_36 rfl ?_
      refine w_getR (c' := (2, 0, 0)) fl_RX11_114 rfl rfl (ic_10 (by decide)) dX11_text_39 rfl ?_
      refine w_getR (c' := (28, 0, 0)) fl_RX11_210 rfl rfl (ic_2 (by decide)) dX11_text_42 rfl ?_
      refine w_iload_n dX11_text_45 rfl 2 rfl ?_
      refine w_aald rfl rfl rfl (fun _ => rfl) (ic_28 (by decide)) (rfl : v.toInt = v.toInt) (lf_c_X11_text_0 v h4_ ) dX11_text_46 (fun j23_ h24_ h25_ => ?_)
      have h26_ : vF 0 j23_ := Or.inl ⟨(by decide), h25_⟩
      refine w_aload_n dX11_text_47 rfl 1 rfl ?_
      refine w_getR (c' := (4, 0, 0)) fl_RX11_35 rfl rfl ic_11 dX11_text_48 rfl ?_
      refine w_getR (c' := (1, 3, 0)) fl_RX11_214 rfl rfl ic_4 dX11_text_51 rfl ?_
      refine w_callVv (as := [vR (1, 3, 0)]) (rest := []) (c_X1_takeFrom l G cy ad (d + 72) 0 j23_ 3 0 M8_ hI11_ h26_ (by first | decide | (unfold vF; omega) | (unfold vRw; omega))) kV_X1_takeFrom pnn_6 (Nat.le_of_ble_eq_true rfl) m_824 rfl rfl rfl (ic_1 h26_) rfl rfl (by decide) (Nat.le_of_ble_eq_true rfl) dX11_text_54 (fun M27_ q28_ => ?_)
      obtain ⟨hI30_, hF31_, h29_, hs33_⟩ := q28_
      have hF32_ := hF13_.tr hF31_ (fun c k => (fun h => h.elim (fun h => (Or.inr (Or.inr (Or.inr (Or.inr (Or.inr (Or.inr (Or.inr (Or.inr (Or.inr (Or.inl ⟨h.1, h.2.1, h.2.2.2⟩))))))))))) (fun h => h.elim (fun h => (Or.inr (Or.inr (Or.inr (Or.inr (Or.inr (Or.inr (Or.inr (Or.inr (Or.inr (Or.inr (Or.inl ⟨h.1, h.2.1⟩)))))))))))) (fun h => h.elim))))
      refine w_aload_n dX11_text_57 rfl 1 rfl ?_
      refine w_getR (c' := (10, 0, 0)) fl_RX11_10 rfl rfl ic_11 dX11_text_58 rfl ?_
      refine w_getR (c' := (5, 0, 0)) fl_RX11_192 rfl rfl (ic_10 (by decide)) dX11_text_61 rfl ?_
      refine w_callVv (as := []) (rest := []) (c_X5_clear l G cy ad (d + 73) 0 0 M27_ hI30_ (by first | decide | (unfold vF; omega) | (unfold vRw; omega))) kV_X5_clear pnn_2 (Nat.le_of_ble_eq_true rfl) m_831 rfl rfl rfl (ic_5 (by unfold vRw; omega)) rfl rfl (by decide) (Nat.le_of_ble_eq_true rfl) dX11_text_64 (fun M34_ q35_ => ?_)
      obtain ⟨hI37_, hF38_, h36_, hs40_⟩ := q35_
      have hF39_ := hF32_.tr hF38_ (fun c k => (fun h => h.elim (fun h => (Or.inr (Or.inr (Or.inr (Or.inr (Or.inr (Or.inr (Or.inr (Or.inr (Or.inl ⟨h.1, h.2.1, h.2.2.1, h.2.2.2⟩)))))))))) (fun h => h.elim)))
      refine w_iload_n dX11_text_67 rfl 0 rfl ?_
      exact w_iret rfl dX11_text_68 ⟨hI37_, hF39_, trivial, (Or.inl ⟨hs5_, h4_, M8_, hI11_, hF12_, r7_, hs14_, (Or.inr ⟨h15_, j23_, h24_, h25_, h26_, M27_, hI30_, hF31_, hs33_, M34_, hI37_, hF38_, hs40_, rfl, rfl⟩)⟩)⟩
  · simp only [li_0, li_2] at h4_
    refine w_if_ne (tgt := 15) dX11_text_6 (by decide) li_0 (fun h9 => (absurd h9 (by decide))) (fun h41_ => ?_)
    refine w_aload_n dX11_text_9 rfl 0 rfl ?_
    refine w_iconst (v := 1) dX11_text_10 (by decide) ?_
    refine w_callV (as := [vI 1]) (rest := []) (c_X11_error l G cy ad (d + 73) 1 Mz hIz) kV_X11_error pnn_0 (Nat.le_of_ble_eq_true rfl) m_500 rfl rfl rfl ic_11 rfl rfl (by decide) (Nat.le_of_ble_eq_true rfl) dX11_text_11 (fun r42_ M43_ q44_ => ?_)
    obtain ⟨hI46_, hF47_, h45_, hs49_⟩ := q44_
    have hF48_ := hFz.tr hF47_ (fun c k => (fun h => h.elim (fun h => (Or.inr (Or.inr (Or.inr (Or.inr (Or.inr (Or.inr (Or.inr (Or.inr (Or.inr (Or.inr (Or.inr (Or.inl ⟨h.1, h.2⟩))))))))))))) (fun h => h.elim)))
    exact w_iret rfl dX11_text_14 ⟨hI46_, hF48_, trivial, (Or.inr ⟨hs5_, h4_, M43_, hI46_, hF47_, r42_, hs49_, rfl, rfl⟩)⟩
end
section
/-! the model's invariant: counts, kinds, cells, sides; texts that are well formed; sizes of sheets -/
def bI (v : Int32) (a b : Int) : Prop := a ≤ v.toInt ∧ v.toInt ≤ b
def PN (k : Nat) (v : Int32) : Prop :=
  (k = 1 → 0 ≤ v.toInt ∧ v.toInt ≤ 40) ∧ (k = 2 → 0 ≤ v.toInt ∧ v.toInt ≤ 8) ∧ (k = 3 → 0 ≤ v.toInt ∧ v.toInt ≤ 7) ∧ (k = 4 → 0 ≤ v.toInt ∧ v.toInt ≤ 48) ∧ (k = 5 → 0 ≤ v.toInt ∧ v.toInt ≤ 24) ∧
  (9 ≤ k → k ≤ 18 → 0 ≤ v.toInt ∧ v.toInt ≤ 99) ∧
  (20 ≤ k → k < 180 → (k % 4 = 0 → 0 ≤ v.toInt ∧ v.toInt ≤ 4) ∧ (k % 4 = 1 → -1 ≤ v.toInt ∧ v.toInt ≤ 191) ∧ (k % 4 = 2 → 0 ≤ v.toInt ∧ v.toInt ≤ 7)) ∧
  (180 ≤ k → k < 252 → (k % 9 = 0 → 0 ≤ v.toInt ∧ v.toInt ≤ 7) ∧ (k % 9 = 1 → 0 ≤ v.toInt ∧ v.toInt ≤ 191) ∧ (k % 9 = 2 → 0 ≤ v.toInt ∧ v.toInt ≤ 7))
/-- the pile behind one code -/
def stp (v : Int) (o : Option Nat) : Option Nat := match o with
  | none => none
  | some d => if 0 ≤ v ∧ v < 1005 then some (d + 1) else if v = 2008 then (if 1 ≤ d then some d else none) else if v = 2009 then (if 3 ≤ d then some (d - 2) else none) else if 2000 ≤ v ∧ v < 2008 then (if 2 ≤ d then some (d - 1) else none) else none
def dpt (f : Nat → Int32) (a : Nat) : Nat → Option Nat
  | 0 => some 0
  | n + 1 => stp (f (a + n)).toInt (dpt f a n)
theorem dpt_cong {f g : Nat → Int32} {a b : Nat} : ∀ n : Nat, (∀ i, i < n → f (a + i) = g (b + i)) → dpt f a n = dpt g b n
  | 0, _ => rfl
  | n + 1, h => by
    show stp _ _ = stp _ _
    rw [h n (Nat.lt_succ_self n), dpt_cong n (fun i hi => h i (Nat.lt_succ_of_lt hi))]
theorem dpt_le {f : Nat → Int32} {a n D : Nat} (h : dpt f a n = some D) : D ≤ n := by
  induction n generalizing D with
  | zero => rw [dpt] at h; cases h; exact Nat.le_refl 0
  | succ n ih =>
    rw [dpt] at h
    cases hq : dpt f a n with
    | none => rw [hq] at h; cases h
    | some e =>
      have := ih hq
      rw [hq] at h
      unfold stp at h
      dsimp only at h
      split at h
      · cases h; omega
      · split at h
        · split at h <;> cases h; omega
        · split at h
          · split at h <;> cases h; omega
          · split at h
            · split at h <;> cases h; omega
            · cases h
/-- what the next code is, where the whole text stands -/
theorem dpt_next {f : Nat → Int32} {a n m D E : Nat} (h : dpt f a n = some D) (hm : n < m) (h2 : dpt f a m = some E) : (0 ≤ (f (a + n)).toInt ∧ (f (a + n)).toInt < 1005 ∧ dpt f a (n + 1) = some (D + 1)) ∨ ((f (a + n)).toInt = 2008 ∧ 1 ≤ D ∧ dpt f a (n + 1) = some D) ∨ ((f (a + n)).toInt = 2009 ∧ 3 ≤ D ∧ dpt f a (n + 1) = some (D - 2)) ∨ (2000 ≤ (f (a + n)).toInt ∧ (f (a + n)).toInt < 2008 ∧ 2 ≤ D ∧ dpt f a (n + 1) = some (D - 1)) := by
  have hs : ∃ e, dpt f a (n + 1) = some e := by
    obtain ⟨k, rfl⟩ : ∃ k, m = n + 1 + k := ⟨m - (n + 1), by omega⟩
    clear hm h
    induction k generalizing E with
    | zero => exact ⟨E, h2⟩
    | succ k ih =>
      rw [show n + 1 + (k + 1) = (n + 1 + k) + 1 by omega, dpt] at h2
      cases hq : dpt f a (n + 1 + k) with
      | none => rw [hq] at h2; cases h2
      | some e => exact ih hq
  obtain ⟨e, he⟩ := hs
  have h3 := he
  rw [dpt, h] at h3
  rw [he]
  unfold stp at h3
  dsimp only at h3
  split at h3
  · rename_i q; cases h3; exact Or.inl ⟨q.1, q.2, rfl⟩
  · split at h3
    · rename_i q; split at h3 <;> cases h3; exact Or.inr (Or.inl ⟨q, by omega, rfl⟩)
    · split at h3
      · rename_i q; split at h3 <;> cases h3; exact Or.inr (Or.inr (Or.inl ⟨q, by omega, rfl⟩))
      · split at h3
        · rename_i q; split at h3 <;> cases h3; exact Or.inr (Or.inr (Or.inr ⟨q.1, q.2, by omega, rfl⟩))
        · cases h3
def WT (f : Nat → Int32) : Prop := ∀ u : Nat, u < 3 → ∃ n D : Nat, n ≤ 48 ∧ (f (345 + 50 * u)).toInt = (n : Int) ∧ dpt f (345 + 50 * u + 1) n = some D
def NW5 (f : Nat → Int32) : Prop := (∀ k, PN k (f k)) ∧ WT f
def IN12 (k : Nat) (v : Int32) : Prop := match k with
  | 9 => 0 ≤ v.toInt ∧ v.toInt ≤ 48
  | 10 => 0 ≤ v.toInt ∧ v.toInt ≤ 2
  | 11 => 0 ≤ v.toInt ∧ v.toInt ≤ 5
  | 13 => 0 ≤ v.toInt ∧ v.toInt ≤ 1
  | 14 => 0 ≤ v.toInt ∧ v.toInt ≤ 49
  | 22 => -1 ≤ v.toInt ∧ v.toInt ≤ 7
  | 26 => 0 ≤ v.toInt ∧ v.toInt ≤ 30
  | 27 => 0 ≤ v.toInt ∧ v.toInt ≤ 7
  | 28 => 0 ≤ v.toInt ∧ v.toInt ≤ 1
  | _ => True
abbrev EAq : List Int32 := [0, 1, 1, 1, 0, -1, -1, -1]
abbrev SOq : List Int32 := [-1, -1, 0, 1, 1, 1, 0, -1]
def IND (r k : Nat) (v : Int32) : Prop := match r with
  | 12 => IN12 k v
  | 54 => k < 8 → v = EAq.getD k 0
  | 55 => k < 8 → v = SOq.getD k 0
  | 67 => 0 ≤ v.toInt ∧ v.toInt ≤ 24
  | _ => True
def InvD (M : mM) : Prop := (∀ (c : rf) (k : Nat), IND c.1 k (M.1 c k)) ∧ NW5 (M.1 (50, 0, 0)) ∧ NW5 (M.1 (51, 0, 0)) ∧ NW5 (M.1 (52, 0, 0))
theorem InvD.put {M M' : mM} {c : rf} {k : Nat} {v : Int32} (h : InvD M) (he : M' = up M c k v) (hv : IND c.1 k v ∧ (c.1 < 50 ∨ 52 < c.1)) : InvD M' := by
  subst he
  have hn : ∀ r : Nat, 50 ≤ r → r ≤ 52 → ((r, 0, 0) : rf) ≠ c := fun r h1 h2 q => by
    have h3 := hv.2
    rw [← q] at h3
    dsimp only at h3
    omega
  refine ⟨fun c' k' => ?_, ?_, ?_, ?_⟩
  · by_cases e : c' = c ∧ k' = k
    · rw [e.1, e.2, up_same]; exact hv.1
    · rw [up_ne e]; exact h.1 c' k'
  · rw [up_other k v (hn 50 (by omega) (by omega))]; exact h.2.1
  · rw [up_other k v (hn 51 (by omega) (by omega))]; exact h.2.2.1
  · rw [up_other k v (hn 52 (by omega) (by omega))]; exact h.2.2.2
theorem WT_upd {f : Nat → Int32} {k : Nat} {v : Int32} (h : WT f) (hk : k < 345 ∨ 493 < k) : WT (upd f k v) := by
  intro u hu
  obtain ⟨n, D, h1, h2, h3⟩ := h u hu
  have hx : ∀ j, 345 ≤ j → j ≤ 493 → upd f k v j = f j := fun j a b => if_neg (by omega)
  exact ⟨n, D, h1, by rw [hx _ (by omega) (by omega)]; exact h2, by rw [dpt_cong n (fun i hi => hx _ (by omega) (by omega))]; exact h3⟩
theorem PN_upd {f : Nat → Int32} {k : Nat} {v : Int32} (h : ∀ k, PN k (f k)) (hv : PN k v) : ∀ j, PN j (upd f k v j) := fun j => by
  unfold upd
  by_cases e : j = k
  · rw [if_pos e, e]; exact hv
  · rw [if_neg e]; exact h j
/-- a number of 'now' is written: not in a text -/
theorem InvD.put50 {M M' : mM} {k : Nat} {v : Int32} (h : InvD M) (he : M' = up M (50, 0, 0) k v) (hv : PN k v ∧ (k < 345 ∨ 493 < k)) : InvD M' := by
  subst he
  refine ⟨fun c' k' => ?_, ?_, ?_, ?_⟩
  · by_cases e : c' = (50, 0, 0) ∧ k' = k
    · rw [e.1, e.2, up_same]; trivial
    · rw [up_ne e]; exact h.1 c' k'
  · rw [up_row]; exact ⟨PN_upd h.2.1.1 hv.1, WT_upd h.2.1.2 hv.2⟩
  · rw [up_other k v (by decide)]; exact h.2.2.1
  · rw [up_other k v (by decide)]; exact h.2.2.2
/-- reading -/
theorem pn_1 {M : mM} {z : Int32} (h : InvD M) (hz : z = M.1 (50, 0, 0) 1) : 0 ≤ z.toInt ∧ z.toInt ≤ 40 := by rw [hz]; exact (h.2.1.1 1).1 rfl
theorem pn_2 {M : mM} {z : Int32} (h : InvD M) (hz : z = M.1 (50, 0, 0) 2) : 0 ≤ z.toInt ∧ z.toInt ≤ 8 := by rw [hz]; exact (h.2.1.1 2).2.1 rfl
theorem pn_3 {M : mM} {z : Int32} (h : InvD M) (hz : z = M.1 (50, 0, 0) 3) : 0 ≤ z.toInt ∧ z.toInt ≤ 7 := by rw [hz]; exact (h.2.1.1 3).2.2.1 rfl
theorem pn_4 {M : mM} {z : Int32} (h : InvD M) (hz : z = M.1 (50, 0, 0) 4) : 0 ≤ z.toInt ∧ z.toInt ≤ 48 := by rw [hz]; exact (h.2.1.1 4).2.2.2.1 rfl
theorem pn_5 {M : mM} {z : Int32} (h : InvD M) (hz : z = M.1 (50, 0, 0) 5) : 0 ≤ z.toInt ∧ z.toInt ≤ 24 := by rw [hz]; exact (h.2.1.1 5).2.2.2.2.1 rfl
theorem pn_ls {M : mM} {z : Int32} {j : Nat} (h : InvD M) (hz : z = M.1 (50, 0, 0) j) (hj : 9 ≤ j ∧ j ≤ 18) : 0 ≤ z.toInt ∧ z.toInt ≤ 99 := by rw [hz]; exact (h.2.1.1 j).2.2.2.2.2.1 hj.1 hj.2
theorem pn_tk {M : mM} {z : Int32} {j : Nat} (h : InvD M) (hz : z = M.1 (50, 0, 0) j) (hj : 20 ≤ j ∧ j < 180 ∧ j % 4 = 0) : 0 ≤ z.toInt ∧ z.toInt ≤ 4 := by rw [hz]; exact ((h.2.1.1 j).2.2.2.2.2.2.1 hj.1 hj.2.1).1 hj.2.2
theorem pn_tc {M : mM} {z : Int32} {j : Nat} (h : InvD M) (hz : z = M.1 (50, 0, 0) j) (hj : 20 ≤ j ∧ j < 180 ∧ j % 4 = 1) : -1 ≤ z.toInt ∧ z.toInt ≤ 191 := by rw [hz]; exact ((h.2.1.1 j).2.2.2.2.2.2.1 hj.1 hj.2.1).2.1 hj.2.2
theorem pn_ts {M : mM} {z : Int32} {j : Nat} (h : InvD M) (hz : z = M.1 (50, 0, 0) j) (hj : 20 ≤ j ∧ j < 180 ∧ j % 4 = 2) : 0 ≤ z.toInt ∧ z.toInt ≤ 7 := by rw [hz]; exact ((h.2.1.1 j).2.2.2.2.2.2.1 hj.1 hj.2.1).2.2 hj.2.2
theorem pn_wk {M : mM} {z : Int32} {j : Nat} (h : InvD M) (hz : z = M.1 (50, 0, 0) j) (hj : 180 ≤ j ∧ j < 252 ∧ j % 9 = 0) : 0 ≤ z.toInt ∧ z.toInt ≤ 7 := by rw [hz]; exact ((h.2.1.1 j).2.2.2.2.2.2.2 hj.1 hj.2.1).1 hj.2.2
theorem pn_wc {M : mM} {z : Int32} {j : Nat} (h : InvD M) (hz : z = M.1 (50, 0, 0) j) (hj : 180 ≤ j ∧ j < 252 ∧ j % 9 = 1) : 0 ≤ z.toInt ∧ z.toInt ≤ 191 := by rw [hz]; exact ((h.2.1.1 j).2.2.2.2.2.2.2 hj.1 hj.2.1).2.1 hj.2.2
theorem pn_ws {M : mM} {z : Int32} {j : Nat} (h : InvD M) (hz : z = M.1 (50, 0, 0) j) (hj : 180 ≤ j ∧ j < 252 ∧ j % 9 = 2) : 0 ≤ z.toInt ∧ z.toInt ≤ 7 := by rw [hz]; exact ((h.2.1.1 j).2.2.2.2.2.2.2 hj.1 hj.2.1).2.2 hj.2.2
theorem pn_67 {M : mM} {z : Int32} {j : Nat} (h : InvD M) (hz : z = M.1 (67, 0, 0) j) : 0 ≤ z.toInt ∧ z.toInt ≤ 24 := by rw [hz]; exact h.1 (67, 0, 0) j
theorem ea_bnd : ∀ j, j < 8 → -1 ≤ (EAq.getD j 0).toInt ∧ (EAq.getD j 0).toInt ≤ 1 := by decide +kernel
theorem so_bnd : ∀ j, j < 8 → -1 ≤ (SOq.getD j 0).toInt ∧ (SOq.getD j 0).toInt ≤ 1 := by decide +kernel
/-- sizes of a sheet are small -/
def SZ (f : Nat → Int32) (s : Int32) (hi : Int) : Prop := ∀ j : Nat, (j : Int) = s.toInt → (f j).toInt ≤ hi
/-! where a side leads -/
def onX (c s y : Int32) : Int32 := (c - c / 16 * 16) + y * EAq.getD s.toInt.toNat 0
def onY (c s y : Int32) : Int32 := c / 16 + y * SOq.getD s.toInt.toNat 0
def onIn (c s y : Int32) : Prop := (0 ≤ (onX c s y).toInt ∧ (onX c s y).toInt ≤ 15) ∧ (0 ≤ (onY c s y).toInt ∧ (onY c s y).toInt ≤ 11)
def onP (c s y r : Int32) : Prop := (onIn c s y ∧ r.toInt = 16 * (onY c s y).toInt + (onX c s y).toInt) ∨ (¬ onIn c s y ∧ r.toInt = -1)
theorem onP_bnd {c s y r : Int32} (h : onP c s y r) : -1 ≤ r.toInt ∧ r.toInt ≤ 191 := by
  unfold onP onIn at h
  omega
theorem onP_in {c s y r : Int32} (h : onP c s y r) (h0 : 0 ≤ r.toInt) : onIn c s y := by
  rcases h with h | h
  · exact h.1
  · omega
theorem onP_of {c s y r : Int32} (h : onP c s y r) (h0 : onIn c s y) : 0 ≤ r.toInt := by
  rcases h with h | h
  · have := h.1; unfold onIn at this; omega
  · exact absurd h0 h.1
end
section
/-! words of the tables that are used, by their places; decode rows; fields -/
theorem li_180 : (180 : Int32).toInt = 180 := by decide
theorem li_191 : (191 : Int32).toInt = 191 := by decide
theorem li_384 : (384 : Int32).toInt = 384 := by decide
theorem li_495 : (495 : Int32).toInt = 495 := by decide
theorem m_57 : Cond.selects yX12_yes.cls yX12_yes yX12_yes ∈ BASE := bmem 57 (by decide +kernel) rfl
set_option maxRecDepth 20000 in
theorem m_92 : Cond.initialized RX12 ∈ BASE := bmT1 14 rfl rfl
set_option maxRecDepth 20000 in
theorem m_1323 : Cond.fieldLink RX12 9 "ClickStreetModel" "now" "[I" ∈ BASE := bmT6 45 rfl rfl
set_option maxRecDepth 20000 in
theorem m_1327 : Cond.fieldLink RX12 19 "ClickStreetModel" "found" "[I" ∈ BASE := bmT6 49 rfl rfl
set_option maxRecDepth 20000 in
theorem m_1427 : Cond.methodLink RX12 85 yX12_within ∈ BASE := bmT6 149 rfl rfl
set_option maxRecDepth 20000 in
theorem m_1428 : Cond.static yX12_within ∈ BASE := bmT6 150 rfl rfl
set_option maxRecDepth 20000 in
theorem m_1429 : Cond.code yX12_within cX12_within 3 (some .boolean) ∈ BASE := bmT6 151 rfl rfl
set_option maxRecDepth 20000 in
theorem m_1438 : Cond.constant RX12 84 (-1000000) ∈ BASE := bmT6 160 rfl rfl
set_option maxRecDepth 20000 in
theorem m_1683 : Cond.methodLink RX12 253 yX12_yes ∈ BASE := bmT7 165 rfl rfl
set_option maxRecDepth 20000 in
theorem m_1685 : Cond.instanceMethod yX12_yes ∈ BASE := bmT7 167 rfl rfl
set_option maxRecDepth 20000 in
theorem m_1686 : Cond.code yX12_yes cX12_yes 3 (some .int) ∈ BASE := bmT7 168 rfl rfl
theorem kS_X12_within : KS yX12_within cX12_within 3 (some .boolean) 3 := ⟨m_1428, m_92, m_1429, nhM_17, nhV_17, pdn_0⟩
theorem kV_X12_yes : KV yX12_yes cX12_yes 3 (some .int) 2 := ⟨m_1685, m_57, m_92, m_1686, nhM_17, nhV_17, pdn_8⟩
theorem inB12 : ∀ w ∈ u_ws RX12 TX12 33, w ∈ BASE := bmems (u_ws RX12 TX12 33) [1356, 1358, 1360, 1362, 1364, 1366, 1368, 1370, 1372, 1374, 1376, 1378, 1380, 1382, 1384, 1386, 1388, 1390, 1392, 1394, 1396, 1398, 1400, 1402, 1404, 1406, 1408, 1410, 1412, 1414, 1416, 1418, 1420] (by decide +kernel) (by decide +kernel)
theorem fl_RX12_19 : FLK RX12 19 12 4 (.array .int) true := ⟨RX12, TX12, 33, tyX12, rfl, inB12, tyX12_ok, nmX12, by decide, rfl, rfl, Or.inl m_1327⟩
theorem fl_RX12_9 : FLK RX12 9 12 0 (.array .int) true := ⟨RX12, TX12, 33, tyX12, rfl, inB12, tyX12_ok, nmX12, by decide, rfl, rfl, Or.inl m_1323⟩
theorem dX12_above_0 : decode cX12_above 0 = .ok (.iload_n 0, 1) := by decide +kernel
theorem dX12_above_1 : decode cX12_above 1 = .ok (.ifCond .ne 7, 3) := by decide +kernel
theorem dX12_above_4 : decode cX12_above 4 = .ok (.iconst (-1), 1) := by decide +kernel
theorem dX12_above_5 : decode cX12_above 5 = .ok (.goto 29, 3) := by decide +kernel
theorem dX12_above_8 : decode cX12_above 8 = .ok (.iload_n 0, 1) := by decide +kernel
theorem dX12_above_9 : decode cX12_above 9 = .ok (.iconst 5, 1) := by decide +kernel
theorem dX12_above_10 : decode cX12_above 10 = .ok (.if_icmp .eq 9, 3) := by decide +kernel
theorem dX12_above_13 : decode cX12_above 13 = .ok (.iload_n 0, 1) := by decide +kernel
theorem dX12_above_14 : decode cX12_above 14 = .ok (.bipush 7, 2) := by decide +kernel
theorem dX12_above_16 : decode cX12_above 16 = .ok (.if_icmp .ne 7, 3) := by decide +kernel
theorem dX12_above_19 : decode cX12_above 19 = .ok (.iconst 1, 1) := by decide +kernel
theorem dX12_above_20 : decode cX12_above 20 = .ok (.goto 14, 3) := by decide +kernel
theorem dX12_above_23 : decode cX12_above 23 = .ok (.iload_n 0, 1) := by decide +kernel
theorem dX12_above_24 : decode cX12_above 24 = .ok (.bipush 6, 2) := by decide +kernel
theorem dX12_above_26 : decode cX12_above 26 = .ok (.if_icmp .ne 7, 3) := by decide +kernel
theorem dX12_above_29 : decode cX12_above 29 = .ok (.iconst 3, 1) := by decide +kernel
theorem dX12_above_30 : decode cX12_above 30 = .ok (.goto 4, 3) := by decide +kernel
theorem dX12_above_33 : decode cX12_above 33 = .ok (.iconst 0, 1) := by decide +kernel
theorem dX12_above_34 : decode cX12_above 34 = .ok (.ireturn, 1) := by decide +kernel
theorem dX12_bits_0 : decode cX12_bits 0 = .ok (.iconst 0, 1) := by decide +kernel
theorem dX12_bits_1 : decode cX12_bits 1 = .ok (.istore_n 1, 1) := by decide +kernel
theorem dX12_bits_2 : decode cX12_bits 2 = .ok (.iconst 0, 1) := by decide +kernel
theorem dX12_bits_3 : decode cX12_bits 3 = .ok (.istore_n 2, 1) := by decide +kernel
theorem dX12_bits_4 : decode cX12_bits 4 = .ok (.iload_n 2, 1) := by decide +kernel
theorem dX12_bits_5 : decode cX12_bits 5 = .ok (.bipush 8, 2) := by decide +kernel
theorem dX12_bits_7 : decode cX12_bits 7 = .ok (.if_icmp .ge 17, 3) := by decide +kernel
theorem dX12_bits_10 : decode cX12_bits 10 = .ok (.iload_n 1, 1) := by decide +kernel
theorem dX12_bits_11 : decode cX12_bits 11 = .ok (.iload_n 0, 1) := by decide +kernel
theorem dX12_bits_12 : decode cX12_bits 12 = .ok (.iload_n 2, 1) := by decide +kernel
theorem dX12_bits_13 : decode cX12_bits 13 = .ok (.ishr, 1) := by decide +kernel
theorem dX12_bits_14 : decode cX12_bits 14 = .ok (.iconst 1, 1) := by decide +kernel
theorem dX12_bits_15 : decode cX12_bits 15 = .ok (.iand, 1) := by decide +kernel
theorem dX12_bits_16 : decode cX12_bits 16 = .ok (.iadd, 1) := by decide +kernel
theorem dX12_bits_17 : decode cX12_bits 17 = .ok (.istore_n 1, 1) := by decide +kernel
theorem dX12_bits_18 : decode cX12_bits 18 = .ok (.iinc 2 1, 3) := by decide +kernel
theorem dX12_bits_21 : decode cX12_bits 21 = .ok (.goto (-17), 3) := by decide +kernel
theorem dX12_bits_24 : decode cX12_bits 24 = .ok (.iload_n 1, 1) := by decide +kernel
theorem dX12_bits_25 : decode cX12_bits 25 = .ok (.ireturn, 1) := by decide +kernel
theorem ch_cX12_done_0 : (cX12_done.data.toList.drop 0).take 36 = [26, 170, 0, 0, 0, 0, 0, 100, 0, 0, 7, 208, 0, 0, 7, 214, 0, 0, 0, 43, 0, 0, 0, 54, 0, 0, 0, 65, 0, 0, 0, 76, 0, 0, 0, 80] := by decide +kernel
theorem dX12_done_0 : decode cX12_done 0 = .ok (.iload_n 0, 1) := do_26 (rdb (p := 0) (i := 0) ch_cX12_done_0 rfl)
theorem dX12_done_1 : decode cX12_done 1 = .ok (.tableswitch 100 2000 2006 #[43, 54, 65, 76, 80, 84, 88], 43) := by decide +kernel
theorem ch_cX12_done_32 : (cX12_done.data.toList.drop 32).take 36 = [0, 0, 0, 80, 0, 0, 0, 84, 0, 0, 0, 88, 27, 28, 162, 0, 7, 4, 167, 0, 4, 3, 172, 27, 28, 160, 0, 7, 4, 167, 0, 4, 3, 172, 27, 28] := by decide +kernel
theorem dX12_done_44 : decode cX12_done 44 = .ok (.iload_n 1, 1) := do_27 (rdb (p := 32) (i := 12) ch_cX12_done_32 rfl)
theorem dX12_done_45 : decode cX12_done 45 = .ok (.iload_n 2, 1) := do_28 (rdb (p := 32) (i := 13) ch_cX12_done_32 rfl)
theorem dX12_done_46 : decode cX12_done 46 = .ok (.if_icmp .ge 7, 3) := do_162 (rdb (p := 32) (i := 14) ch_cX12_done_32 rfl) (rdb (p := 32) (i := 15) ch_cX12_done_32 rfl) (rdb (p := 32) (i := 16) ch_cX12_done_32 rfl) (by decide +kernel)
theorem dX12_done_49 : decode cX12_done 49 = .ok (.iconst 1, 1) := do_4 (rdb (p := 32) (i := 17) ch_cX12_done_32 rfl)
theorem dX12_done_50 : decode cX12_done 50 = .ok (.goto 4, 3) := do_167 (rdb (p := 32) (i := 18) ch_cX12_done_32 rfl) (rdb (p := 32) (i := 19) ch_cX12_done_32 rfl) (rdb (p := 32) (i := 20) ch_cX12_done_32 rfl) (by decide +kernel)
theorem dX12_done_53 : decode cX12_done 53 = .ok (.iconst 0, 1) := do_3 (rdb (p := 32) (i := 21) ch_cX12_done_32 rfl)
theorem dX12_done_54 : decode cX12_done 54 = .ok (.ireturn, 1) := do_172 (rdb (p := 32) (i := 22) ch_cX12_done_32 rfl)
theorem dX12_done_55 : decode cX12_done 55 = .ok (.iload_n 1, 1) := do_27 (rdb (p := 32) (i := 23) ch_cX12_done_32 rfl)
theorem dX12_done_56 : decode cX12_done 56 = .ok (.iload_n 2, 1) := do_28 (rdb (p := 32) (i := 24) ch_cX12_done_32 rfl)
theorem dX12_done_57 : decode cX12_done 57 = .ok (.if_icmp .ne 7, 3) := do_160 (rdb (p := 32) (i := 25) ch_cX12_done_32 rfl) (rdb (p := 32) (i := 26) ch_cX12_done_32 rfl) (rdb (p := 32) (i := 27) ch_cX12_done_32 rfl) (by decide +kernel)
theorem dX12_done_60 : decode cX12_done 60 = .ok (.iconst 1, 1) := do_4 (rdb (p := 32) (i := 28) ch_cX12_done_32 rfl)
theorem dX12_done_61 : decode cX12_done 61 = .ok (.goto 4, 3) := do_167 (rdb (p := 32) (i := 29) ch_cX12_done_32 rfl) (rdb (p := 32) (i := 30) ch_cX12_done_32 rfl) (rdb (p := 32) (i := 31) ch_cX12_done_32 rfl) (by decide +kernel)
theorem ch_cX12_done_64 : (cX12_done.data.toList.drop 64).take 36 = [3, 172, 27, 28, 164, 0, 7, 4, 167, 0, 4, 3, 172, 27, 28, 96, 172, 27, 28, 100, 172, 27, 28, 104, 172, 28, 154, 0, 7, 3, 167, 0, 6, 27, 28, 108] := by decide +kernel
theorem dX12_done_64 : decode cX12_done 64 = .ok (.iconst 0, 1) := do_3 (rdb (p := 64) (i := 0) ch_cX12_done_64 rfl)
theorem dX12_done_65 : decode cX12_done 65 = .ok (.ireturn, 1) := do_172 (rdb (p := 64) (i := 1) ch_cX12_done_64 rfl)
theorem dX12_done_66 : decode cX12_done 66 = .ok (.iload_n 1, 1) := do_27 (rdb (p := 64) (i := 2) ch_cX12_done_64 rfl)
theorem dX12_done_67 : decode cX12_done 67 = .ok (.iload_n 2, 1) := do_28 (rdb (p := 64) (i := 3) ch_cX12_done_64 rfl)
theorem dX12_done_68 : decode cX12_done 68 = .ok (.if_icmp .le 7, 3) := do_164 (rdb (p := 64) (i := 4) ch_cX12_done_64 rfl) (rdb (p := 64) (i := 5) ch_cX12_done_64 rfl) (rdb (p := 64) (i := 6) ch_cX12_done_64 rfl) (by decide +kernel)
theorem dX12_done_71 : decode cX12_done 71 = .ok (.iconst 1, 1) := do_4 (rdb (p := 64) (i := 7) ch_cX12_done_64 rfl)
theorem dX12_done_72 : decode cX12_done 72 = .ok (.goto 4, 3) := do_167 (rdb (p := 64) (i := 8) ch_cX12_done_64 rfl) (rdb (p := 64) (i := 9) ch_cX12_done_64 rfl) (rdb (p := 64) (i := 10) ch_cX12_done_64 rfl) (by decide +kernel)
theorem dX12_done_75 : decode cX12_done 75 = .ok (.iconst 0, 1) := do_3 (rdb (p := 64) (i := 11) ch_cX12_done_64 rfl)
theorem dX12_done_76 : decode cX12_done 76 = .ok (.ireturn, 1) := do_172 (rdb (p := 64) (i := 12) ch_cX12_done_64 rfl)
theorem dX12_done_77 : decode cX12_done 77 = .ok (.iload_n 1, 1) := do_27 (rdb (p := 64) (i := 13) ch_cX12_done_64 rfl)
theorem dX12_done_78 : decode cX12_done 78 = .ok (.iload_n 2, 1) := do_28 (rdb (p := 64) (i := 14) ch_cX12_done_64 rfl)
theorem dX12_done_79 : decode cX12_done 79 = .ok (.iadd, 1) := do_96 (rdb (p := 64) (i := 15) ch_cX12_done_64 rfl)
theorem dX12_done_80 : decode cX12_done 80 = .ok (.ireturn, 1) := do_172 (rdb (p := 64) (i := 16) ch_cX12_done_64 rfl)
theorem dX12_done_81 : decode cX12_done 81 = .ok (.iload_n 1, 1) := do_27 (rdb (p := 64) (i := 17) ch_cX12_done_64 rfl)
theorem dX12_done_82 : decode cX12_done 82 = .ok (.iload_n 2, 1) := do_28 (rdb (p := 64) (i := 18) ch_cX12_done_64 rfl)
theorem dX12_done_83 : decode cX12_done 83 = .ok (.isub, 1) := do_100 (rdb (p := 64) (i := 19) ch_cX12_done_64 rfl)
theorem dX12_done_84 : decode cX12_done 84 = .ok (.ireturn, 1) := do_172 (rdb (p := 64) (i := 20) ch_cX12_done_64 rfl)
theorem dX12_done_85 : decode cX12_done 85 = .ok (.iload_n 1, 1) := do_27 (rdb (p := 64) (i := 21) ch_cX12_done_64 rfl)
theorem dX12_done_86 : decode cX12_done 86 = .ok (.iload_n 2, 1) := do_28 (rdb (p := 64) (i := 22) ch_cX12_done_64 rfl)
theorem dX12_done_87 : decode cX12_done 87 = .ok (.imul, 1) := do_104 (rdb (p := 64) (i := 23) ch_cX12_done_64 rfl)
theorem dX12_done_88 : decode cX12_done 88 = .ok (.ireturn, 1) := do_172 (rdb (p := 64) (i := 24) ch_cX12_done_64 rfl)
theorem dX12_done_89 : decode cX12_done 89 = .ok (.iload_n 2, 1) := do_28 (rdb (p := 64) (i := 25) ch_cX12_done_64 rfl)
theorem dX12_done_90 : decode cX12_done 90 = .ok (.ifCond .ne 7, 3) := do_154 (rdb (p := 64) (i := 26) ch_cX12_done_64 rfl) (rdb (p := 64) (i := 27) ch_cX12_done_64 rfl) (rdb (p := 64) (i := 28) ch_cX12_done_64 rfl) (by decide +kernel)
theorem dX12_done_93 : decode cX12_done 93 = .ok (.iconst 0, 1) := do_3 (rdb (p := 64) (i := 29) ch_cX12_done_64 rfl)
theorem dX12_done_94 : decode cX12_done 94 = .ok (.goto 6, 3) := do_167 (rdb (p := 64) (i := 30) ch_cX12_done_64 rfl) (rdb (p := 64) (i := 31) ch_cX12_done_64 rfl) (rdb (p := 64) (i := 32) ch_cX12_done_64 rfl) (by decide +kernel)
theorem ch_cX12_done_96 : (cX12_done.data.toList.drop 96).take 36 = [6, 27, 28, 108, 172, 28, 154, 0, 7, 3, 167, 0, 6, 27, 28, 112, 172] := by decide +kernel
theorem dX12_done_97 : decode cX12_done 97 = .ok (.iload_n 1, 1) := do_27 (rdb (p := 96) (i := 1) ch_cX12_done_96 rfl)
theorem dX12_done_98 : decode cX12_done 98 = .ok (.iload_n 2, 1) := do_28 (rdb (p := 96) (i := 2) ch_cX12_done_96 rfl)
theorem dX12_done_99 : decode cX12_done 99 = .ok (.idiv, 1) := do_108 (rdb (p := 96) (i := 3) ch_cX12_done_96 rfl)
theorem dX12_done_100 : decode cX12_done 100 = .ok (.ireturn, 1) := do_172 (rdb (p := 96) (i := 4) ch_cX12_done_96 rfl)
theorem dX12_done_101 : decode cX12_done 101 = .ok (.iload_n 2, 1) := do_28 (rdb (p := 96) (i := 5) ch_cX12_done_96 rfl)
theorem dX12_done_102 : decode cX12_done 102 = .ok (.ifCond .ne 7, 3) := do_154 (rdb (p := 96) (i := 6) ch_cX12_done_96 rfl) (rdb (p := 96) (i := 7) ch_cX12_done_96 rfl) (rdb (p := 96) (i := 8) ch_cX12_done_96 rfl) (by decide +kernel)
theorem dX12_done_105 : decode cX12_done 105 = .ok (.iconst 0, 1) := do_3 (rdb (p := 96) (i := 9) ch_cX12_done_96 rfl)
theorem dX12_done_106 : decode cX12_done 106 = .ok (.goto 6, 3) := do_167 (rdb (p := 96) (i := 10) ch_cX12_done_96 rfl) (rdb (p := 96) (i := 11) ch_cX12_done_96 rfl) (rdb (p := 96) (i := 12) ch_cX12_done_96 rfl) (by decide +kernel)
theorem dX12_done_109 : decode cX12_done 109 = .ok (.iload_n 1, 1) := do_27 (rdb (p := 96) (i := 13) ch_cX12_done_96 rfl)
theorem dX12_done_110 : decode cX12_done 110 = .ok (.iload_n 2, 1) := do_28 (rdb (p := 96) (i := 14) ch_cX12_done_96 rfl)
theorem dX12_done_111 : decode cX12_done 111 = .ok (.irem, 1) := do_112 (rdb (p := 96) (i := 15) ch_cX12_done_96 rfl)
theorem dX12_done_112 : decode cX12_done 112 = .ok (.ireturn, 1) := do_172 (rdb (p := 96) (i := 16) ch_cX12_done_96 rfl)
theorem dX12_ear_0 : decode cX12_ear 0 = .ok (.iload_n 1, 1) := by decide +kernel
theorem dX12_ear_1 : decode cX12_ear 1 = .ok (.iload_n 2, 1) := by decide +kernel
theorem dX12_ear_2 : decode cX12_ear 2 = .ok (.isub, 1) := by decide +kernel
theorem dX12_ear_3 : decode cX12_ear 3 = .ok (.iload_n 3, 1) := by decide +kernel
theorem dX12_ear_4 : decode cX12_ear 4 = .ok (.isub, 1) := by decide +kernel
theorem dX12_ear_5 : decode cX12_ear 5 = .ok (.bipush 16, 2) := by decide +kernel
theorem dX12_ear_7 : decode cX12_ear 7 = .ok (.iadd, 1) := by decide +kernel
theorem dX12_ear_8 : decode cX12_ear 8 = .ok (.bipush 7, 2) := by decide +kernel
theorem dX12_ear_10 : decode cX12_ear 10 = .ok (.iand, 1) := by decide +kernel
theorem dX12_ear_11 : decode cX12_ear 11 = .ok (.istore 4, 2) := by decide +kernel
theorem dX12_ear_13 : decode cX12_ear 13 = .ok (.iload 4, 2) := by decide +kernel
theorem dX12_ear_15 : decode cX12_ear 15 = .ok (.iconst 3, 1) := by decide +kernel
theorem dX12_ear_16 : decode cX12_ear 16 = .ok (.if_icmp .ge 9, 3) := by decide +kernel
theorem dX12_ear_19 : decode cX12_ear 19 = .ok (.iload_n 0, 1) := by decide +kernel
theorem dX12_ear_20 : decode cX12_ear 20 = .ok (.iconst 2, 1) := by decide +kernel
theorem dX12_ear_21 : decode cX12_ear 21 = .ok (.idiv, 1) := by decide +kernel
theorem dX12_ear_22 : decode cX12_ear 22 = .ok (.goto 4, 3) := by decide +kernel
theorem dX12_ear_25 : decode cX12_ear 25 = .ok (.iload_n 0, 1) := by decide +kernel
theorem dX12_ear_26 : decode cX12_ear 26 = .ok (.ireturn, 1) := by decide +kernel
theorem dX12_finding_0 : decode cX12_finding 0 = .ok (.aload_n 0, 1) := by decide +kernel
theorem dX12_finding_1 : decode cX12_finding 1 = .ok (.getfield 19, 3) := by decide +kernel
theorem dX12_finding_4 : decode cX12_finding 4 = .ok (.ldc 84, 2) := by decide +kernel
theorem dX12_finding_6 : decode cX12_finding 6 = .ok (.iload_n 1, 1) := by decide +kernel
theorem dX12_finding_7 : decode cX12_finding 7 = .ok (.isub, 1) := by decide +kernel
theorem dX12_finding_8 : decode cX12_finding 8 = .ok (.dup2, 1) := by decide +kernel
theorem dX12_finding_9 : decode cX12_finding 9 = .ok (.iaload, 1) := by decide +kernel
theorem dX12_finding_10 : decode cX12_finding 10 = .ok (.iconst 1, 1) := by decide +kernel
theorem dX12_finding_11 : decode cX12_finding 11 = .ok (.iadd, 1) := by decide +kernel
theorem dX12_finding_12 : decode cX12_finding 12 = .ok (.iastore, 1) := by decide +kernel
theorem dX12_finding_13 : decode cX12_finding 13 = .ok (.iload_n 1, 1) := by decide +kernel
theorem dX12_finding_14 : decode cX12_finding 14 = .ok (.ireturn, 1) := by decide +kernel
theorem dX12_goer_0 : decode cX12_goer 0 = .ok (.sipush 180, 3) := by decide +kernel
theorem dX12_goer_3 : decode cX12_goer 3 = .ok (.bipush 9, 2) := by decide +kernel
theorem dX12_goer_5 : decode cX12_goer 5 = .ok (.iload_n 1, 1) := by decide +kernel
theorem dX12_goer_6 : decode cX12_goer 6 = .ok (.imul, 1) := by decide +kernel
theorem dX12_goer_7 : decode cX12_goer 7 = .ok (.iadd, 1) := by decide +kernel
theorem dX12_goer_8 : decode cX12_goer 8 = .ok (.ireturn, 1) := by decide +kernel
theorem dX12_is_0 : decode cX12_is 0 = .ok (.iload_n 1, 1) := by decide +kernel
theorem dX12_is_1 : decode cX12_is 1 = .ok (.iconst 0, 1) := by decide +kernel
theorem dX12_is_2 : decode cX12_is 2 = .ok (.aload_n 0, 1) := by decide +kernel
theorem dX12_is_3 : decode cX12_is 3 = .ok (.getfield 9, 3) := by decide +kernel
theorem dX12_is_6 : decode cX12_is 6 = .ok (.iload_n 2, 1) := by decide +kernel
theorem dX12_is_7 : decode cX12_is 7 = .ok (.iaload, 1) := by decide +kernel
theorem dX12_is_8 : decode cX12_is 8 = .ok (.iconst 1, 1) := by decide +kernel
theorem dX12_is_9 : decode cX12_is 9 = .ok (.isub, 1) := by decide +kernel
theorem dX12_is_10 : decode cX12_is 10 = .ok (.invokestatic 85, 3) := by decide +kernel
theorem dX12_is_13 : decode cX12_is 13 = .ok (.ireturn, 1) := by decide +kernel
theorem dX12_isCell_0 : decode cX12_isCell 0 = .ok (.iload_n 0, 1) := by decide +kernel
theorem dX12_isCell_1 : decode cX12_isCell 1 = .ok (.iconst 0, 1) := by decide +kernel
theorem dX12_isCell_2 : decode cX12_isCell 2 = .ok (.sipush 191, 3) := by decide +kernel
theorem dX12_isCell_5 : decode cX12_isCell 5 = .ok (.invokestatic 85, 3) := by decide +kernel
theorem dX12_isCell_8 : decode cX12_isCell 8 = .ok (.ireturn, 1) := by decide +kernel
theorem dX12_isClick_0 : decode cX12_isClick 0 = .ok (.iload_n 1, 1) := by decide +kernel
theorem dX12_isClick_1 : decode cX12_isClick 1 = .ok (.bipush 100, 2) := by decide +kernel
theorem dX12_isClick_3 : decode cX12_isClick 3 = .ok (.sipush 999, 3) := by decide +kernel
theorem dX12_isClick_6 : decode cX12_isClick 6 = .ok (.invokestatic 85, 3) := by decide +kernel
theorem dX12_isClick_9 : decode cX12_isClick 9 = .ok (.ifCond .eq 14, 3) := by decide +kernel
theorem dX12_isClick_12 : decode cX12_isClick 12 = .ok (.iload_n 1, 1) := by decide +kernel
theorem dX12_isClick_13 : decode cX12_isClick 13 = .ok (.bipush 100, 2) := by decide +kernel
theorem dX12_isClick_15 : decode cX12_isClick 15 = .ok (.irem, 1) := by decide +kernel
theorem dX12_isClick_16 : decode cX12_isClick 16 = .ok (.ifCond .le 7, 3) := by decide +kernel
theorem dX12_isClick_19 : decode cX12_isClick 19 = .ok (.iconst 1, 1) := by decide +kernel
theorem dX12_isClick_20 : decode cX12_isClick 20 = .ok (.goto 4, 3) := by decide +kernel
theorem dX12_isClick_23 : decode cX12_isClick 23 = .ok (.iconst 0, 1) := by decide +kernel
theorem dX12_isClick_24 : decode cX12_isClick 24 = .ok (.ireturn, 1) := by decide +kernel
theorem dX12_isSheet_0 : decode cX12_isSheet 0 = .ok (.iload_n 0, 1) := by decide +kernel
theorem dX12_isSheet_1 : decode cX12_isSheet 1 = .ok (.iconst 0, 1) := by decide +kernel
theorem dX12_isSheet_2 : decode cX12_isSheet 2 = .ok (.iconst 3, 1) := by decide +kernel
theorem dX12_isSheet_3 : decode cX12_isSheet 3 = .ok (.invokestatic 85, 3) := by decide +kernel
theorem dX12_isSheet_6 : decode cX12_isSheet 6 = .ok (.ireturn, 1) := by decide +kernel
theorem dX12_isSide_0 : decode cX12_isSide 0 = .ok (.iload_n 0, 1) := by decide +kernel
theorem dX12_isSide_1 : decode cX12_isSide 1 = .ok (.iconst 0, 1) := by decide +kernel
theorem dX12_isSide_2 : decode cX12_isSide 2 = .ok (.bipush 7, 2) := by decide +kernel
theorem dX12_isSide_4 : decode cX12_isSide 4 = .ok (.invokestatic 85, 3) := by decide +kernel
theorem dX12_isSide_7 : decode cX12_isSide 7 = .ok (.ireturn, 1) := by decide +kernel
theorem dX12_late_0 : decode cX12_late 0 = .ok (.iload_n 0, 1) := by decide +kernel
theorem dX12_late_1 : decode cX12_late 1 = .ok (.iconst 2, 1) := by decide +kernel
theorem dX12_late_2 : decode cX12_late 2 = .ok (.irem, 1) := by decide +kernel
theorem dX12_late_3 : decode cX12_late 3 = .ok (.iconst 1, 1) := by decide +kernel
theorem dX12_late_4 : decode cX12_late 4 = .ok (.if_icmp .ne 8, 3) := by decide +kernel
theorem dX12_late_7 : decode cX12_late 7 = .ok (.bipush 8, 2) := by decide +kernel
theorem dX12_late_9 : decode cX12_late 9 = .ok (.goto 5, 3) := by decide +kernel
theorem dX12_late_12 : decode cX12_late 12 = .ok (.bipush 6, 2) := by decide +kernel
theorem dX12_late_14 : decode cX12_late 14 = .ok (.iload_n 1, 1) := by decide +kernel
theorem dX12_late_15 : decode cX12_late 15 = .ok (.imul, 1) := by decide +kernel
theorem dX12_late_16 : decode cX12_late 16 = .ok (.ireturn, 1) := by decide +kernel
theorem dX12_no_0 : decode cX12_no 0 = .ok (.aload_n 0, 1) := by decide +kernel
theorem dX12_no_1 : decode cX12_no 1 = .ok (.iload_n 1, 1) := by decide +kernel
theorem dX12_no_2 : decode cX12_no 2 = .ok (.iload_n 2, 1) := by decide +kernel
theorem dX12_no_3 : decode cX12_no 3 = .ok (.invokevirtual 253, 3) := by decide +kernel
theorem dX12_no_6 : decode cX12_no 6 = .ok (.sipush 192, 3) := by decide +kernel
theorem dX12_no_9 : decode cX12_no 9 = .ok (.iadd, 1) := by decide +kernel
theorem dX12_no_10 : decode cX12_no 10 = .ok (.ireturn, 1) := by decide +kernel
theorem dX12_thing_0 : decode cX12_thing 0 = .ok (.bipush 20, 2) := by decide +kernel
theorem dX12_thing_2 : decode cX12_thing 2 = .ok (.iconst 4, 1) := by decide +kernel
theorem dX12_thing_3 : decode cX12_thing 3 = .ok (.iload_n 1, 1) := by decide +kernel
theorem dX12_thing_4 : decode cX12_thing 4 = .ok (.imul, 1) := by decide +kernel
theorem dX12_thing_5 : decode cX12_thing 5 = .ok (.iadd, 1) := by decide +kernel
theorem dX12_thing_6 : decode cX12_thing 6 = .ok (.ireturn, 1) := by decide +kernel
theorem dX12_within_0 : decode cX12_within 0 = .ok (.iload_n 0, 1) := by decide +kernel
theorem dX12_within_1 : decode cX12_within 1 = .ok (.iload_n 1, 1) := by decide +kernel
theorem dX12_within_2 : decode cX12_within 2 = .ok (.if_icmp .lt 12, 3) := by decide +kernel
theorem dX12_within_5 : decode cX12_within 5 = .ok (.iload_n 0, 1) := by decide +kernel
theorem dX12_within_6 : decode cX12_within 6 = .ok (.iload_n 2, 1) := by decide +kernel
theorem dX12_within_7 : decode cX12_within 7 = .ok (.if_icmp .gt 7, 3) := by decide +kernel
theorem dX12_within_10 : decode cX12_within 10 = .ok (.iconst 1, 1) := by decide +kernel
theorem dX12_within_11 : decode cX12_within 11 = .ok (.goto 4, 3) := by decide +kernel
theorem dX12_within_14 : decode cX12_within 14 = .ok (.iconst 0, 1) := by decide +kernel
theorem dX12_within_15 : decode cX12_within 15 = .ok (.ireturn, 1) := by decide +kernel
theorem dX12_yes_0 : decode cX12_yes 0 = .ok (.sipush 495, 3) := by decide +kernel
theorem dX12_yes_3 : decode cX12_yes 3 = .ok (.sipush 384, 3) := by decide +kernel
theorem dX12_yes_6 : decode cX12_yes 6 = .ok (.iload_n 1, 1) := by decide +kernel
theorem dX12_yes_7 : decode cX12_yes 7 = .ok (.imul, 1) := by decide +kernel
theorem dX12_yes_8 : decode cX12_yes 8 = .ok (.iadd, 1) := by decide +kernel
theorem dX12_yes_9 : decode cX12_yes 9 = .ok (.iload_n 2, 1) := by decide +kernel
theorem dX12_yes_10 : decode cX12_yes 10 = .ok (.iadd, 1) := by decide +kernel
theorem dX12_yes_11 : decode cX12_yes 11 = .ok (.ireturn, 1) := by decide +kernel
end
section
def S_c_X12_finding : rf → Nat → Prop := fun c k => (c.1 = 53 ∧ c.2.1 = 0) ∨ False
def SP_X12_finding (v : Int32) (Mz : mM) (r_ : Int32) (M_ : mM) : Prop := ∃ z1_ : Int32, (z1_.toInt = -1000000 - v.toInt) ∧ ∃ j5_ : Nat, ((j5_ : Int) = z1_.toInt) ∧ ∃ z3_ : Int32, (z3_ = Mz.1 (53, 0, 0) j5_) ∧ ∃ z7_ : Int32, (z7_ = z3_ + (1 : Int32)) ∧ ∃ j11_ : Nat, ((j11_ : Int) = z1_.toInt) ∧ ∃ M9_ : mM, (M9_ = up Mz (53, 0, 0) j11_ z7_) ∧ r_ = v ∧ M_ = M9_
theorem lf_c_X12_finding_0 (v : Int32) (hv : -1000006 ≤ v.toInt ∧ v.toInt ≤ -1000000) : -2147483648 ≤ -1000000 - v.toInt ∧ -1000000 - v.toInt < 2147483648 := by omega
theorem lf_c_X12_finding_1 (v : Int32) (z1_ : Int32) (hv : -1000006 ≤ v.toInt ∧ v.toInt ≤ -1000000) (h2_ : z1_.toInt = -1000000 - v.toInt) : 0 ≤ z1_.toInt ∧ z1_.toInt < ((7 : Nat) : Int) := by omega
theorem lf_c_X12_finding_2 (v : Int32) (z1_ : Int32) (j5_ : Nat) (hv : -1000006 ≤ v.toInt ∧ v.toInt ≤ -1000000) (h2_ : z1_.toInt = -1000000 - v.toInt) (h6_ : (j5_ : Int) = z1_.toInt) : 0 ≤ z1_.toInt ∧ z1_.toInt < ((7 : Nat) : Int) := by omega
theorem lf_c_X12_finding_3 (v : Int32) : v.toInt = v.toInt := by omega
set_option maxHeartbeats 4000000 in
set_option maxRecDepth 100000 in
theorem c_X12_finding (l : Launch) (G : va_G) (cy : Nat → ClassId) (ad : rf → Nat) (d : Nat) (v : Int32) (Mz : mM) (hIz : InvD Mz) (hv : -1000006 ≤ v.toInt ∧ v.toInt ≤ -1000000) : WP DD l G cy ad yX12_finding cX12_finding 2 (some .int) d 0 [(0, vR (12, 0, 0)), (1, vI v)] [] Mz (fun r M' => InvD M' ∧ FR (S_c_X12_finding) Mz M' ∧ (r.toInt = v.toInt) ∧ SP_X12_finding v Mz r M') := by
  have hFz : FR (S_c_X12_finding) Mz Mz := FR.self
  refine w_aload_n dX12_finding_0 rfl 0 rfl ?_
  refine w_getR (c' := (53, 0, 0)) fl_RX12_19 rfl rfl ic_12 dX12_finding_1 rfl ?_
  refine w_ldc (v := (-1000000)) m_1438 dX12_finding_4 ?_
  refine w_iload_n dX12_finding_6 rfl 1 rfl ?_
  refine w_isubB dX12_finding_7 li_m1000000 (rfl : v.toInt = v.toInt) (lf_c_X12_finding_0 v hv ) (fun z1_ h2_ => ?_)
  refine w_dup2 dX12_finding_8 rfl rfl ?_
  refine w_iald rfl rfl ic_53 (rfl : z1_.toInt = z1_.toInt) (lf_c_X12_finding_1 v z1_ hv h2_ ) dX12_finding_9 (fun j5_ h6_ z3_ e4_ => ?_)
  refine w_iconst (v := 1) dX12_finding_10 (by decide) ?_
  refine w_iadd dX12_finding_11 (fun z7_ h8_ => ?_)
  refine w_iast DD_nd rfl rfl ic_53 (rfl : z1_.toInt = z1_.toInt) (lf_c_X12_finding_2 v z1_ j5_ hv h2_ h6_ ) dX12_finding_12 (fun j11_ h12_ M9_ hM10_ => ?_)
  have hI13_ := hIz.put hM10_ ⟨trivial, Or.inr (by decide)⟩
  have hF14_ := hFz.put hM10_ (Or.inl ⟨rfl, rfl⟩)
  refine w_iload_n dX12_finding_13 rfl 1 rfl ?_
  exact w_iret rfl dX12_finding_14 ⟨hI13_, hF14_, (lf_c_X12_finding_3 v ), ⟨z1_, h2_, j5_, h6_, z3_, e4_, z7_, h8_, j11_, h12_, M9_, hM10_, rfl, rfl⟩⟩
def SP_X12_within (v : Int32) (lo : Int32) (hi : Int32) (Mz : mM) (r_ : Int32) : Prop := (((v.toInt < lo.toInt) ∧ r_ = 0) ∨ ((lo.toInt ≤ v.toInt) ∧ (((hi.toInt < v.toInt) ∧ r_ = 0) ∨ ((v.toInt ≤ hi.toInt) ∧ r_ = 1))))
set_option maxHeartbeats 4000000 in
set_option maxRecDepth 100000 in
theorem c_X12_within (l : Launch) (G : va_G) (cy : Nat → ClassId) (ad : rf → Nat) (d : Nat) (v : Int32) (lo : Int32) (hi : Int32) (Mz : mM) (hIz : InvD Mz) : WP DD l G cy ad yX12_within cX12_within 3 (some .boolean) d 0 [(0, vI v), (1, vI lo), (2, vI hi)] [] Mz (fun r M' => Mz = M' ∧ (((r = 1 ∧ lo.toInt ≤ v.toInt ∧ v.toInt ≤ hi.toInt) ∨ (r = 0 ∧ ¬ (lo.toInt ≤ v.toInt ∧ v.toInt ≤ hi.toInt)))) ∧ SP_X12_within v lo hi Mz r) := by
  refine w_iload_n dX12_within_0 rfl 0 rfl ?_
  refine w_iload_n dX12_within_1 rfl 1 rfl ?_
  refine w_icmp_lt (tgt := 14) dX12_within_2 (by decide) (rfl : v.toInt = v.toInt) (rfl : lo.toInt = lo.toInt) (fun h1_ => ?_) (fun h1_ => ?_)
  · refine w_iconst (v := 0) dX12_within_14 (by decide) ?_
    exact w_zret rfl dX12_within_15 ⟨by decide, by decide⟩ ⟨rfl, (Or.inr ⟨rfl, (lf_c_X11_within_0 v lo hi h1_ )⟩), (Or.inl ⟨h1_, rfl⟩)⟩
  · refine w_iload_n dX12_within_5 rfl 0 rfl ?_
    refine w_iload_n dX12_within_6 rfl 2 rfl ?_
    refine w_icmp_gt (tgt := 14) dX12_within_7 (by decide) (rfl : v.toInt = v.toInt) (rfl : hi.toInt = hi.toInt) (fun h2_ => ?_) (fun h2_ => ?_)
    · refine w_iconst (v := 0) dX12_within_14 (by decide) ?_
      exact w_zret rfl dX12_within_15 ⟨by decide, by decide⟩ ⟨rfl, (Or.inr ⟨rfl, (lf_c_X11_within_1 v lo hi h2_ )⟩), (Or.inr ⟨h1_, (Or.inl ⟨h2_, rfl⟩)⟩)⟩
    · refine w_iconst (v := 1) dX12_within_10 (by decide) ?_
      refine w_goto (tgt := 15) dX12_within_11 (by decide) ?_
      exact w_zret rfl dX12_within_15 ⟨by decide, by decide⟩ ⟨rfl, (Or.inl ⟨rfl, (lf_c_X11_within_2 v lo hi h1_ h2_ )⟩), (Or.inr ⟨h1_, (Or.inr ⟨h2_, rfl⟩)⟩)⟩
def SP_X12_isCell (v : Int32) (Mz : mM) (r_ : Int32) : Prop := (((SP_X12_within v 0 191 Mz (1 : Int32)) ∧ (0 ≤ v.toInt ∧ v.toInt ≤ 191) ∧ r_ = 1) ∨ ((SP_X12_within v 0 191 Mz (0 : Int32)) ∧ (¬ (0 ≤ v.toInt ∧ v.toInt ≤ 191)) ∧ r_ = 0))
set_option maxHeartbeats 4000000 in
set_option maxRecDepth 100000 in
theorem c_X12_isCell (l : Launch) (G : va_G) (cy : Nat → ClassId) (ad : rf → Nat) (d : Nat) (v : Int32) (Mz : mM) (hIz : InvD Mz) : WP DD l G cy ad yX12_isCell cX12_isCell 1 (some .boolean) (d + 1) 0 [(0, vI v)] [] Mz (fun r M' => Mz = M' ∧ (((r = 1 ∧ 0 ≤ v.toInt ∧ v.toInt ≤ 191) ∨ (r = 0 ∧ ¬ (0 ≤ v.toInt ∧ v.toInt ≤ 191)))) ∧ SP_X12_isCell v Mz r) := by
  refine w_iload_n dX12_isCell_0 rfl 0 rfl ?_
  refine w_iconst (v := 0) dX12_isCell_1 (by decide) ?_
  refine w_sipush (v := 191) dX12_isCell_2 (by decide) ?_
  refine w_callS (as := [vI v, vI 0, vI 191]) (rest := []) (c_X12_within l G cy ad d v 0 191 Mz hIz) kS_X12_within pnn_17 (Nat.le_of_ble_eq_true rfl) m_1427 rfl rfl (by decide) (Nat.le_of_ble_eq_true rfl) dX12_isCell_5 (fun r1_ M2_ q3_ => ?_)
  obtain ⟨rfl, h4_, hs5_⟩ := q3_
  rcases h4_ with ⟨rfl, h4_⟩ | ⟨rfl, h4_⟩
  · simp only [li_0, li_191] at h4_
    exact w_zret rfl dX12_isCell_8 ⟨by decide, by decide⟩ ⟨rfl, (Or.inl ⟨rfl, h4_⟩), (Or.inl ⟨hs5_, h4_, rfl⟩)⟩
  · simp only [li_0, li_191] at h4_
    exact w_zret rfl dX12_isCell_8 ⟨by decide, by decide⟩ ⟨rfl, (Or.inr ⟨rfl, h4_⟩), (Or.inr ⟨hs5_, h4_, rfl⟩)⟩
def SP_X12_isSide (v : Int32) (Mz : mM) (r_ : Int32) : Prop := (((SP_X12_within v 0 7 Mz (1 : Int32)) ∧ (0 ≤ v.toInt ∧ v.toInt ≤ 7) ∧ r_ = 1) ∨ ((SP_X12_within v 0 7 Mz (0 : Int32)) ∧ (¬ (0 ≤ v.toInt ∧ v.toInt ≤ 7)) ∧ r_ = 0))
set_option maxHeartbeats 4000000 in
set_option maxRecDepth 100000 in
theorem c_X12_isSide (l : Launch) (G : va_G) (cy : Nat → ClassId) (ad : rf → Nat) (d : Nat) (v : Int32) (Mz : mM) (hIz : InvD Mz) : WP DD l G cy ad yX12_isSide cX12_isSide 1 (some .boolean) (d + 1) 0 [(0, vI v)] [] Mz (fun r M' => Mz = M' ∧ (((r = 1 ∧ 0 ≤ v.toInt ∧ v.toInt ≤ 7) ∨ (r = 0 ∧ ¬ (0 ≤ v.toInt ∧ v.toInt ≤ 7)))) ∧ SP_X12_isSide v Mz r) := by
  refine w_iload_n dX12_isSide_0 rfl 0 rfl ?_
  refine w_iconst (v := 0) dX12_isSide_1 (by decide) ?_
  refine w_bipush (v := 7) dX12_isSide_2 (by decide) ?_
  refine w_callS (as := [vI v, vI 0, vI 7]) (rest := []) (c_X12_within l G cy ad d v 0 7 Mz hIz) kS_X12_within pnn_17 (Nat.le_of_ble_eq_true rfl) m_1427 rfl rfl (by decide) (Nat.le_of_ble_eq_true rfl) dX12_isSide_4 (fun r1_ M2_ q3_ => ?_)
  obtain ⟨rfl, h4_, hs5_⟩ := q3_
  rcases h4_ with ⟨rfl, h4_⟩ | ⟨rfl, h4_⟩
  · simp only [li_0, li_7] at h4_
    exact w_zret rfl dX12_isSide_7 ⟨by decide, by decide⟩ ⟨rfl, (Or.inl ⟨rfl, h4_⟩), (Or.inl ⟨hs5_, h4_, rfl⟩)⟩
  · simp only [li_0, li_7] at h4_
    exact w_zret rfl dX12_isSide_7 ⟨by decide, by decide⟩ ⟨rfl, (Or.inr ⟨rfl, h4_⟩), (Or.inr ⟨hs5_, h4_, rfl⟩)⟩
def SP_X12_isSheet (v : Int32) (Mz : mM) (r_ : Int32) : Prop := (((SP_X12_within v 0 3 Mz (1 : Int32)) ∧ (0 ≤ v.toInt ∧ v.toInt ≤ 3) ∧ r_ = 1) ∨ ((SP_X12_within v 0 3 Mz (0 : Int32)) ∧ (¬ (0 ≤ v.toInt ∧ v.toInt ≤ 3)) ∧ r_ = 0))
set_option maxHeartbeats 4000000 in
set_option maxRecDepth 100000 in
theorem c_X12_isSheet (l : Launch) (G : va_G) (cy : Nat → ClassId) (ad : rf → Nat) (d : Nat) (v : Int32) (Mz : mM) (hIz : InvD Mz) : WP DD l G cy ad yX12_isSheet cX12_isSheet 1 (some .boolean) (d + 1) 0 [(0, vI v)] [] Mz (fun r M' => Mz = M' ∧ (((r = 1 ∧ 0 ≤ v.toInt ∧ v.toInt ≤ 3) ∨ (r = 0 ∧ ¬ (0 ≤ v.toInt ∧ v.toInt ≤ 3)))) ∧ SP_X12_isSheet v Mz r) := by
  refine w_iload_n dX12_isSheet_0 rfl 0 rfl ?_
  refine w_iconst (v := 0) dX12_isSheet_1 (by decide) ?_
  refine w_iconst (v := 3) dX12_isSheet_2 (by decide) ?_
  refine w_callS (as := [vI v, vI 0, vI 3]) (rest := []) (c_X12_within l G cy ad d v 0 3 Mz hIz) kS_X12_within pnn_17 (Nat.le_of_ble_eq_true rfl) m_1427 rfl rfl (by decide) (Nat.le_of_ble_eq_true rfl) dX12_isSheet_3 (fun r1_ M2_ q3_ => ?_)
  obtain ⟨rfl, h4_, hs5_⟩ := q3_
  rcases h4_ with ⟨rfl, h4_⟩ | ⟨rfl, h4_⟩
  · simp only [li_0, li_3] at h4_
    exact w_zret rfl dX12_isSheet_6 ⟨by decide, by decide⟩ ⟨rfl, (Or.inl ⟨rfl, h4_⟩), (Or.inl ⟨hs5_, h4_, rfl⟩)⟩
  · simp only [li_0, li_3] at h4_
    exact w_zret rfl dX12_isSheet_6 ⟨by decide, by decide⟩ ⟨rfl, (Or.inr ⟨rfl, h4_⟩), (Or.inr ⟨hs5_, h4_, rfl⟩)⟩
def SP_X12_late (v : Int32) (u : Int32) (Mz : mM) (r_ : Int32) : Prop := ∃ z1_ : Int32, (z1_ = v - v / (2 : Int32) * (2 : Int32)) ∧ (((¬ z1_.toInt = 1) ∧ ∃ z4_ : Int32, (z4_ = (6 : Int32) * u) ∧ r_ = z4_) ∨ ((z1_.toInt = 1) ∧ ∃ z6_ : Int32, (z6_ = (8 : Int32) * u) ∧ r_ = z6_))
set_option maxHeartbeats 4000000 in
set_option maxRecDepth 100000 in
theorem c_X12_late (l : Launch) (G : va_G) (cy : Nat → ClassId) (ad : rf → Nat) (d : Nat) (v : Int32) (u : Int32) (Mz : mM) (hIz : InvD Mz) : WP DD l G cy ad yX12_late cX12_late 2 (some .int) d 0 [(0, vI v), (1, vI u)] [] Mz (fun r M' => Mz = M' ∧ (True) ∧ SP_X12_late v u Mz r) := by
  refine w_iload_n dX12_late_0 rfl 0 rfl ?_
  refine w_iconst (v := 2) dX12_late_1 (by decide) ?_
  refine w_irem dX12_late_2 (by decide) (fun z1_ h2_ => ?_)
  refine w_iconst (v := 1) dX12_late_3 (by decide) ?_
  refine w_icmp_ne (tgt := 12) dX12_late_4 (by decide) (rfl : z1_.toInt = z1_.toInt) li_1 (fun h3_ => ?_) (fun h3_ => ?_)
  · refine w_bipush (v := 6) dX12_late_12 (by decide) ?_
    refine w_iload_n dX12_late_14 rfl 1 rfl ?_
    refine w_imul dX12_late_15 (fun z4_ h5_ => ?_)
    exact w_iret rfl dX12_late_16 ⟨rfl, trivial, ⟨z1_, h2_, (Or.inl ⟨h3_, z4_, h5_, rfl⟩)⟩⟩
  · refine w_bipush (v := 8) dX12_late_7 (by decide) ?_
    refine w_goto (tgt := 14) dX12_late_9 (by decide) ?_
    refine w_iload_n dX12_late_14 rfl 1 rfl ?_
    refine w_imul dX12_late_15 (fun z6_ h7_ => ?_)
    exact w_iret rfl dX12_late_16 ⟨rfl, trivial, ⟨z1_, h2_, (Or.inr ⟨h3_, z6_, h7_, rfl⟩)⟩⟩
def SP_X12_ear (v : Int32) (u : Int32) (t : Int32) (s : Int32) (Mz : mM) (r_ : Int32) : Prop := ∃ z1_ : Int32, (z1_ = u - t) ∧ ∃ z3_ : Int32, (z3_ = z1_ - s) ∧ ∃ z5_ : Int32, (z5_ = z3_ + (16 : Int32)) ∧ ∃ z7_ : Int32, (z7_ = z5_ &&& (7 : Int32)) ∧ (0 ≤ z7_.toInt ∧ z7_.toInt < ((2 ^ 3 : Nat) : Int)) ∧ (((3 ≤ z7_.toInt) ∧ r_ = v) ∨ ((z7_.toInt < 3) ∧ ∃ z11_ : Int32, (z11_ = v / (2 : Int32)) ∧ r_ = z11_))
set_option maxHeartbeats 4000000 in
set_option maxRecDepth 100000 in
theorem c_X12_ear (l : Launch) (G : va_G) (cy : Nat → ClassId) (ad : rf → Nat) (d : Nat) (v : Int32) (u : Int32) (t : Int32) (s : Int32) (Mz : mM) (hIz : InvD Mz) : WP DD l G cy ad yX12_ear cX12_ear 5 (some .int) d 0 [(0, vI v), (1, vI u), (2, vI t), (3, vI s)] [] Mz (fun r M' => Mz = M' ∧ (True) ∧ SP_X12_ear v u t s Mz r) := by
  refine w_iload_n dX12_ear_0 rfl 1 rfl ?_
  refine w_iload_n dX12_ear_1 rfl 2 rfl ?_
  refine w_isub dX12_ear_2 (fun z1_ h2_ => ?_)
  refine w_iload_n dX12_ear_3 rfl 3 rfl ?_
  refine w_isub dX12_ear_4 (fun z3_ h4_ => ?_)
  refine w_bipush (v := 16) dX12_ear_5 (by decide) ?_
  refine w_iadd dX12_ear_7 (fun z5_ h6_ => ?_)
  refine w_bipush (v := 7) dX12_ear_8 (by decide) ?_
  refine w_iand dX12_ear_10 (fun z7_ h9_ => ?_)
  have h8_ : 0 ≤ z7_.toInt ∧ z7_.toInt < ((2 ^ 3 : Nat) : Int) := by rw [h9_]; exact andI _ 3 (by decide) (by decide)
  refine w_istore (ls' := [(4, vI z7_), (0, vI v), (1, vI u), (2, vI t), (3, vI s)]) dX12_ear_11 (by decide) rfl ?_
  refine w_iload dX12_ear_13 0 rfl ?_
  refine w_iconst (v := 3) dX12_ear_15 (by decide) ?_
  refine w_icmp_ge (tgt := 25) dX12_ear_16 (by decide) (rfl : z7_.toInt = z7_.toInt) li_3 (fun h10_ => ?_) (fun h10_ => ?_)
  · refine w_iload_n dX12_ear_25 rfl 1 rfl ?_
    exact w_iret rfl dX12_ear_26 ⟨rfl, trivial, ⟨z1_, h2_, z3_, h4_, z5_, h6_, z7_, h9_, h8_, (Or.inl ⟨h10_, rfl⟩)⟩⟩
  · refine w_iload_n dX12_ear_19 rfl 1 rfl ?_
    refine w_iconst (v := 2) dX12_ear_20 (by decide) ?_
    refine w_idiv dX12_ear_21 (by decide) (fun z11_ h12_ => ?_)
    refine w_goto (tgt := 26) dX12_ear_22 (by decide) ?_
    exact w_iret rfl dX12_ear_26 ⟨rfl, trivial, ⟨z1_, h2_, z3_, h4_, z5_, h6_, z7_, h9_, h8_, (Or.inr ⟨h10_, z11_, h12_, rfl⟩)⟩⟩
def SP_X12_above (v : Int32) (Mz : mM) (r_ : Int32) : Prop := (((¬ v.toInt = 0) ∧ (((v.toInt = 5) ∧ r_ = 1) ∨ ((¬ v.toInt = 5) ∧ (((¬ v.toInt = 7) ∧ (((¬ v.toInt = 6) ∧ r_ = 0) ∨ ((v.toInt = 6) ∧ r_ = 3))) ∨ ((v.toInt = 7) ∧ r_ = 1))))) ∨ ((v.toInt = 0) ∧ r_ = (-1)))
theorem lf_c_X12_above_0 (v : Int32) (h2_ : v.toInt = 5) : -1 ≤ (1 : Int32).toInt ∧ (1 : Int32).toInt ≤ 3 ∧ (0 ≤ v.toInt → (1 : Int32).toInt < v.toInt) := by have r9 := li_1; omega
theorem lf_c_X12_above_1 (v : Int32) (h1_ : ¬ v.toInt = 0) : -1 ≤ (0 : Int32).toInt ∧ (0 : Int32).toInt ≤ 3 ∧ (0 ≤ v.toInt → (0 : Int32).toInt < v.toInt) := by have r9 := li_0; omega
theorem lf_c_X12_above_2 (v : Int32) (h4_ : v.toInt = 6) : -1 ≤ (3 : Int32).toInt ∧ (3 : Int32).toInt ≤ 3 ∧ (0 ≤ v.toInt → (3 : Int32).toInt < v.toInt) := by have r9 := li_3; omega
theorem lf_c_X12_above_3 (v : Int32) (h3_ : v.toInt = 7) : -1 ≤ (1 : Int32).toInt ∧ (1 : Int32).toInt ≤ 3 ∧ (0 ≤ v.toInt → (1 : Int32).toInt < v.toInt) := by have r9 := li_1; omega
theorem lf_c_X12_above_4 (v : Int32) (h1_ : v.toInt = 0) : -1 ≤ ((-1) : Int32).toInt ∧ ((-1) : Int32).toInt ≤ 3 ∧ (0 ≤ v.toInt → ((-1) : Int32).toInt < v.toInt) := by have r9 := li_m1; omega
set_option maxHeartbeats 4000000 in
set_option maxRecDepth 100000 in
theorem c_X12_above (l : Launch) (G : va_G) (cy : Nat → ClassId) (ad : rf → Nat) (d : Nat) (v : Int32) (Mz : mM) (hIz : InvD Mz) : WP DD l G cy ad yX12_above cX12_above 1 (some .int) d 0 [(0, vI v)] [] Mz (fun r M' => Mz = M' ∧ (-1 ≤ r.toInt ∧ r.toInt ≤ 3 ∧ (0 ≤ v.toInt → r.toInt < v.toInt)) ∧ SP_X12_above v Mz r) := by
  refine w_iload_n dX12_above_0 rfl 0 rfl ?_
  refine w_if_ne (tgt := 8) dX12_above_1 (by decide) (rfl : v.toInt = v.toInt) (fun h1_ => ?_) (fun h1_ => ?_)
  · refine w_iload_n dX12_above_8 rfl 0 rfl ?_
    refine w_iconst (v := 5) dX12_above_9 (by decide) ?_
    refine w_icmp_eq (tgt := 19) dX12_above_10 (by decide) (rfl : v.toInt = v.toInt) li_5 (fun h2_ => ?_) (fun h2_ => ?_)
    · refine w_iconst (v := 1) dX12_above_19 (by decide) ?_
      refine w_goto (tgt := 34) dX12_above_20 (by decide) ?_
      exact w_iret rfl dX12_above_34 ⟨rfl, (lf_c_X12_above_0 v h2_ ), (Or.inl ⟨h1_, (Or.inl ⟨h2_, rfl⟩)⟩)⟩
    · refine w_iload_n dX12_above_13 rfl 0 rfl ?_
      refine w_bipush (v := 7) dX12_above_14 (by decide) ?_
      refine w_icmp_ne (tgt := 23) dX12_above_16 (by decide) (rfl : v.toInt = v.toInt) li_7 (fun h3_ => ?_) (fun h3_ => ?_)
      · refine w_iload_n dX12_above_23 rfl 0 rfl ?_
        refine w_bipush (v := 6) dX12_above_24 (by decide) ?_
        refine w_icmp_ne (tgt := 33) dX12_above_26 (by decide) (rfl : v.toInt = v.toInt) li_6 (fun h4_ => ?_) (fun h4_ => ?_)
        · refine w_iconst (v := 0) dX12_above_33 (by decide) ?_
          exact w_iret rfl dX12_above_34 ⟨rfl, (lf_c_X12_above_1 v h1_ ), (Or.inl ⟨h1_, (Or.inr ⟨h2_, (Or.inl ⟨h3_, (Or.inl ⟨h4_, rfl⟩)⟩)⟩)⟩)⟩
        · refine w_iconst (v := 3) dX12_above_29 (by decide) ?_
          refine w_goto (tgt := 34) dX12_above_30 (by decide) ?_
          exact w_iret rfl dX12_above_34 ⟨rfl, (lf_c_X12_above_2 v h4_ ), (Or.inl ⟨h1_, (Or.inr ⟨h2_, (Or.inl ⟨h3_, (Or.inr ⟨h4_, rfl⟩)⟩)⟩)⟩)⟩
      · refine w_iconst (v := 1) dX12_above_19 (by decide) ?_
        refine w_goto (tgt := 34) dX12_above_20 (by decide) ?_
        exact w_iret rfl dX12_above_34 ⟨rfl, (lf_c_X12_above_3 v h3_ ), (Or.inl ⟨h1_, (Or.inr ⟨h2_, (Or.inr ⟨h3_, rfl⟩)⟩)⟩)⟩
  · refine w_iconst (v := (-1)) dX12_above_4 (by decide) ?_
    refine w_goto (tgt := 34) dX12_above_5 (by decide) ?_
    exact w_iret rfl dX12_above_34 ⟨rfl, (lf_c_X12_above_4 v h1_ ), (Or.inr ⟨h1_, rfl⟩)⟩
def SP_X12_isClick (v : Int32) (Mz : mM) (r_ : Int32) : Prop := (((SP_X12_within v 100 999 Mz (1 : Int32)) ∧ (100 ≤ v.toInt ∧ v.toInt ≤ 999) ∧ ∃ z7_ : Int32, (z7_.toInt = v.toInt % 100) ∧ (((z7_.toInt ≤ 0) ∧ r_ = 0) ∨ ((0 < z7_.toInt) ∧ r_ = 1))) ∨ ((SP_X12_within v 100 999 Mz (0 : Int32)) ∧ (¬ (100 ≤ v.toInt ∧ v.toInt ≤ 999)) ∧ r_ = 0))
theorem lf_c_X12_isClick_0 (v : Int32) (h4_ : 100 ≤ v.toInt ∧ v.toInt ≤ 999) : 0 ≤ v.toInt := by omega
set_option maxHeartbeats 4000000 in
set_option maxRecDepth 100000 in
theorem c_X12_isClick (l : Launch) (G : va_G) (cy : Nat → ClassId) (ad : rf → Nat) (d : Nat) (v : Int32) (Mz : mM) (hIz : InvD Mz) : WP DD l G cy ad yX12_isClick cX12_isClick 2 (some .boolean) (d + 1) 0 [(0, vR (12, 0, 0)), (1, vI v)] [] Mz (fun r M' => Mz = M' ∧ (((r = 1 ∧ 100 ≤ v.toInt ∧ v.toInt ≤ 999) ∨ r = 0)) ∧ SP_X12_isClick v Mz r) := by
  refine w_iload_n dX12_isClick_0 rfl 1 rfl ?_
  refine w_bipush (v := 100) dX12_isClick_1 (by decide) ?_
  refine w_sipush (v := 999) dX12_isClick_3 (by decide) ?_
  refine w_callS (as := [vI v, vI 100, vI 999]) (rest := []) (c_X12_within l G cy ad d v 100 999 Mz hIz) kS_X12_within pnn_17 (Nat.le_of_ble_eq_true rfl) m_1427 rfl rfl (by decide) (Nat.le_of_ble_eq_true rfl) dX12_isClick_6 (fun r1_ M2_ q3_ => ?_)
  obtain ⟨rfl, h4_, hs5_⟩ := q3_
  rcases h4_ with ⟨rfl, h4_⟩ | ⟨rfl, h4_⟩
  · simp only [li_100, li_999] at h4_
    refine w_if_eq (tgt := 23) dX12_isClick_9 (by decide) li_1 (fun h9 => (absurd h9 (by decide))) (fun h6_ => ?_)
    refine w_iload_n dX12_isClick_12 rfl 1 rfl ?_
    refine w_bipush (v := 100) dX12_isClick_13 (by decide) ?_
    refine w_iremB dX12_isClick_15 (by decide) (rfl : v.toInt = v.toInt) li_100 (lf_c_X12_isClick_0 v h4_ ) (by decide) (fun z7_ h8_ => ?_)
    refine w_if_le (tgt := 23) dX12_isClick_16 (by decide) (rfl : z7_.toInt = z7_.toInt) (fun h9_ => ?_) (fun h9_ => ?_)
    · refine w_iconst (v := 0) dX12_isClick_23 (by decide) ?_
      exact w_zret rfl dX12_isClick_24 ⟨by decide, by decide⟩ ⟨rfl, (Or.inr rfl), (Or.inl ⟨hs5_, h4_, z7_, h8_, (Or.inl ⟨h9_, rfl⟩)⟩)⟩
    · refine w_iconst (v := 1) dX12_isClick_19 (by decide) ?_
      refine w_goto (tgt := 24) dX12_isClick_20 (by decide) ?_
      exact w_zret rfl dX12_isClick_24 ⟨by decide, by decide⟩ ⟨rfl, (Or.inl ⟨rfl, h4_⟩), (Or.inl ⟨hs5_, h4_, z7_, h8_, (Or.inr ⟨h9_, rfl⟩)⟩)⟩
  · simp only [li_100, li_999] at h4_
    refine w_if_eq (tgt := 23) dX12_isClick_9 (by decide) li_0 (fun h10_ => ?_) (fun h9 => (absurd h9 (by decide)))
    refine w_iconst (v := 0) dX12_isClick_23 (by decide) ?_
    exact w_zret rfl dX12_isClick_24 ⟨by decide, by decide⟩ ⟨rfl, (Or.inr rfl), (Or.inr ⟨hs5_, h4_, rfl⟩)⟩
def ST_X12_bits_4 (v : Int32) (v2_4 : Int32) (v1_4 : Int32) (v2_4y : Int32) (v1_4y : Int32) : Prop := (0 ≤ v2_4.toInt) ∧ (v2_4.toInt ≤ 8) ∧ (v2_4.toInt < 8) ∧ ∃ z3_ : Int32, (z3_ = v >>> (v2_4 &&& 31)) ∧ ∃ z5_ : Int32, (z5_ = z3_ &&& (1 : Int32)) ∧ (0 ≤ z5_.toInt ∧ z5_.toInt < ((2 ^ 1 : Nat) : Int)) ∧ ∃ z8_ : Int32, (z8_ = v1_4 + z5_) ∧ ∃ z10_ : Int32, (z10_.toInt = v2_4.toInt + 1) ∧ v2_4y = z10_ ∧ v1_4y = z8_
def SP_X12_bits (v : Int32) (Mz : mM) (r_ : Int32) : Prop := ∃ v2_4 : Int32, (0 ≤ v2_4.toInt) ∧ (v2_4.toInt ≤ 8) ∧ ∃ v1_4 : Int32, (RCH (fun x_ y_ => ST_X12_bits_4 v x_.1 x_.2 y_.1 y_.2) ((0 : Int32), (0 : Int32)) (v2_4, v1_4)) ∧ (8 ≤ v2_4.toInt) ∧ r_ = v1_4
set_option maxHeartbeats 4000000 in
set_option maxRecDepth 100000 in
theorem c_X12_bits (l : Launch) (G : va_G) (cy : Nat → ClassId) (ad : rf → Nat) (d : Nat) (v : Int32) (Mz : mM) (hIz : InvD Mz) : WP DD l G cy ad yX12_bits cX12_bits 3 (some .int) d 0 [(0, vI v)] [] Mz (fun r M' => Mz = M' ∧ (True) ∧ SP_X12_bits v Mz r) := by
  refine w_iconst (v := 0) dX12_bits_0 (by decide) ?_
  refine w_istore_n (ls' := [(1, vI 0), (0, vI v)]) dX12_bits_1 rfl (by decide) rfl ?_
  refine w_iconst (v := 0) dX12_bits_2 (by decide) ?_
  refine w_istore_n (ls' := [(2, vI 0), (1, vI 0), (0, vI v)]) dX12_bits_3 rfl (by decide) rfl ?_
  have lp1_ : ∀ (nn_4 : Nat) (v2_4 : Int32) (v1_4 : Int32) (hv0_4 : 0 ≤ v2_4.toInt) (hv1_4 : v2_4.toInt ≤ 8) (hL_4 : RCH (fun x_ y_ => ST_X12_bits_4 v x_.1 x_.2 y_.1 y_.2) ((0 : Int32), (0 : Int32)) (v2_4, v1_4)), (2147483648 - v2_4.toInt).toNat < nn_4 → WP DD l G cy ad yX12_bits cX12_bits 3 (some .int) d 4 [(2, vI v2_4), (1, vI v1_4), (0, vI v)] [] Mz (fun r M' => Mz = M' ∧ (True) ∧ SP_X12_bits v Mz r) := by
    intro nn_4
    induction nn_4 with
    | zero => intro v2_4 v1_4 hv0_4 hv1_4 hL_4 hm_4; exact absurd hm_4 (Nat.not_lt_zero _)
    | succ nn_4 ih_4 =>
      intro v2_4 v1_4 hv0_4 hv1_4 hL_4 hm_4
      refine w_iload_n dX12_bits_4 rfl 0 rfl ?_
      refine w_bipush (v := 8) dX12_bits_5 (by decide) ?_
      refine w_icmp_ge (tgt := 24) dX12_bits_7 (by decide) (rfl : v2_4.toInt = v2_4.toInt) li_8 (fun h2_ => ?_) (fun h2_ => ?_)
      · refine w_iload_n dX12_bits_24 rfl 1 rfl ?_
        exact w_iret rfl dX12_bits_25 ⟨rfl, trivial, ⟨v2_4, hv0_4, hv1_4, v1_4, hL_4, h2_, rfl⟩⟩
      · refine w_iload_n dX12_bits_10 rfl 1 rfl ?_
        refine w_iload_n dX12_bits_11 rfl 2 rfl ?_
        refine w_iload_n dX12_bits_12 rfl 0 rfl ?_
        refine w_ishr dX12_bits_13 (fun z3_ h4_ => ?_)
        refine w_iconst (v := 1) dX12_bits_14 (by decide) ?_
        refine w_iand dX12_bits_15 (fun z5_ h7_ => ?_)
        have h6_ : 0 ≤ z5_.toInt ∧ z5_.toInt < ((2 ^ 1 : Nat) : Int) := by rw [h7_]; exact andI _ 1 (by decide) (by decide)
        refine w_iadd dX12_bits_16 (fun z8_ h9_ => ?_)
        refine w_istore_n (ls' := [(1, vI z8_), (2, vI v2_4), (0, vI v)]) dX12_bits_17 rfl (by decide) rfl ?_
        refine w_iincB (j := 1) (f := fun z10_ => [(2, vI z10_), (1, vI z8_), (0, vI v)]) dX12_bits_18 rfl (by decide) (fun _ => rfl) (rfl : v2_4.toInt = v2_4.toInt) li_1 (lf_c_X9_isOf_0 v2_4 hv0_4 h2_ ) (fun z10_ h11_ => ?_)
        refine w_goto (tgt := 4) dX12_bits_21 (by decide) ?_
        refine w_loc (ls' := [(2, vI z10_), (1, vI z8_), (0, vI v)]) [0, 1, 2] rfl ?_
        exact ih_4 z10_ z8_ (lf_c_X5_takeFrom_3 v2_4 z10_ hv0_4 h11_ ) (lf_c_X9_isOf_2 v2_4 z10_ h2_ h11_ ) (RCH.tail hL_4 ⟨hv0_4, hv1_4, h2_, z3_, h4_, z5_, h7_, h6_, z8_, h9_, z10_, h11_, rfl, rfl⟩) (Nat.lt_of_lt_of_le (lf_c_X9_isOf_3 v2_4 z10_ h2_ h11_ ) (Nat.le_of_lt_succ hm_4))
  exact lp1_ _ 0 0 (lf_c_X5_takeFrom_5 ) (lf_c_X9_isOf_5 ) RCH.refl (Nat.lt_succ_self _)
def SP_X12_done (v : Int32) (u : Int32) (t : Int32) (Mz : mM) (r_ : Int32) : Prop := (((v.toInt = 2000) ∧ (((t.toInt ≤ u.toInt) ∧ r_ = 0) ∨ ((u.toInt < t.toInt) ∧ r_ = 1))) ∨ ((v.toInt = 2001) ∧ (((¬ u.toInt = t.toInt) ∧ r_ = 0) ∨ ((u.toInt = t.toInt) ∧ r_ = 1))) ∨ ((v.toInt = 2002) ∧ (((u.toInt ≤ t.toInt) ∧ r_ = 0) ∨ ((t.toInt < u.toInt) ∧ r_ = 1))) ∨ ((v.toInt = 2003) ∧ ∃ z5_ : Int32, (z5_ = u + t) ∧ r_ = z5_) ∨ ((v.toInt = 2004) ∧ ∃ z7_ : Int32, (z7_ = u - t) ∧ r_ = z7_) ∨ ((v.toInt = 2005) ∧ ∃ z9_ : Int32, (z9_ = u * t) ∧ r_ = z9_) ∨ ((v.toInt = 2006) ∧ (((¬ t.toInt = 0) ∧ ∃ z12_ : Int32, (z12_ = u / t) ∧ r_ = z12_) ∨ ((t.toInt = 0) ∧ r_ = 0))) ∨ (((¬ v.toInt = 2000 ∧ ¬ v.toInt = 2001 ∧ ¬ v.toInt = 2002 ∧ ¬ v.toInt = 2003 ∧ ¬ v.toInt = 2004 ∧ ¬ v.toInt = 2005 ∧ ¬ v.toInt = 2006)) ∧ (((¬ t.toInt = 0) ∧ ∃ z15_ : Int32, (z15_ = u - u / t * t) ∧ r_ = z15_) ∨ ((t.toInt = 0) ∧ r_ = 0))))
theorem lf_c_X12_done_0 (v : Int32) : v.toInt = 2000 ∨ v.toInt = 2001 ∨ v.toInt = 2002 ∨ v.toInt = 2003 ∨ v.toInt = 2004 ∨ v.toInt = 2005 ∨ v.toInt = 2006 ∨ (¬ v.toInt = 2000 ∧ ¬ v.toInt = 2001 ∧ ¬ v.toInt = 2002 ∧ ¬ v.toInt = 2003 ∧ ¬ v.toInt = 2004 ∧ ¬ v.toInt = 2005 ∧ ¬ v.toInt = 2006) := by have r_v := rngI v; omega
theorem lf_c_X12_done_1 (t : Int32) (h11_ : ¬ t.toInt = 0) : ¬ t = 0 := by have r_t := rngI t; intro h9; subst h9; simp at *; try omega
theorem lf_c_X12_done_2 (v : Int32) (e1_ : (¬ v.toInt = 2000 ∧ ¬ v.toInt = 2001 ∧ ¬ v.toInt = 2002 ∧ ¬ v.toInt = 2003 ∧ ¬ v.toInt = 2004 ∧ ¬ v.toInt = 2005 ∧ ¬ v.toInt = 2006)) : v.toInt < 2000 ∨ 2006 < v.toInt := by have r_v := rngI v; omega
set_option maxHeartbeats 4000000 in
set_option maxRecDepth 100000 in
theorem c_X12_done (l : Launch) (G : va_G) (cy : Nat → ClassId) (ad : rf → Nat) (d : Nat) (v : Int32) (u : Int32) (t : Int32) (Mz : mM) (hIz : InvD Mz) : WP DD l G cy ad yX12_done cX12_done 3 (some .int) d 0 [(0, vI v), (1, vI u), (2, vI t)] [] Mz (fun r M' => Mz = M' ∧ (True) ∧ SP_X12_done v u t Mz r) := by
  refine w_iload_n dX12_done_0 rfl 0 rfl ?_
  rcases (lf_c_X12_done_0 v ) with e1_ | e1_ | e1_ | e1_ | e1_ | e1_ | e1_ | e1_
  · refine w_tsIn (tgt := 44) (off := 43) dX12_done_1 e1_ (by decide) (by decide) rfl (by decide) ?_
    refine w_iload_n dX12_done_44 rfl 1 rfl ?_
    refine w_iload_n dX12_done_45 rfl 2 rfl ?_
    refine w_icmp_ge (tgt := 53) dX12_done_46 (by decide) (rfl : u.toInt = u.toInt) (rfl : t.toInt = t.toInt) (fun h2_ => ?_) (fun h2_ => ?_)
    · refine w_iconst (v := 0) dX12_done_53 (by decide) ?_
      exact w_iret rfl dX12_done_54 ⟨rfl, trivial, (Or.inl ⟨e1_, (Or.inl ⟨h2_, rfl⟩)⟩)⟩
    · refine w_iconst (v := 1) dX12_done_49 (by decide) ?_
      refine w_goto (tgt := 54) dX12_done_50 (by decide) ?_
      exact w_iret rfl dX12_done_54 ⟨rfl, trivial, (Or.inl ⟨e1_, (Or.inr ⟨h2_, rfl⟩)⟩)⟩
  · refine w_tsIn (tgt := 55) (off := 54) dX12_done_1 e1_ (by decide) (by decide) rfl (by decide) ?_
    refine w_iload_n dX12_done_55 rfl 1 rfl ?_
    refine w_iload_n dX12_done_56 rfl 2 rfl ?_
    refine w_icmp_ne (tgt := 64) dX12_done_57 (by decide) (rfl : u.toInt = u.toInt) (rfl : t.toInt = t.toInt) (fun h3_ => ?_) (fun h3_ => ?_)
    · refine w_iconst (v := 0) dX12_done_64 (by decide) ?_
      exact w_iret rfl dX12_done_65 ⟨rfl, trivial, (Or.inr (Or.inl ⟨e1_, (Or.inl ⟨h3_, rfl⟩)⟩))⟩
    · refine w_iconst (v := 1) dX12_done_60 (by decide) ?_
      refine w_goto (tgt := 65) dX12_done_61 (by decide) ?_
      exact w_iret rfl dX12_done_65 ⟨rfl, trivial, (Or.inr (Or.inl ⟨e1_, (Or.inr ⟨h3_, rfl⟩)⟩))⟩
  · refine w_tsIn (tgt := 66) (off := 65) dX12_done_1 e1_ (by decide) (by decide) rfl (by decide) ?_
    refine w_iload_n dX12_done_66 rfl 1 rfl ?_
    refine w_iload_n dX12_done_67 rfl 2 rfl ?_
    refine w_icmp_le (tgt := 75) dX12_done_68 (by decide) (rfl : u.toInt = u.toInt) (rfl : t.toInt = t.toInt) (fun h4_ => ?_) (fun h4_ => ?_)
    · refine w_iconst (v := 0) dX12_done_75 (by decide) ?_
      exact w_iret rfl dX12_done_76 ⟨rfl, trivial, (Or.inr (Or.inr (Or.inl ⟨e1_, (Or.inl ⟨h4_, rfl⟩)⟩)))⟩
    · refine w_iconst (v := 1) dX12_done_71 (by decide) ?_
      refine w_goto (tgt := 76) dX12_done_72 (by decide) ?_
      exact w_iret rfl dX12_done_76 ⟨rfl, trivial, (Or.inr (Or.inr (Or.inl ⟨e1_, (Or.inr ⟨h4_, rfl⟩)⟩)))⟩
  · refine w_tsIn (tgt := 77) (off := 76) dX12_done_1 e1_ (by decide) (by decide) rfl (by decide) ?_
    refine w_iload_n dX12_done_77 rfl 1 rfl ?_
    refine w_iload_n dX12_done_78 rfl 2 rfl ?_
    refine w_iadd dX12_done_79 (fun z5_ h6_ => ?_)
    exact w_iret rfl dX12_done_80 ⟨rfl, trivial, (Or.inr (Or.inr (Or.inr (Or.inl ⟨e1_, z5_, h6_, rfl⟩))))⟩
  · refine w_tsIn (tgt := 81) (off := 80) dX12_done_1 e1_ (by decide) (by decide) rfl (by decide) ?_
    refine w_iload_n dX12_done_81 rfl 1 rfl ?_
    refine w_iload_n dX12_done_82 rfl 2 rfl ?_
    refine w_isub dX12_done_83 (fun z7_ h8_ => ?_)
    exact w_iret rfl dX12_done_84 ⟨rfl, trivial, (Or.inr (Or.inr (Or.inr (Or.inr (Or.inl ⟨e1_, z7_, h8_, rfl⟩)))))⟩
  · refine w_tsIn (tgt := 85) (off := 84) dX12_done_1 e1_ (by decide) (by decide) rfl (by decide) ?_
    refine w_iload_n dX12_done_85 rfl 1 rfl ?_
    refine w_iload_n dX12_done_86 rfl 2 rfl ?_
    refine w_imul dX12_done_87 (fun z9_ h10_ => ?_)
    exact w_iret rfl dX12_done_88 ⟨rfl, trivial, (Or.inr (Or.inr (Or.inr (Or.inr (Or.inr (Or.inl ⟨e1_, z9_, h10_, rfl⟩))))))⟩
  · refine w_tsIn (tgt := 89) (off := 88) dX12_done_1 e1_ (by decide) (by decide) rfl (by decide) ?_
    refine w_iload_n dX12_done_89 rfl 2 rfl ?_
    refine w_if_ne (tgt := 97) dX12_done_90 (by decide) (rfl : t.toInt = t.toInt) (fun h11_ => ?_) (fun h11_ => ?_)
    · refine w_iload_n dX12_done_97 rfl 1 rfl ?_
      refine w_iload_n dX12_done_98 rfl 2 rfl ?_
      refine w_idiv dX12_done_99 (lf_c_X12_done_1 t h11_ ) (fun z12_ h13_ => ?_)
      exact w_iret rfl dX12_done_100 ⟨rfl, trivial, (Or.inr (Or.inr (Or.inr (Or.inr (Or.inr (Or.inr (Or.inl ⟨e1_, (Or.inl ⟨h11_, z12_, h13_, rfl⟩)⟩)))))))⟩
    · refine w_iconst (v := 0) dX12_done_93 (by decide) ?_
      refine w_goto (tgt := 100) dX12_done_94 (by decide) ?_
      exact w_iret rfl dX12_done_100 ⟨rfl, trivial, (Or.inr (Or.inr (Or.inr (Or.inr (Or.inr (Or.inr (Or.inl ⟨e1_, (Or.inr ⟨h11_, rfl⟩)⟩)))))))⟩
  · refine w_tsOut (tgt := 101) dX12_done_1 rfl (lf_c_X12_done_2 v e1_ ) (by decide) ?_
    refine w_iload_n dX12_done_101 rfl 2 rfl ?_
    refine w_if_ne (tgt := 109) dX12_done_102 (by decide) (rfl : t.toInt = t.toInt) (fun h14_ => ?_) (fun h14_ => ?_)
    · refine w_iload_n dX12_done_109 rfl 1 rfl ?_
      refine w_iload_n dX12_done_110 rfl 2 rfl ?_
      refine w_irem dX12_done_111 (lf_c_X12_done_1 t h14_ ) (fun z15_ h16_ => ?_)
      exact w_iret rfl dX12_done_112 ⟨rfl, trivial, (Or.inr (Or.inr (Or.inr (Or.inr (Or.inr (Or.inr (Or.inr ⟨e1_, (Or.inl ⟨h14_, z15_, h16_, rfl⟩)⟩)))))))⟩
    · refine w_iconst (v := 0) dX12_done_105 (by decide) ?_
      refine w_goto (tgt := 112) dX12_done_106 (by decide) ?_
      exact w_iret rfl dX12_done_112 ⟨rfl, trivial, (Or.inr (Or.inr (Or.inr (Or.inr (Or.inr (Or.inr (Or.inr ⟨e1_, (Or.inr ⟨h14_, rfl⟩)⟩)))))))⟩
def SP_X12_thing (v : Int32) (Mz : mM) (r_ : Int32) : Prop := ∃ z1_ : Int32, (z1_.toInt = 4 * v.toInt) ∧ ∃ z3_ : Int32, (z3_.toInt = 20 + z1_.toInt) ∧ r_ = z3_
theorem lf_c_X12_thing_0 (v : Int32) (hv : -1 ≤ v.toInt ∧ v.toInt ≤ 39) : -2147483648 ≤ 4 * v.toInt ∧ 4 * v.toInt < 2147483648 := by omega
theorem lf_c_X12_thing_1 (v : Int32) (z1_ : Int32) (hv : -1 ≤ v.toInt ∧ v.toInt ≤ 39) (h2_ : z1_.toInt = 4 * v.toInt) : -2147483648 ≤ 20 + z1_.toInt ∧ 20 + z1_.toInt < 2147483648 := by omega
theorem lf_c_X12_thing_2 (v : Int32) (z1_ : Int32) (z3_ : Int32) (h2_ : z1_.toInt = 4 * v.toInt) (h4_ : z3_.toInt = 20 + z1_.toInt) : z3_.toInt = 20 + 4 * v.toInt := by omega
set_option maxHeartbeats 4000000 in
set_option maxRecDepth 100000 in
theorem c_X12_thing (l : Launch) (G : va_G) (cy : Nat → ClassId) (ad : rf → Nat) (d : Nat) (v : Int32) (Mz : mM) (hIz : InvD Mz) (hv : -1 ≤ v.toInt ∧ v.toInt ≤ 39) : WP DD l G cy ad yX12_thing cX12_thing 2 (some .int) d 0 [(0, vR (12, 0, 0)), (1, vI v)] [] Mz (fun r M' => Mz = M' ∧ (r.toInt = 20 + 4 * v.toInt) ∧ SP_X12_thing v Mz r) := by
  refine w_bipush (v := 20) dX12_thing_0 (by decide) ?_
  refine w_iconst (v := 4) dX12_thing_2 (by decide) ?_
  refine w_iload_n dX12_thing_3 rfl 1 rfl ?_
  refine w_imulB dX12_thing_4 li_4 (rfl : v.toInt = v.toInt) (lf_c_X12_thing_0 v hv ) (fun z1_ h2_ => ?_)
  refine w_iaddB dX12_thing_5 li_20 (rfl : z1_.toInt = z1_.toInt) (lf_c_X12_thing_1 v z1_ hv h2_ ) (fun z3_ h4_ => ?_)
  exact w_iret rfl dX12_thing_6 ⟨rfl, (lf_c_X12_thing_2 v z1_ z3_ h2_ h4_ ), ⟨z1_, h2_, z3_, h4_, rfl⟩⟩
def SP_X12_goer (v : Int32) (Mz : mM) (r_ : Int32) : Prop := ∃ z1_ : Int32, (z1_.toInt = 9 * v.toInt) ∧ ∃ z3_ : Int32, (z3_.toInt = 180 + z1_.toInt) ∧ r_ = z3_
theorem lf_c_X12_goer_0 (v : Int32) (hv : 0 ≤ v.toInt ∧ v.toInt ≤ 7) : -2147483648 ≤ 9 * v.toInt ∧ 9 * v.toInt < 2147483648 := by omega
theorem lf_c_X12_goer_1 (v : Int32) (z1_ : Int32) (hv : 0 ≤ v.toInt ∧ v.toInt ≤ 7) (h2_ : z1_.toInt = 9 * v.toInt) : -2147483648 ≤ 180 + z1_.toInt ∧ 180 + z1_.toInt < 2147483648 := by omega
theorem lf_c_X12_goer_2 (v : Int32) (z1_ : Int32) (z3_ : Int32) (h2_ : z1_.toInt = 9 * v.toInt) (h4_ : z3_.toInt = 180 + z1_.toInt) : z3_.toInt = 180 + 9 * v.toInt := by omega
set_option maxHeartbeats 4000000 in
set_option maxRecDepth 100000 in
theorem c_X12_goer (l : Launch) (G : va_G) (cy : Nat → ClassId) (ad : rf → Nat) (d : Nat) (v : Int32) (Mz : mM) (hIz : InvD Mz) (hv : 0 ≤ v.toInt ∧ v.toInt ≤ 7) : WP DD l G cy ad yX12_goer cX12_goer 2 (some .int) d 0 [(0, vR (12, 0, 0)), (1, vI v)] [] Mz (fun r M' => Mz = M' ∧ (r.toInt = 180 + 9 * v.toInt) ∧ SP_X12_goer v Mz r) := by
  refine w_sipush (v := 180) dX12_goer_0 (by decide) ?_
  refine w_bipush (v := 9) dX12_goer_3 (by decide) ?_
  refine w_iload_n dX12_goer_5 rfl 1 rfl ?_
  refine w_imulB dX12_goer_6 li_9 (rfl : v.toInt = v.toInt) (lf_c_X12_goer_0 v hv ) (fun z1_ h2_ => ?_)
  refine w_iaddB dX12_goer_7 li_180 (rfl : z1_.toInt = z1_.toInt) (lf_c_X12_goer_1 v z1_ hv h2_ ) (fun z3_ h4_ => ?_)
  exact w_iret rfl dX12_goer_8 ⟨rfl, (lf_c_X12_goer_2 v z1_ z3_ h2_ h4_ ), ⟨z1_, h2_, z3_, h4_, rfl⟩⟩
def SP_X12_yes (v : Int32) (u : Int32) (Mz : mM) (r_ : Int32) : Prop := ∃ z1_ : Int32, (z1_.toInt = 384 * v.toInt) ∧ ∃ z3_ : Int32, (z3_.toInt = 495 + z1_.toInt) ∧ ∃ z5_ : Int32, (z5_.toInt = z3_.toInt + u.toInt) ∧ r_ = z5_
theorem lf_c_X12_yes_0 (v : Int32) (hv : 0 ≤ v.toInt ∧ v.toInt ≤ 7) : -2147483648 ≤ 384 * v.toInt ∧ 384 * v.toInt < 2147483648 := by omega
theorem lf_c_X12_yes_1 (v : Int32) (z1_ : Int32) (hv : 0 ≤ v.toInt ∧ v.toInt ≤ 7) (h2_ : z1_.toInt = 384 * v.toInt) : -2147483648 ≤ 495 + z1_.toInt ∧ 495 + z1_.toInt < 2147483648 := by omega
theorem lf_c_X12_yes_2 (v : Int32) (u : Int32) (z1_ : Int32) (z3_ : Int32) (hv : 0 ≤ v.toInt ∧ v.toInt ≤ 7) (hu : -1 ≤ u.toInt ∧ u.toInt ≤ 191) (h2_ : z1_.toInt = 384 * v.toInt) (h4_ : z3_.toInt = 495 + z1_.toInt) : -2147483648 ≤ z3_.toInt + u.toInt ∧ z3_.toInt + u.toInt < 2147483648 := by omega
theorem lf_c_X12_yes_3 (v : Int32) (u : Int32) (z1_ : Int32) (z3_ : Int32) (z5_ : Int32) (h2_ : z1_.toInt = 384 * v.toInt) (h4_ : z3_.toInt = 495 + z1_.toInt) (h6_ : z5_.toInt = z3_.toInt + u.toInt) : z5_.toInt = 495 + 384 * v.toInt + u.toInt := by omega
set_option maxHeartbeats 4000000 in
set_option maxRecDepth 100000 in
theorem c_X12_yes (l : Launch) (G : va_G) (cy : Nat → ClassId) (ad : rf → Nat) (d : Nat) (v : Int32) (u : Int32) (Mz : mM) (hIz : InvD Mz) (hv : 0 ≤ v.toInt ∧ v.toInt ≤ 7) (hu : -1 ≤ u.toInt ∧ u.toInt ≤ 191) : WP DD l G cy ad yX12_yes cX12_yes 3 (some .int) d 0 [(0, vR (12, 0, 0)), (1, vI v), (2, vI u)] [] Mz (fun r M' => Mz = M' ∧ (r.toInt = 495 + 384 * v.toInt + u.toInt) ∧ SP_X12_yes v u Mz r) := by
  refine w_sipush (v := 495) dX12_yes_0 (by decide) ?_
  refine w_sipush (v := 384) dX12_yes_3 (by decide) ?_
  refine w_iload_n dX12_yes_6 rfl 1 rfl ?_
  refine w_imulB dX12_yes_7 li_384 (rfl : v.toInt = v.toInt) (lf_c_X12_yes_0 v hv ) (fun z1_ h2_ => ?_)
  refine w_iaddB dX12_yes_8 li_495 (rfl : z1_.toInt = z1_.toInt) (lf_c_X12_yes_1 v z1_ hv h2_ ) (fun z3_ h4_ => ?_)
  refine w_iload_n dX12_yes_9 rfl 2 rfl ?_
  refine w_iaddB dX12_yes_10 (rfl : z3_.toInt = z3_.toInt) (rfl : u.toInt = u.toInt) (lf_c_X12_yes_2 v u z1_ z3_ hv hu h2_ h4_ ) (fun z5_ h6_ => ?_)
  exact w_iret rfl dX12_yes_11 ⟨rfl, (lf_c_X12_yes_3 v u z1_ z3_ z5_ h2_ h4_ h6_ ), ⟨z1_, h2_, z3_, h4_, z5_, h6_, rfl⟩⟩
def SP_X12_no (v : Int32) (u : Int32) (Mz : mM) (r_ : Int32) : Prop := ∃ r1_ : Int32, (SP_X12_yes v u Mz r1_) ∧ (r1_.toInt = 495 + 384 * v.toInt + u.toInt) ∧ ∃ z6_ : Int32, (z6_.toInt = r1_.toInt + 192) ∧ r_ = z6_
theorem lf_c_X12_no_0 (v : Int32) (u : Int32) (r1_ : Int32) (hv : 0 ≤ v.toInt ∧ v.toInt ≤ 7) (hu : -1 ≤ u.toInt ∧ u.toInt ≤ 191) (h4_ : r1_.toInt = 495 + 384 * v.toInt + u.toInt) : -2147483648 ≤ r1_.toInt + 192 ∧ r1_.toInt + 192 < 2147483648 := by omega
theorem lf_c_X12_no_1 (v : Int32) (u : Int32) (r1_ : Int32) (z6_ : Int32) (h4_ : r1_.toInt = 495 + 384 * v.toInt + u.toInt) (h7_ : z6_.toInt = r1_.toInt + 192) : z6_.toInt = 687 + 384 * v.toInt + u.toInt := by omega
set_option maxHeartbeats 4000000 in
set_option maxRecDepth 100000 in
theorem c_X12_no (l : Launch) (G : va_G) (cy : Nat → ClassId) (ad : rf → Nat) (d : Nat) (v : Int32) (u : Int32) (Mz : mM) (hIz : InvD Mz) (hv : 0 ≤ v.toInt ∧ v.toInt ≤ 7) (hu : -1 ≤ u.toInt ∧ u.toInt ≤ 191) : WP DD l G cy ad yX12_no cX12_no 3 (some .int) (d + 1) 0 [(0, vR (12, 0, 0)), (1, vI v), (2, vI u)] [] Mz (fun r M' => Mz = M' ∧ (r.toInt = 687 + 384 * v.toInt + u.toInt) ∧ SP_X12_no v u Mz r) := by
  refine w_aload_n dX12_no_0 rfl 0 rfl ?_
  refine w_iload_n dX12_no_1 rfl 1 rfl ?_
  refine w_iload_n dX12_no_2 rfl 2 rfl ?_
  refine w_callV (as := [vI v, vI u]) (rest := []) (c_X12_yes l G cy ad d v u Mz hIz hv hu) kV_X12_yes pnn_17 (Nat.le_of_ble_eq_true rfl) m_1683 rfl rfl rfl ic_12 rfl rfl (by decide) (Nat.le_of_ble_eq_true rfl) dX12_no_3 (fun r1_ M2_ q3_ => ?_)
  obtain ⟨rfl, h4_, hs5_⟩ := q3_
  refine w_sipush (v := 192) dX12_no_6 (by decide) ?_
  refine w_iaddB dX12_no_9 (rfl : r1_.toInt = r1_.toInt) li_192 (lf_c_X12_no_0 v u r1_ hv hu h4_ ) (fun z6_ h7_ => ?_)
  exact w_iret rfl dX12_no_10 ⟨rfl, (lf_c_X12_no_1 v u r1_ z6_ h4_ h7_ ), ⟨r1_, hs5_, h4_, z6_, h7_, rfl⟩⟩
def SP_is1 (v : Int32) (Mz : mM) (r_ : Int32) : Prop := ∃ z1_ : Int32, (z1_ = Mz.1 (50, 0, 0) 1) ∧ (0 ≤ z1_.toInt ∧ z1_.toInt ≤ 40) ∧ ∃ z4_ : Int32, (z4_.toInt = z1_.toInt - 1) ∧ (((SP_X12_within v 0 z4_ Mz (1 : Int32)) ∧ (0 ≤ v.toInt ∧ v.toInt ≤ z4_.toInt) ∧ r_ = 1) ∨ ((SP_X12_within v 0 z4_ Mz (0 : Int32)) ∧ (¬ (0 ≤ v.toInt ∧ v.toInt ≤ z4_.toInt)) ∧ r_ = 0))
theorem lf_c_is1_0 (z1_ : Int32) (h3_ : 0 ≤ z1_.toInt ∧ z1_.toInt ≤ 40) : -2147483648 ≤ z1_.toInt - 1 ∧ z1_.toInt - 1 < 2147483648 := by omega
theorem lf_c_is1_1 (v : Int32) (z1_ : Int32) (z4_ : Int32) (h3_ : 0 ≤ z1_.toInt ∧ z1_.toInt ≤ 40) (h5_ : z4_.toInt = z1_.toInt - 1) (h9_ : 0 ≤ v.toInt ∧ v.toInt ≤ z4_.toInt) : 0 ≤ v.toInt ∧ v.toInt ≤ 39 := by omega
set_option maxHeartbeats 4000000 in
set_option maxRecDepth 100000 in
theorem c_is1 (l : Launch) (G : va_G) (cy : Nat → ClassId) (ad : rf → Nat) (d : Nat) (v : Int32) (Mz : mM) (hIz : InvD Mz) : WP DD l G cy ad yX12_is cX12_is 3 (some .boolean) (d + 1) 0 [(0, vR (12, 0, 0)), (1, vI v), (2, vI 1)] [] Mz (fun r M' => Mz = M' ∧ (((r = 1 ∧ 0 ≤ v.toInt ∧ v.toInt ≤ 39) ∨ r = 0)) ∧ SP_is1 v Mz r) := by
  refine w_iload_n dX12_is_0 rfl 1 rfl ?_
  refine w_iconst (v := 0) dX12_is_1 (by decide) ?_
  refine w_aload_n dX12_is_2 rfl 0 rfl ?_
  refine w_getR (c' := (50, 0, 0)) fl_RX12_9 rfl rfl ic_12 dX12_is_3 rfl ?_
  refine w_iload_n dX12_is_6 rfl 2 rfl ?_
  refine w_ialdL 1 rfl rfl ic_50 li_1 (by decide) dX12_is_7 (fun z1_ e2_ => ?_)
  have h3_ : 0 ≤ z1_.toInt ∧ z1_.toInt ≤ 40 := pn_1 hIz e2_
  refine w_iconst (v := 1) dX12_is_8 (by decide) ?_
  refine w_isubB dX12_is_9 (rfl : z1_.toInt = z1_.toInt) li_1 (lf_c_is1_0 z1_ h3_ ) (fun z4_ h5_ => ?_)
  refine w_callS (as := [vI v, vI 0, vI z4_]) (rest := []) (c_X12_within l G cy ad d v 0 z4_ Mz hIz) kS_X12_within pnn_17 (Nat.le_of_ble_eq_true rfl) m_1427 rfl rfl (by decide) (Nat.le_of_ble_eq_true rfl) dX12_is_10 (fun r6_ M7_ q8_ => ?_)
  obtain ⟨rfl, h9_, hs10_⟩ := q8_
  rcases h9_ with ⟨rfl, h9_⟩ | ⟨rfl, h9_⟩
  · simp only [li_0] at h9_
    exact w_zret rfl dX12_is_13 ⟨by decide, by decide⟩ ⟨rfl, (Or.inl ⟨rfl, (lf_c_is1_1 v z1_ z4_ h3_ h5_ h9_ )⟩), ⟨z1_, e2_, h3_, z4_, h5_, (Or.inl ⟨hs10_, h9_, rfl⟩)⟩⟩
  · simp only [li_0] at h9_
    exact w_zret rfl dX12_is_13 ⟨by decide, by decide⟩ ⟨rfl, (Or.inr rfl), ⟨z1_, e2_, h3_, z4_, h5_, (Or.inr ⟨hs10_, h9_, rfl⟩)⟩⟩
def SP_is2 (v : Int32) (Mz : mM) (r_ : Int32) : Prop := ∃ z1_ : Int32, (z1_ = Mz.1 (50, 0, 0) 2) ∧ (0 ≤ z1_.toInt ∧ z1_.toInt ≤ 8) ∧ ∃ z4_ : Int32, (z4_.toInt = z1_.toInt - 1) ∧ (((SP_X12_within v 0 z4_ Mz (1 : Int32)) ∧ (0 ≤ v.toInt ∧ v.toInt ≤ z4_.toInt) ∧ r_ = 1) ∨ ((SP_X12_within v 0 z4_ Mz (0 : Int32)) ∧ (¬ (0 ≤ v.toInt ∧ v.toInt ≤ z4_.toInt)) ∧ r_ = 0))
theorem lf_c_is2_0 (z1_ : Int32) (h3_ : 0 ≤ z1_.toInt ∧ z1_.toInt ≤ 8) : -2147483648 ≤ z1_.toInt - 1 ∧ z1_.toInt - 1 < 2147483648 := by omega
theorem lf_c_is2_1 (v : Int32) (z1_ : Int32) (z4_ : Int32) (h3_ : 0 ≤ z1_.toInt ∧ z1_.toInt ≤ 8) (h5_ : z4_.toInt = z1_.toInt - 1) (h9_ : 0 ≤ v.toInt ∧ v.toInt ≤ z4_.toInt) : 0 ≤ v.toInt ∧ v.toInt ≤ 7 := by omega
set_option maxHeartbeats 4000000 in
set_option maxRecDepth 100000 in
theorem c_is2 (l : Launch) (G : va_G) (cy : Nat → ClassId) (ad : rf → Nat) (d : Nat) (v : Int32) (Mz : mM) (hIz : InvD Mz) : WP DD l G cy ad yX12_is cX12_is 3 (some .boolean) (d + 1) 0 [(0, vR (12, 0, 0)), (1, vI v), (2, vI 2)] [] Mz (fun r M' => Mz = M' ∧ (((r = 1 ∧ 0 ≤ v.toInt ∧ v.toInt ≤ 7) ∨ r = 0)) ∧ SP_is2 v Mz r) := by
  refine w_iload_n dX12_is_0 rfl 1 rfl ?_
  refine w_iconst (v := 0) dX12_is_1 (by decide) ?_
  refine w_aload_n dX12_is_2 rfl 0 rfl ?_
  refine w_getR (c' := (50, 0, 0)) fl_RX12_9 rfl rfl ic_12 dX12_is_3 rfl ?_
  refine w_iload_n dX12_is_6 rfl 2 rfl ?_
  refine w_ialdL 2 rfl rfl ic_50 li_2 (by decide) dX12_is_7 (fun z1_ e2_ => ?_)
  have h3_ : 0 ≤ z1_.toInt ∧ z1_.toInt ≤ 8 := pn_2 hIz e2_
  refine w_iconst (v := 1) dX12_is_8 (by decide) ?_
  refine w_isubB dX12_is_9 (rfl : z1_.toInt = z1_.toInt) li_1 (lf_c_is2_0 z1_ h3_ ) (fun z4_ h5_ => ?_)
  refine w_callS (as := [vI v, vI 0, vI z4_]) (rest := []) (c_X12_within l G cy ad d v 0 z4_ Mz hIz) kS_X12_within pnn_17 (Nat.le_of_ble_eq_true rfl) m_1427 rfl rfl (by decide) (Nat.le_of_ble_eq_true rfl) dX12_is_10 (fun r6_ M7_ q8_ => ?_)
  obtain ⟨rfl, h9_, hs10_⟩ := q8_
  rcases h9_ with ⟨rfl, h9_⟩ | ⟨rfl, h9_⟩
  · simp only [li_0] at h9_
    exact w_zret rfl dX12_is_13 ⟨by decide, by decide⟩ ⟨rfl, (Or.inl ⟨rfl, (lf_c_is2_1 v z1_ z4_ h3_ h5_ h9_ )⟩), ⟨z1_, e2_, h3_, z4_, h5_, (Or.inl ⟨hs10_, h9_, rfl⟩)⟩⟩
  · simp only [li_0] at h9_
    exact w_zret rfl dX12_is_13 ⟨by decide, by decide⟩ ⟨rfl, (Or.inr rfl), ⟨z1_, e2_, h3_, z4_, h5_, (Or.inr ⟨hs10_, h9_, rfl⟩)⟩⟩
end
section
/-! words of the tables that are used, by their places; decode rows; fields -/
theorem m_27 : Cond.selects yX12_in.cls yX12_in yX12_in ∈ BASE := bmem 27 (by decide +kernel) rfl
theorem m_28 : Cond.selects yX12_thing.cls yX12_thing yX12_thing ∈ BASE := bmem 28 (by decide +kernel) rfl
theorem m_29 : Cond.selects yX12_goer.cls yX12_goer yX12_goer ∈ BASE := bmem 29 (by decide +kernel) rfl
set_option maxRecDepth 20000 in
theorem m_1328 : Cond.fieldLink RX12 22 "ClickStreetModel" "EAST" "[I" ∈ BASE := bmT6 50 rfl rfl
set_option maxRecDepth 20000 in
theorem m_1329 : Cond.fieldLink RX12 25 "ClickStreetModel" "SOUTH" "[I" ∈ BASE := bmT6 51 rfl rfl
set_option maxRecDepth 20000 in
theorem m_1330 : Cond.fieldLink RX12 28 "ClickStreetModel" "unseen" "I" ∈ BASE := bmT6 52 rfl rfl
set_option maxRecDepth 20000 in
theorem m_1443 : Cond.methodLink RX12 96 yX12_in ∈ BASE := bmT6 165 rfl rfl
set_option maxRecDepth 20000 in
theorem m_1445 : Cond.instanceMethod yX12_in ∈ BASE := bmT6 167 rfl rfl
set_option maxRecDepth 20000 in
theorem m_1446 : Cond.code yX12_in cX12_in 3 (some .int) ∈ BASE := bmT6 168 rfl rfl
set_option maxRecDepth 20000 in
theorem m_1447 : Cond.methodLink RX12 89 yX12_thing ∈ BASE := bmT6 169 rfl rfl
set_option maxRecDepth 20000 in
theorem m_1449 : Cond.instanceMethod yX12_thing ∈ BASE := bmT6 171 rfl rfl
set_option maxRecDepth 20000 in
theorem m_1450 : Cond.code yX12_thing cX12_thing 2 (some .int) ∈ BASE := bmT6 172 rfl rfl
set_option maxRecDepth 20000 in
theorem m_1451 : Cond.methodLink RX12 93 yX12_goer ∈ BASE := bmT6 173 rfl rfl
set_option maxRecDepth 20000 in
theorem m_1453 : Cond.instanceMethod yX12_goer ∈ BASE := bmT6 175 rfl rfl
set_option maxRecDepth 20000 in
theorem m_1454 : Cond.code yX12_goer cX12_goer 2 (some .int) ∈ BASE := bmT6 176 rfl rfl
theorem kV_X12_goer : KV yX12_goer cX12_goer 2 (some .int) 1 := ⟨m_1453, m_29, m_92, m_1454, nhM_17, nhV_17, pdn_2⟩
theorem kV_X12_in : KV yX12_in cX12_in 3 (some .int) 1 := ⟨m_1445, m_27, m_92, m_1446, nhM_17, nhV_17, pdn_2⟩
theorem kV_X12_thing : KV yX12_thing cX12_thing 2 (some .int) 1 := ⟨m_1449, m_28, m_92, m_1450, nhM_17, nhV_17, pdn_2⟩
theorem fl_RX12_22 : FLK RX12 22 12 5 (.array .int) true := ⟨RX12, TX12, 33, tyX12, rfl, inB12, tyX12_ok, nmX12, by decide, rfl, rfl, Or.inl m_1328⟩
theorem fl_RX12_25 : FLK RX12 25 12 6 (.array .int) true := ⟨RX12, TX12, 33, tyX12, rfl, inB12, tyX12_ok, nmX12, by decide, rfl, rfl, Or.inl m_1329⟩
theorem fl_RX12_28 : FLK RX12 28 12 7 .int false := ⟨RX12, TX12, 33, tyX12, rfl, inB12, tyX12_ok, nmX12, by decide, rfl, rfl, Or.inl m_1330⟩
theorem dX12_become_0 : decode cX12_become 0 = .ok (.aload_n 0, 1) := by decide +kernel
theorem dX12_become_1 : decode cX12_become 1 = .ok (.getfield 9, 3) := by decide +kernel
theorem dX12_become_4 : decode cX12_become 4 = .ok (.iload_n 1, 1) := by decide +kernel
theorem dX12_become_5 : decode cX12_become 5 = .ok (.iaload, 1) := by decide +kernel
theorem dX12_become_6 : decode cX12_become 6 = .ok (.istore_n 3, 1) := by decide +kernel
theorem dX12_become_7 : decode cX12_become 7 = .ok (.aload_n 0, 1) := by decide +kernel
theorem dX12_become_8 : decode cX12_become 8 = .ok (.getfield 9, 3) := by decide +kernel
theorem dX12_become_11 : decode cX12_become 11 = .ok (.iload_n 1, 1) := by decide +kernel
theorem dX12_become_12 : decode cX12_become 12 = .ok (.iload_n 2, 1) := by decide +kernel
theorem dX12_become_13 : decode cX12_become 13 = .ok (.iastore, 1) := by decide +kernel
theorem dX12_become_14 : decode cX12_become 14 = .ok (.iload_n 3, 1) := by decide +kernel
theorem dX12_become_15 : decode cX12_become 15 = .ok (.ireturn, 1) := by decide +kernel
theorem ch_cX12_comes_0 : (cX12_comes.data.toList.drop 0).take 36 = [42, 180, 0, 9, 4, 46, 62, 42, 180, 0, 9, 42, 29, 182, 0, 89, 3, 96, 27, 79, 42, 180, 0, 9, 42, 29, 182, 0, 89, 4, 96, 28, 79, 42, 180, 0] := by decide +kernel
theorem dX12_comes_0 : decode cX12_comes 0 = .ok (.aload_n 0, 1) := do_42 (rdb (p := 0) (i := 0) ch_cX12_comes_0 rfl)
theorem dX12_comes_1 : decode cX12_comes 1 = .ok (.getfield 9, 3) := do_180 (rdb (p := 0) (i := 1) ch_cX12_comes_0 rfl) (rdb (p := 0) (i := 2) ch_cX12_comes_0 rfl) (rdb (p := 0) (i := 3) ch_cX12_comes_0 rfl) rfl
theorem dX12_comes_4 : decode cX12_comes 4 = .ok (.iconst 1, 1) := do_4 (rdb (p := 0) (i := 4) ch_cX12_comes_0 rfl)
theorem dX12_comes_5 : decode cX12_comes 5 = .ok (.iaload, 1) := do_46 (rdb (p := 0) (i := 5) ch_cX12_comes_0 rfl)
theorem dX12_comes_6 : decode cX12_comes 6 = .ok (.istore_n 3, 1) := do_62 (rdb (p := 0) (i := 6) ch_cX12_comes_0 rfl)
theorem dX12_comes_7 : decode cX12_comes 7 = .ok (.aload_n 0, 1) := do_42 (rdb (p := 0) (i := 7) ch_cX12_comes_0 rfl)
theorem dX12_comes_8 : decode cX12_comes 8 = .ok (.getfield 9, 3) := do_180 (rdb (p := 0) (i := 8) ch_cX12_comes_0 rfl) (rdb (p := 0) (i := 9) ch_cX12_comes_0 rfl) (rdb (p := 0) (i := 10) ch_cX12_comes_0 rfl) rfl
theorem dX12_comes_11 : decode cX12_comes 11 = .ok (.aload_n 0, 1) := do_42 (rdb (p := 0) (i := 11) ch_cX12_comes_0 rfl)
theorem dX12_comes_12 : decode cX12_comes 12 = .ok (.iload_n 3, 1) := do_29 (rdb (p := 0) (i := 12) ch_cX12_comes_0 rfl)
theorem dX12_comes_13 : decode cX12_comes 13 = .ok (.invokevirtual 89, 3) := do_182 (rdb (p := 0) (i := 13) ch_cX12_comes_0 rfl) (rdb (p := 0) (i := 14) ch_cX12_comes_0 rfl) (rdb (p := 0) (i := 15) ch_cX12_comes_0 rfl) rfl
theorem dX12_comes_16 : decode cX12_comes 16 = .ok (.iconst 0, 1) := do_3 (rdb (p := 0) (i := 16) ch_cX12_comes_0 rfl)
theorem dX12_comes_17 : decode cX12_comes 17 = .ok (.iadd, 1) := do_96 (rdb (p := 0) (i := 17) ch_cX12_comes_0 rfl)
theorem dX12_comes_18 : decode cX12_comes 18 = .ok (.iload_n 1, 1) := do_27 (rdb (p := 0) (i := 18) ch_cX12_comes_0 rfl)
theorem dX12_comes_19 : decode cX12_comes 19 = .ok (.iastore, 1) := do_79 (rdb (p := 0) (i := 19) ch_cX12_comes_0 rfl)
theorem dX12_comes_20 : decode cX12_comes 20 = .ok (.aload_n 0, 1) := do_42 (rdb (p := 0) (i := 20) ch_cX12_comes_0 rfl)
theorem dX12_comes_21 : decode cX12_comes 21 = .ok (.getfield 9, 3) := do_180 (rdb (p := 0) (i := 21) ch_cX12_comes_0 rfl) (rdb (p := 0) (i := 22) ch_cX12_comes_0 rfl) (rdb (p := 0) (i := 23) ch_cX12_comes_0 rfl) rfl
theorem dX12_comes_24 : decode cX12_comes 24 = .ok (.aload_n 0, 1) := do_42 (rdb (p := 0) (i := 24) ch_cX12_comes_0 rfl)
theorem dX12_comes_25 : decode cX12_comes 25 = .ok (.iload_n 3, 1) := do_29 (rdb (p := 0) (i := 25) ch_cX12_comes_0 rfl)
theorem dX12_comes_26 : decode cX12_comes 26 = .ok (.invokevirtual 89, 3) := do_182 (rdb (p := 0) (i := 26) ch_cX12_comes_0 rfl) (rdb (p := 0) (i := 27) ch_cX12_comes_0 rfl) (rdb (p := 0) (i := 28) ch_cX12_comes_0 rfl) rfl
theorem dX12_comes_29 : decode cX12_comes 29 = .ok (.iconst 1, 1) := do_4 (rdb (p := 0) (i := 29) ch_cX12_comes_0 rfl)
theorem dX12_comes_30 : decode cX12_comes 30 = .ok (.iadd, 1) := do_96 (rdb (p := 0) (i := 30) ch_cX12_comes_0 rfl)
theorem dX12_comes_31 : decode cX12_comes 31 = .ok (.iload_n 2, 1) := do_28 (rdb (p := 0) (i := 31) ch_cX12_comes_0 rfl)
theorem ch_cX12_comes_32 : (cX12_comes.data.toList.drop 32).take 36 = [79, 42, 180, 0, 9, 42, 29, 182, 0, 89, 5, 96, 3, 79, 42, 180, 0, 9, 42, 29, 182, 0, 89, 6, 96, 3, 79, 42, 180, 0, 9, 4, 92, 46, 4, 96] := by decide +kernel
theorem dX12_comes_32 : decode cX12_comes 32 = .ok (.iastore, 1) := do_79 (rdb (p := 32) (i := 0) ch_cX12_comes_32 rfl)
theorem dX12_comes_33 : decode cX12_comes 33 = .ok (.aload_n 0, 1) := do_42 (rdb (p := 32) (i := 1) ch_cX12_comes_32 rfl)
theorem dX12_comes_34 : decode cX12_comes 34 = .ok (.getfield 9, 3) := do_180 (rdb (p := 32) (i := 2) ch_cX12_comes_32 rfl) (rdb (p := 32) (i := 3) ch_cX12_comes_32 rfl) (rdb (p := 32) (i := 4) ch_cX12_comes_32 rfl) rfl
theorem dX12_comes_37 : decode cX12_comes 37 = .ok (.aload_n 0, 1) := do_42 (rdb (p := 32) (i := 5) ch_cX12_comes_32 rfl)
theorem dX12_comes_38 : decode cX12_comes 38 = .ok (.iload_n 3, 1) := do_29 (rdb (p := 32) (i := 6) ch_cX12_comes_32 rfl)
theorem dX12_comes_39 : decode cX12_comes 39 = .ok (.invokevirtual 89, 3) := do_182 (rdb (p := 32) (i := 7) ch_cX12_comes_32 rfl) (rdb (p := 32) (i := 8) ch_cX12_comes_32 rfl) (rdb (p := 32) (i := 9) ch_cX12_comes_32 rfl) rfl
theorem dX12_comes_42 : decode cX12_comes 42 = .ok (.iconst 2, 1) := do_5 (rdb (p := 32) (i := 10) ch_cX12_comes_32 rfl)
theorem dX12_comes_43 : decode cX12_comes 43 = .ok (.iadd, 1) := do_96 (rdb (p := 32) (i := 11) ch_cX12_comes_32 rfl)
theorem dX12_comes_44 : decode cX12_comes 44 = .ok (.iconst 0, 1) := do_3 (rdb (p := 32) (i := 12) ch_cX12_comes_32 rfl)
theorem dX12_comes_45 : decode cX12_comes 45 = .ok (.iastore, 1) := do_79 (rdb (p := 32) (i := 13) ch_cX12_comes_32 rfl)
theorem dX12_comes_46 : decode cX12_comes 46 = .ok (.aload_n 0, 1) := do_42 (rdb (p := 32) (i := 14) ch_cX12_comes_32 rfl)
theorem dX12_comes_47 : decode cX12_comes 47 = .ok (.getfield 9, 3) := do_180 (rdb (p := 32) (i := 15) ch_cX12_comes_32 rfl) (rdb (p := 32) (i := 16) ch_cX12_comes_32 rfl) (rdb (p := 32) (i := 17) ch_cX12_comes_32 rfl) rfl
theorem dX12_comes_50 : decode cX12_comes 50 = .ok (.aload_n 0, 1) := do_42 (rdb (p := 32) (i := 18) ch_cX12_comes_32 rfl)
theorem dX12_comes_51 : decode cX12_comes 51 = .ok (.iload_n 3, 1) := do_29 (rdb (p := 32) (i := 19) ch_cX12_comes_32 rfl)
theorem dX12_comes_52 : decode cX12_comes 52 = .ok (.invokevirtual 89, 3) := do_182 (rdb (p := 32) (i := 20) ch_cX12_comes_32 rfl) (rdb (p := 32) (i := 21) ch_cX12_comes_32 rfl) (rdb (p := 32) (i := 22) ch_cX12_comes_32 rfl) rfl
theorem dX12_comes_55 : decode cX12_comes 55 = .ok (.iconst 3, 1) := do_6 (rdb (p := 32) (i := 23) ch_cX12_comes_32 rfl)
theorem dX12_comes_56 : decode cX12_comes 56 = .ok (.iadd, 1) := do_96 (rdb (p := 32) (i := 24) ch_cX12_comes_32 rfl)
theorem dX12_comes_57 : decode cX12_comes 57 = .ok (.iconst 0, 1) := do_3 (rdb (p := 32) (i := 25) ch_cX12_comes_32 rfl)
theorem dX12_comes_58 : decode cX12_comes 58 = .ok (.iastore, 1) := do_79 (rdb (p := 32) (i := 26) ch_cX12_comes_32 rfl)
theorem dX12_comes_59 : decode cX12_comes 59 = .ok (.aload_n 0, 1) := do_42 (rdb (p := 32) (i := 27) ch_cX12_comes_32 rfl)
theorem dX12_comes_60 : decode cX12_comes 60 = .ok (.getfield 9, 3) := do_180 (rdb (p := 32) (i := 28) ch_cX12_comes_32 rfl) (rdb (p := 32) (i := 29) ch_cX12_comes_32 rfl) (rdb (p := 32) (i := 30) ch_cX12_comes_32 rfl) rfl
theorem dX12_comes_63 : decode cX12_comes 63 = .ok (.iconst 1, 1) := do_4 (rdb (p := 32) (i := 31) ch_cX12_comes_32 rfl)
theorem ch_cX12_comes_64 : (cX12_comes.data.toList.drop 64).take 36 = [92, 46, 4, 96, 79, 29, 172] := by decide +kernel
theorem dX12_comes_64 : decode cX12_comes 64 = .ok (.dup2, 1) := do_92 (rdb (p := 64) (i := 0) ch_cX12_comes_64 rfl)
theorem dX12_comes_65 : decode cX12_comes 65 = .ok (.iaload, 1) := do_46 (rdb (p := 64) (i := 1) ch_cX12_comes_64 rfl)
theorem dX12_comes_66 : decode cX12_comes 66 = .ok (.iconst 1, 1) := do_4 (rdb (p := 64) (i := 2) ch_cX12_comes_64 rfl)
theorem dX12_comes_67 : decode cX12_comes 67 = .ok (.iadd, 1) := do_96 (rdb (p := 64) (i := 3) ch_cX12_comes_64 rfl)
theorem dX12_comes_68 : decode cX12_comes 68 = .ok (.iastore, 1) := do_79 (rdb (p := 64) (i := 4) ch_cX12_comes_64 rfl)
theorem dX12_comes_69 : decode cX12_comes 69 = .ok (.iload_n 3, 1) := do_29 (rdb (p := 64) (i := 5) ch_cX12_comes_64 rfl)
theorem dX12_comes_70 : decode cX12_comes 70 = .ok (.ireturn, 1) := do_172 (rdb (p := 64) (i := 6) ch_cX12_comes_64 rfl)
theorem ch_cX12_in_0 : (cX12_in.data.toList.drop 0).take 36 = [3, 61, 28, 42, 180, 0, 9, 4, 46, 162, 0, 27, 42, 180, 0, 9, 42, 28, 182, 0, 89, 4, 96, 46, 27, 160, 0, 5, 28, 172, 132, 2, 1, 167, 255, 225] := by decide +kernel
theorem dX12_in_0 : decode cX12_in 0 = .ok (.iconst 0, 1) := do_3 (rdb (p := 0) (i := 0) ch_cX12_in_0 rfl)
theorem dX12_in_1 : decode cX12_in 1 = .ok (.istore_n 2, 1) := do_61 (rdb (p := 0) (i := 1) ch_cX12_in_0 rfl)
theorem dX12_in_2 : decode cX12_in 2 = .ok (.iload_n 2, 1) := do_28 (rdb (p := 0) (i := 2) ch_cX12_in_0 rfl)
theorem dX12_in_3 : decode cX12_in 3 = .ok (.aload_n 0, 1) := do_42 (rdb (p := 0) (i := 3) ch_cX12_in_0 rfl)
theorem dX12_in_4 : decode cX12_in 4 = .ok (.getfield 9, 3) := do_180 (rdb (p := 0) (i := 4) ch_cX12_in_0 rfl) (rdb (p := 0) (i := 5) ch_cX12_in_0 rfl) (rdb (p := 0) (i := 6) ch_cX12_in_0 rfl) rfl
theorem dX12_in_7 : decode cX12_in 7 = .ok (.iconst 1, 1) := do_4 (rdb (p := 0) (i := 7) ch_cX12_in_0 rfl)
theorem dX12_in_8 : decode cX12_in 8 = .ok (.iaload, 1) := do_46 (rdb (p := 0) (i := 8) ch_cX12_in_0 rfl)
theorem dX12_in_9 : decode cX12_in 9 = .ok (.if_icmp .ge 27, 3) := do_162 (rdb (p := 0) (i := 9) ch_cX12_in_0 rfl) (rdb (p := 0) (i := 10) ch_cX12_in_0 rfl) (rdb (p := 0) (i := 11) ch_cX12_in_0 rfl) (by decide +kernel)
theorem dX12_in_12 : decode cX12_in 12 = .ok (.aload_n 0, 1) := do_42 (rdb (p := 0) (i := 12) ch_cX12_in_0 rfl)
theorem dX12_in_13 : decode cX12_in 13 = .ok (.getfield 9, 3) := do_180 (rdb (p := 0) (i := 13) ch_cX12_in_0 rfl) (rdb (p := 0) (i := 14) ch_cX12_in_0 rfl) (rdb (p := 0) (i := 15) ch_cX12_in_0 rfl) rfl
theorem dX12_in_16 : decode cX12_in 16 = .ok (.aload_n 0, 1) := do_42 (rdb (p := 0) (i := 16) ch_cX12_in_0 rfl)
theorem dX12_in_17 : decode cX12_in 17 = .ok (.iload_n 2, 1) := do_28 (rdb (p := 0) (i := 17) ch_cX12_in_0 rfl)
theorem dX12_in_18 : decode cX12_in 18 = .ok (.invokevirtual 89, 3) := do_182 (rdb (p := 0) (i := 18) ch_cX12_in_0 rfl) (rdb (p := 0) (i := 19) ch_cX12_in_0 rfl) (rdb (p := 0) (i := 20) ch_cX12_in_0 rfl) rfl
theorem dX12_in_21 : decode cX12_in 21 = .ok (.iconst 1, 1) := do_4 (rdb (p := 0) (i := 21) ch_cX12_in_0 rfl)
theorem dX12_in_22 : decode cX12_in 22 = .ok (.iadd, 1) := do_96 (rdb (p := 0) (i := 22) ch_cX12_in_0 rfl)
theorem dX12_in_23 : decode cX12_in 23 = .ok (.iaload, 1) := do_46 (rdb (p := 0) (i := 23) ch_cX12_in_0 rfl)
theorem dX12_in_24 : decode cX12_in 24 = .ok (.iload_n 1, 1) := do_27 (rdb (p := 0) (i := 24) ch_cX12_in_0 rfl)
theorem dX12_in_25 : decode cX12_in 25 = .ok (.if_icmp .ne 5, 3) := do_160 (rdb (p := 0) (i := 25) ch_cX12_in_0 rfl) (rdb (p := 0) (i := 26) ch_cX12_in_0 rfl) (rdb (p := 0) (i := 27) ch_cX12_in_0 rfl) (by decide +kernel)
theorem dX12_in_28 : decode cX12_in 28 = .ok (.iload_n 2, 1) := do_28 (rdb (p := 0) (i := 28) ch_cX12_in_0 rfl)
theorem dX12_in_29 : decode cX12_in 29 = .ok (.ireturn, 1) := do_172 (rdb (p := 0) (i := 29) ch_cX12_in_0 rfl)
theorem dX12_in_30 : decode cX12_in 30 = .ok (.iinc 2 1, 3) := do_132 (rdb (p := 0) (i := 30) ch_cX12_in_0 rfl) (rdb (p := 0) (i := 31) ch_cX12_in_0 rfl) (rdb (p := 0) (i := 32) ch_cX12_in_0 rfl) (by decide +kernel)
theorem ch_cX12_in_32 : (cX12_in.data.toList.drop 32).take 36 = [1, 167, 255, 225, 3, 61, 28, 42, 180, 0, 9, 5, 46, 162, 0, 38, 42, 180, 0, 9, 42, 28, 182, 0, 93, 4, 96, 46, 27, 160, 0, 16, 28, 42, 180, 0] := by decide +kernel
theorem dX12_in_33 : decode cX12_in 33 = .ok (.goto (-31), 3) := do_167 (rdb (p := 32) (i := 1) ch_cX12_in_32 rfl) (rdb (p := 32) (i := 2) ch_cX12_in_32 rfl) (rdb (p := 32) (i := 3) ch_cX12_in_32 rfl) (by decide +kernel)
theorem dX12_in_36 : decode cX12_in 36 = .ok (.iconst 0, 1) := do_3 (rdb (p := 32) (i := 4) ch_cX12_in_32 rfl)
theorem dX12_in_37 : decode cX12_in 37 = .ok (.istore_n 2, 1) := do_61 (rdb (p := 32) (i := 5) ch_cX12_in_32 rfl)
theorem dX12_in_38 : decode cX12_in 38 = .ok (.iload_n 2, 1) := do_28 (rdb (p := 32) (i := 6) ch_cX12_in_32 rfl)
theorem dX12_in_39 : decode cX12_in 39 = .ok (.aload_n 0, 1) := do_42 (rdb (p := 32) (i := 7) ch_cX12_in_32 rfl)
theorem dX12_in_40 : decode cX12_in 40 = .ok (.getfield 9, 3) := do_180 (rdb (p := 32) (i := 8) ch_cX12_in_32 rfl) (rdb (p := 32) (i := 9) ch_cX12_in_32 rfl) (rdb (p := 32) (i := 10) ch_cX12_in_32 rfl) rfl
theorem dX12_in_43 : decode cX12_in 43 = .ok (.iconst 2, 1) := do_5 (rdb (p := 32) (i := 11) ch_cX12_in_32 rfl)
theorem dX12_in_44 : decode cX12_in 44 = .ok (.iaload, 1) := do_46 (rdb (p := 32) (i := 12) ch_cX12_in_32 rfl)
theorem dX12_in_45 : decode cX12_in 45 = .ok (.if_icmp .ge 38, 3) := do_162 (rdb (p := 32) (i := 13) ch_cX12_in_32 rfl) (rdb (p := 32) (i := 14) ch_cX12_in_32 rfl) (rdb (p := 32) (i := 15) ch_cX12_in_32 rfl) (by decide +kernel)
theorem dX12_in_48 : decode cX12_in 48 = .ok (.aload_n 0, 1) := do_42 (rdb (p := 32) (i := 16) ch_cX12_in_32 rfl)
theorem dX12_in_49 : decode cX12_in 49 = .ok (.getfield 9, 3) := do_180 (rdb (p := 32) (i := 17) ch_cX12_in_32 rfl) (rdb (p := 32) (i := 18) ch_cX12_in_32 rfl) (rdb (p := 32) (i := 19) ch_cX12_in_32 rfl) rfl
theorem dX12_in_52 : decode cX12_in 52 = .ok (.aload_n 0, 1) := do_42 (rdb (p := 32) (i := 20) ch_cX12_in_32 rfl)
theorem dX12_in_53 : decode cX12_in 53 = .ok (.iload_n 2, 1) := do_28 (rdb (p := 32) (i := 21) ch_cX12_in_32 rfl)
theorem dX12_in_54 : decode cX12_in 54 = .ok (.invokevirtual 93, 3) := do_182 (rdb (p := 32) (i := 22) ch_cX12_in_32 rfl) (rdb (p := 32) (i := 23) ch_cX12_in_32 rfl) (rdb (p := 32) (i := 24) ch_cX12_in_32 rfl) rfl
theorem dX12_in_57 : decode cX12_in 57 = .ok (.iconst 1, 1) := do_4 (rdb (p := 32) (i := 25) ch_cX12_in_32 rfl)
theorem dX12_in_58 : decode cX12_in 58 = .ok (.iadd, 1) := do_96 (rdb (p := 32) (i := 26) ch_cX12_in_32 rfl)
theorem dX12_in_59 : decode cX12_in 59 = .ok (.iaload, 1) := do_46 (rdb (p := 32) (i := 27) ch_cX12_in_32 rfl)
theorem dX12_in_60 : decode cX12_in 60 = .ok (.iload_n 1, 1) := do_27 (rdb (p := 32) (i := 28) ch_cX12_in_32 rfl)
theorem dX12_in_61 : decode cX12_in 61 = .ok (.if_icmp .ne 16, 3) := do_160 (rdb (p := 32) (i := 29) ch_cX12_in_32 rfl) (rdb (p := 32) (i := 30) ch_cX12_in_32 rfl) (rdb (p := 32) (i := 31) ch_cX12_in_32 rfl) (by decide +kernel)
theorem ch_cX12_in_64 : (cX12_in.data.toList.drop 64).take 36 = [28, 42, 180, 0, 28, 159, 0, 8, 16, 100, 28, 96, 172, 132, 2, 1, 167, 255, 214, 2, 172] := by decide +kernel
theorem dX12_in_64 : decode cX12_in 64 = .ok (.iload_n 2, 1) := do_28 (rdb (p := 64) (i := 0) ch_cX12_in_64 rfl)
theorem dX12_in_65 : decode cX12_in 65 = .ok (.aload_n 0, 1) := do_42 (rdb (p := 64) (i := 1) ch_cX12_in_64 rfl)
theorem dX12_in_66 : decode cX12_in 66 = .ok (.getfield 28, 3) := do_180 (rdb (p := 64) (i := 2) ch_cX12_in_64 rfl) (rdb (p := 64) (i := 3) ch_cX12_in_64 rfl) (rdb (p := 64) (i := 4) ch_cX12_in_64 rfl) rfl
theorem dX12_in_69 : decode cX12_in 69 = .ok (.if_icmp .eq 8, 3) := do_159 (rdb (p := 64) (i := 5) ch_cX12_in_64 rfl) (rdb (p := 64) (i := 6) ch_cX12_in_64 rfl) (rdb (p := 64) (i := 7) ch_cX12_in_64 rfl) (by decide +kernel)
theorem dX12_in_72 : decode cX12_in 72 = .ok (.bipush 100, 2) := do_16 (rdb (p := 64) (i := 8) ch_cX12_in_64 rfl) (rdb (p := 64) (i := 9) ch_cX12_in_64 rfl) (by decide +kernel)
theorem dX12_in_74 : decode cX12_in 74 = .ok (.iload_n 2, 1) := do_28 (rdb (p := 64) (i := 10) ch_cX12_in_64 rfl)
theorem dX12_in_75 : decode cX12_in 75 = .ok (.iadd, 1) := do_96 (rdb (p := 64) (i := 11) ch_cX12_in_64 rfl)
theorem dX12_in_76 : decode cX12_in 76 = .ok (.ireturn, 1) := do_172 (rdb (p := 64) (i := 12) ch_cX12_in_64 rfl)
theorem dX12_in_77 : decode cX12_in 77 = .ok (.iinc 2 1, 3) := do_132 (rdb (p := 64) (i := 13) ch_cX12_in_64 rfl) (rdb (p := 64) (i := 14) ch_cX12_in_64 rfl) (rdb (p := 64) (i := 15) ch_cX12_in_64 rfl) (by decide +kernel)
theorem dX12_in_80 : decode cX12_in 80 = .ok (.goto (-42), 3) := do_167 (rdb (p := 64) (i := 16) ch_cX12_in_64 rfl) (rdb (p := 64) (i := 17) ch_cX12_in_64 rfl) (rdb (p := 64) (i := 18) ch_cX12_in_64 rfl) (by decide +kernel)
theorem dX12_in_83 : decode cX12_in 83 = .ok (.iconst (-1), 1) := do_2 (rdb (p := 64) (i := 19) ch_cX12_in_64 rfl)
theorem dX12_in_84 : decode cX12_in 84 = .ok (.ireturn, 1) := do_172 (rdb (p := 64) (i := 20) ch_cX12_in_64 rfl)
theorem dX12_isFree_0 : decode cX12_isFree 0 = .ok (.aload_n 0, 1) := by decide +kernel
theorem dX12_isFree_1 : decode cX12_isFree 1 = .ok (.iload_n 1, 1) := by decide +kernel
theorem dX12_isFree_2 : decode cX12_isFree 2 = .ok (.invokevirtual 96, 3) := by decide +kernel
theorem dX12_isFree_5 : decode cX12_isFree 5 = .ok (.ifCond .ge 7, 3) := by decide +kernel
theorem dX12_isFree_8 : decode cX12_isFree 8 = .ok (.iconst 1, 1) := by decide +kernel
theorem dX12_isFree_9 : decode cX12_isFree 9 = .ok (.goto 4, 3) := by decide +kernel
theorem dX12_isFree_12 : decode cX12_isFree 12 = .ok (.iconst 0, 1) := by decide +kernel
theorem dX12_isFree_13 : decode cX12_isFree 13 = .ok (.ireturn, 1) := by decide +kernel
theorem ch_cX12_on_0 : (cX12_on.data.toList.drop 0).take 36 = [27, 16, 16, 112, 29, 42, 180, 0, 22, 28, 46, 104, 96, 54, 4, 27, 16, 16, 108, 29, 42, 180, 0, 25, 28, 46, 104, 96, 54, 5, 21, 4, 3, 16, 15, 184] := by decide +kernel
theorem dX12_on_0 : decode cX12_on 0 = .ok (.iload_n 1, 1) := do_27 (rdb (p := 0) (i := 0) ch_cX12_on_0 rfl)
theorem dX12_on_1 : decode cX12_on 1 = .ok (.bipush 16, 2) := do_16 (rdb (p := 0) (i := 1) ch_cX12_on_0 rfl) (rdb (p := 0) (i := 2) ch_cX12_on_0 rfl) (by decide +kernel)
theorem dX12_on_3 : decode cX12_on 3 = .ok (.irem, 1) := do_112 (rdb (p := 0) (i := 3) ch_cX12_on_0 rfl)
theorem dX12_on_4 : decode cX12_on 4 = .ok (.iload_n 3, 1) := do_29 (rdb (p := 0) (i := 4) ch_cX12_on_0 rfl)
theorem dX12_on_5 : decode cX12_on 5 = .ok (.aload_n 0, 1) := do_42 (rdb (p := 0) (i := 5) ch_cX12_on_0 rfl)
theorem dX12_on_6 : decode cX12_on 6 = .ok (.getfield 22, 3) := do_180 (rdb (p := 0) (i := 6) ch_cX12_on_0 rfl) (rdb (p := 0) (i := 7) ch_cX12_on_0 rfl) (rdb (p := 0) (i := 8) ch_cX12_on_0 rfl) rfl
theorem dX12_on_9 : decode cX12_on 9 = .ok (.iload_n 2, 1) := do_28 (rdb (p := 0) (i := 9) ch_cX12_on_0 rfl)
theorem dX12_on_10 : decode cX12_on 10 = .ok (.iaload, 1) := do_46 (rdb (p := 0) (i := 10) ch_cX12_on_0 rfl)
theorem dX12_on_11 : decode cX12_on 11 = .ok (.imul, 1) := do_104 (rdb (p := 0) (i := 11) ch_cX12_on_0 rfl)
theorem dX12_on_12 : decode cX12_on 12 = .ok (.iadd, 1) := do_96 (rdb (p := 0) (i := 12) ch_cX12_on_0 rfl)
theorem dX12_on_13 : decode cX12_on 13 = .ok (.istore 4, 2) := do_54 (rdb (p := 0) (i := 13) ch_cX12_on_0 rfl) (rdb (p := 0) (i := 14) ch_cX12_on_0 rfl)
theorem dX12_on_15 : decode cX12_on 15 = .ok (.iload_n 1, 1) := do_27 (rdb (p := 0) (i := 15) ch_cX12_on_0 rfl)
theorem dX12_on_16 : decode cX12_on 16 = .ok (.bipush 16, 2) := do_16 (rdb (p := 0) (i := 16) ch_cX12_on_0 rfl) (rdb (p := 0) (i := 17) ch_cX12_on_0 rfl) (by decide +kernel)
theorem dX12_on_18 : decode cX12_on 18 = .ok (.idiv, 1) := do_108 (rdb (p := 0) (i := 18) ch_cX12_on_0 rfl)
theorem dX12_on_19 : decode cX12_on 19 = .ok (.iload_n 3, 1) := do_29 (rdb (p := 0) (i := 19) ch_cX12_on_0 rfl)
theorem dX12_on_20 : decode cX12_on 20 = .ok (.aload_n 0, 1) := do_42 (rdb (p := 0) (i := 20) ch_cX12_on_0 rfl)
theorem dX12_on_21 : decode cX12_on 21 = .ok (.getfield 25, 3) := do_180 (rdb (p := 0) (i := 21) ch_cX12_on_0 rfl) (rdb (p := 0) (i := 22) ch_cX12_on_0 rfl) (rdb (p := 0) (i := 23) ch_cX12_on_0 rfl) rfl
theorem dX12_on_24 : decode cX12_on 24 = .ok (.iload_n 2, 1) := do_28 (rdb (p := 0) (i := 24) ch_cX12_on_0 rfl)
theorem dX12_on_25 : decode cX12_on 25 = .ok (.iaload, 1) := do_46 (rdb (p := 0) (i := 25) ch_cX12_on_0 rfl)
theorem dX12_on_26 : decode cX12_on 26 = .ok (.imul, 1) := do_104 (rdb (p := 0) (i := 26) ch_cX12_on_0 rfl)
theorem dX12_on_27 : decode cX12_on 27 = .ok (.iadd, 1) := do_96 (rdb (p := 0) (i := 27) ch_cX12_on_0 rfl)
theorem dX12_on_28 : decode cX12_on 28 = .ok (.istore 5, 2) := do_54 (rdb (p := 0) (i := 28) ch_cX12_on_0 rfl) (rdb (p := 0) (i := 29) ch_cX12_on_0 rfl)
theorem dX12_on_30 : decode cX12_on 30 = .ok (.iload 4, 2) := do_21 (rdb (p := 0) (i := 30) ch_cX12_on_0 rfl) (rdb (p := 0) (i := 31) ch_cX12_on_0 rfl)
theorem ch_cX12_on_32 : (cX12_on.data.toList.drop 32).take 36 = [3, 16, 15, 184, 0, 85, 153, 0, 25, 21, 5, 3, 16, 11, 184, 0, 85, 153, 0, 14, 16, 16, 21, 5, 104, 21, 4, 96, 167, 0, 4, 2, 172] := by decide +kernel
theorem dX12_on_32 : decode cX12_on 32 = .ok (.iconst 0, 1) := do_3 (rdb (p := 32) (i := 0) ch_cX12_on_32 rfl)
theorem dX12_on_33 : decode cX12_on 33 = .ok (.bipush 15, 2) := do_16 (rdb (p := 32) (i := 1) ch_cX12_on_32 rfl) (rdb (p := 32) (i := 2) ch_cX12_on_32 rfl) (by decide +kernel)
theorem dX12_on_35 : decode cX12_on 35 = .ok (.invokestatic 85, 3) := do_184 (rdb (p := 32) (i := 3) ch_cX12_on_32 rfl) (rdb (p := 32) (i := 4) ch_cX12_on_32 rfl) (rdb (p := 32) (i := 5) ch_cX12_on_32 rfl) rfl
theorem dX12_on_38 : decode cX12_on 38 = .ok (.ifCond .eq 25, 3) := do_153 (rdb (p := 32) (i := 6) ch_cX12_on_32 rfl) (rdb (p := 32) (i := 7) ch_cX12_on_32 rfl) (rdb (p := 32) (i := 8) ch_cX12_on_32 rfl) (by decide +kernel)
theorem dX12_on_41 : decode cX12_on 41 = .ok (.iload 5, 2) := do_21 (rdb (p := 32) (i := 9) ch_cX12_on_32 rfl) (rdb (p := 32) (i := 10) ch_cX12_on_32 rfl)
theorem dX12_on_43 : decode cX12_on 43 = .ok (.iconst 0, 1) := do_3 (rdb (p := 32) (i := 11) ch_cX12_on_32 rfl)
theorem dX12_on_44 : decode cX12_on 44 = .ok (.bipush 11, 2) := do_16 (rdb (p := 32) (i := 12) ch_cX12_on_32 rfl) (rdb (p := 32) (i := 13) ch_cX12_on_32 rfl) (by decide +kernel)
theorem dX12_on_46 : decode cX12_on 46 = .ok (.invokestatic 85, 3) := do_184 (rdb (p := 32) (i := 14) ch_cX12_on_32 rfl) (rdb (p := 32) (i := 15) ch_cX12_on_32 rfl) (rdb (p := 32) (i := 16) ch_cX12_on_32 rfl) rfl
theorem dX12_on_49 : decode cX12_on 49 = .ok (.ifCond .eq 14, 3) := do_153 (rdb (p := 32) (i := 17) ch_cX12_on_32 rfl) (rdb (p := 32) (i := 18) ch_cX12_on_32 rfl) (rdb (p := 32) (i := 19) ch_cX12_on_32 rfl) (by decide +kernel)
theorem dX12_on_52 : decode cX12_on 52 = .ok (.bipush 16, 2) := do_16 (rdb (p := 32) (i := 20) ch_cX12_on_32 rfl) (rdb (p := 32) (i := 21) ch_cX12_on_32 rfl) (by decide +kernel)
theorem dX12_on_54 : decode cX12_on 54 = .ok (.iload 5, 2) := do_21 (rdb (p := 32) (i := 22) ch_cX12_on_32 rfl) (rdb (p := 32) (i := 23) ch_cX12_on_32 rfl)
theorem dX12_on_56 : decode cX12_on 56 = .ok (.imul, 1) := do_104 (rdb (p := 32) (i := 24) ch_cX12_on_32 rfl)
theorem dX12_on_57 : decode cX12_on 57 = .ok (.iload 4, 2) := do_21 (rdb (p := 32) (i := 25) ch_cX12_on_32 rfl) (rdb (p := 32) (i := 26) ch_cX12_on_32 rfl)
theorem dX12_on_59 : decode cX12_on 59 = .ok (.iadd, 1) := do_96 (rdb (p := 32) (i := 27) ch_cX12_on_32 rfl)
theorem dX12_on_60 : decode cX12_on 60 = .ok (.goto 4, 3) := do_167 (rdb (p := 32) (i := 28) ch_cX12_on_32 rfl) (rdb (p := 32) (i := 29) ch_cX12_on_32 rfl) (rdb (p := 32) (i := 30) ch_cX12_on_32 rfl) (by decide +kernel)
theorem dX12_on_63 : decode cX12_on 63 = .ok (.iconst (-1), 1) := do_2 (rdb (p := 32) (i := 31) ch_cX12_on_32 rfl)
theorem ch_cX12_on_64 : (cX12_on.data.toList.drop 64).take 36 = [172] := by decide +kernel
theorem dX12_on_64 : decode cX12_on 64 = .ok (.ireturn, 1) := do_172 (rdb (p := 64) (i := 0) ch_cX12_on_64 rfl)
end
