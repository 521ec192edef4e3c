/-! feed -/
def FEDN (u : Int32) (n r n' : Int) : Prop := (¬ (1 ≤ u.toInt ∧ u.toInt ≤ 8) ∧ r = -1000001 ∧ n' = n) ∨ ((1 ≤ u.toInt ∧ u.toInt ≤ 8) ∧ ((48 < n + u.toInt ∧ r = -1000004 ∧ n' = n) ∨ (n + u.toInt ≤ 48 ∧ r = n + u.toInt ∧ n' = n + u.toInt)))
theorem nnC_feed {v : Int64} {u : Int32} {M M1 : mM} {r : Int32} (h : SP_X11_feed v u M r M1) (h0 : 0 ≤ (M.1 (5, 0, 0) 1).toInt ∧ (M.1 (5, 0, 0) 1).toInt ≤ 48) : FEDN u (M.1 (5, 0, 0) 1).toInt r.toInt (M1.1 (5, 0, 0) 1).toInt := by
  have hl : rl 0 = 48 := rfl
  have q0 := il_0
  unfold FEDN
  unfold SP_X11_feed at h
  rcases h with (⟨hs5_, h4_, r7_, hs11_, (⟨h12_, v4_39, hv0_39, M_39, hL_39, -, hF_39, h14_, z15_, e16_, hr_, hM_⟩ | ⟨h12_, M36_, -, hF40_, r35_, hs42_, hr_, hM_⟩)⟩ | ⟨hs5_, h4_, M45_, -, hF49_, r44_, hs51_, hr_, hM_⟩)
  · have a := x5room hs11_ h0
    have b := RCH.ind (P := fun x : Int32 × mM => 0 ≤ x.1.toInt ∧ x.1.toInt ≤ u.toInt ∧ (x.2.1 (5, 0, 0) 1).toInt = (M.1 (5, 0, 0) 1).toInt + x.1.toInt) (by dsimp only; omega) (fun x z hp hst => by
      obtain ⟨x1, x2⟩ := x
      obtain ⟨z1, z2⟩ := z
      dsimp only at hp hst ⊢
      unfold ST_X11_feed_39 at hst
      rcases hst with ⟨hv0_39, -, hF_39, h14_, z17_, h18_, w19_, h20_, z21_, h22_, z23_, h25_, h24_, M26_, -, hF30_, hs32_, z33_, h34_, hq_v4_39y, hM_⟩
      have c := x5add hs32_ (by omega) (by omega)
      rw [hq_v4_39y, hM_]; omega) hL_39
    dsimp only at b
    have y := eT e16_
    have := eT hr_
    rw [hM_]; omega
  · have a := x5room hs11_ h0
    rw [hM_, hF40_ (5, 0, 0) 1 (by simp [S_c_X11_error])]
    have := err4 hs42_; have := eT hr_; omega
  · rw [hM_, hF49_ (5, 0, 0) 1 (by simp [S_c_X11_error])]
    have := err1 hs51_; have := eT hr_; omega
theorem nnD_feed {v : Int64} {u : Int32} {M M1 : mM} {r : Int32} (h : SP_X12_feed v u M r M1) : FEDN u (M.1 (50, 0, 0) 4).toInt r.toInt (M1.1 (50, 0, 0) 4).toInt := by
  have q0 := il_0
  unfold FEDN
  unfold SP_X12_feed at h
  rcases h with (⟨hs5_, h4_, z7_, e8_, h9_, z10_, h11_, (⟨h12_, v4_40, hv0_40, hv1_40, M_40, hv2_40, hL_40, -, hF_40, h14_, z15_, e16_, h17_, hr_, hM_⟩ | ⟨h12_, M53_, -, hF57_, r52_, hs59_, h55_, hr_, hM_⟩)⟩ | ⟨hs5_, h4_, M62_, -, hF66_, r61_, hs68_, h64_, hr_, hM_⟩)
  · have y1 := eT e8_
    have b := RCH.ind (P := fun x : Int32 × mM => 0 ≤ x.1.toInt ∧ x.1.toInt ≤ u.toInt ∧ (x.2.1 (50, 0, 0) 4).toInt = (M.1 (50, 0, 0) 4).toInt + x.1.toInt) (by dsimp only; omega) (fun x z hp hst => by
      obtain ⟨x1, x2⟩ := x
      obtain ⟨z1, z2⟩ := z
      dsimp only at hp hst ⊢
      unfold ST_X12_feed_40 at hst
      rcases hst with ⟨hv0_40, hv1_40, hv2_40, -, hF_40, h14_, z18_, e19_, h21_, z22_, h23_, z24_, h25_, w26_, h27_, w28_, h29_, z30_, h31_, j34_, h35_, M32_, hM33_, z39_, e40_, h41_, h42_, z43_, h44_, M45_, hM46_, z50_, h51_, hq_v4_40y, hM_⟩
      have y2 := eT e19_
      rw [hq_v4_40y, hM_, zupE hM46_ rfl rfl]; omega) hL_40
    dsimp only at b
    have y := eT e16_
    have := eT hr_
    rw [hM_]; omega
  · have y1 := eT e8_
    rw [hM_, hF57_ (50, 0, 0) 4 (by simp [S_c_X12_finding])]
    have := eT hr_; omega
  · rw [hM_, hF66_ (50, 0, 0) 4 (by simp [S_c_X12_finding])]
    have := eT hr_; omega
/-! text: the tape is empty behind it -/
def TEXN (v : Int32) (n n' : Int) : Prop := ((0 ≤ v.toInt ∧ v.toInt ≤ 2) ∧ n' = 0) ∨ (¬ (0 ≤ v.toInt ∧ v.toInt ≤ 2) ∧ n' = n)
theorem x5clear {b w : Nat} {M M1 : mM} (h : SP_X5_clear b w M M1) : M1 = up M (5, b, w) 1 0 := by
  unfold SP_X5_clear at h
  rcases h with ⟨M1_, hM2_, hM_⟩
  exact hM_.trans hM2_
theorem nnC_text {v : Int32} {M M1 : mM} {r : Int32} (h : SP_X11_text v M r M1) : TEXN v (M.1 (5, 0, 0) 1).toInt (M1.1 (5, 0, 0) 1).toInt := by
  have q0 := il_0
  unfold TEXN
  unfold SP_X11_text at h
  rcases h with (⟨hs5_, h4_, M8_, -, hF12_, r7_, hs14_, (⟨h15_, M16_, -, hF20_, hs22_, hr_, hM_⟩ | ⟨h15_, j23_, h24_, h25_, h26_, M27_, -, hF31_, hs33_, M34_, -, hF38_, hs40_, hr_, hM_⟩)⟩ | ⟨hs5_, h4_, M43_, -, hF47_, r42_, hs49_, hr_, hM_⟩)
  · rw [hM_, zupE (x5clear hs22_) rfl rfl]; omega
  · rw [hM_, zupE (x5clear hs40_) rfl rfl]; omega
  · rw [hM_, hF47_ (5, 0, 0) 1 (by simp [S_c_X11_error])]; omega
theorem nnD_text {v : Int32} {M M1 : mM} {r : Int32} (h : SP_X12_text_ v M r M1) : TEXN v (M.1 (50, 0, 0) 4).toInt (M1.1 (50, 0, 0) 4).toInt := by
  have q0 := il_0
  unfold TEXN
  unfold SP_X12_text_ at h
  rcases h with (⟨hs5_, h4_, M7_, hM8_, M12_, hM13_, M18_, hM19_, M25_, hM26_, M32_, hM33_, M39_, hM40_, M48_, -, hF52_, z56_, e57_, h58_, (⟨h60_, M61_, hM62_, h66_, M69_, hM70_, z76_, e77_, h78_, h79_, h80_, h81_, z82_, e83_, h84_, z85_, h86_, hr_, hM_⟩ | ⟨h60_, M88_, -, hF92_, r87_, hs94_, h98_, (⟨h99_, M100_, hM101_, h105_, h108_, M110_, hM111_, z119_, e120_, h121_, h122_, h123_, h124_, z126_, e127_, h128_, h129_, z130_, h131_, z132_, h133_, z134_, e135_, h136_, h137_, j140_, h141_, M138_, hM139_, v2_117, hv0_117, hv1_117, M_117, hv2_117, hL_117, -, hF_117, z151_, e152_, h153_, h154_, h155_, z157_, e158_, hr_, hM_⟩ | ⟨h99_, M188_, hM189_, h193_, M196_, hM197_, z203_, e204_, h205_, h206_, h207_, h208_, z209_, e210_, h211_, z212_, h213_, hr_, hM_⟩)⟩)⟩ | ⟨hs5_, h4_, M216_, -, hF220_, r215_, hs222_, h218_, hr_, hM_⟩)
  · rw [hM_, zupE hM70_ rfl rfl]; omega
  · have b := RCH.ind (P := fun x : Int32 × mM => x.2.1 (50, 0, 0) 4 = 0) (by dsimp only; rw [zupN hM139_ (fun q => by have := q.2; omega), zupE hM111_ rfl rfl]) (fun x z hp hst => by
      obtain ⟨x1, x2⟩ := x
      obtain ⟨z1, z2⟩ := z
      dsimp only at hp hst ⊢
      unfold ST_X12_text__117 at hst
      rcases hst with ⟨hv0_117, hv1_117, hv2_117, -, hF_117, z151_, e152_, h153_, h154_, h155_, z159_, e160_, h161_, h162_, z163_, h164_, z165_, h166_, z167_, h168_, z169_, h170_, j173_, h174_, z171_, e172_, j177_, h178_, M175_, hM176_, z186_, h187_, hq_v2_117y, hM_⟩
      rw [hM_, zupN hM176_ (fun q => by have := q.2; omega)]; exact hp) hL_117
    dsimp only at b
    rw [hM_, b]; omega
  · rw [hM_, zupE hM197_ rfl rfl]; omega
  · rw [hM_, hF220_ (50, 0, 0) 4 (by simp [S_c_X12_finding])]; omega
/-! tenths: NOW alone -/
theorem inc32 {a b x : Int32} (h : b.toInt = a.toInt + 1) (hb : a.toInt < 2147483647) : x + a + (1 : Int32) = x + b := by
  rw [Int32.add_assoc]
  congr 1
  have := rngI a
  exact i32e (by rw [h]; exact addI rfl il_1 (by omega) (by omega))
def TENN (v x r x' : Int32) : Prop := (¬ (1 ≤ v.toInt ∧ v.toInt ≤ 100) ∧ r.toInt = -1000001 ∧ x' = x) ∨ ((1 ≤ v.toInt ∧ v.toInt ≤ 100) ∧ ((9999 < (x + v).toInt ∧ r.toInt = -1000003 ∧ x' = x) ∨ ((x + v).toInt ≤ 9999 ∧ r = x + v ∧ x' = x + v)))
theorem x10now {b : Nat} {M M1 : mM} (h : SP_X10_passTenth b M M1) : M1.1 (10, b, 0) 7 = M.1 (10, b, 0) 7 + (1 : Int32) := by
  unfold SP_X10_passTenth at h
  rcases h with ⟨z1_, e2_, z3_, h4_, M5_, hM6_, z9_, e10_, -, M11_, -, hF15_, hs17_, v1_23, hv0_23, M_23, hL_23, -, hF_23, z19_, e20_, (⟨h21_, hM_⟩ | ⟨h21_, h22_, hM_⟩)⟩
  all_goals
    have b1 := RCH.ind (P := fun x : Int32 × mM => x.2.1 (10, b, 0) 7 = M11_.1 (10, b, 0) 7) rfl (fun x z hp hst => by
      obtain ⟨x1, x2⟩ := x
      obtain ⟨z1, z2⟩ := z
      dsimp only at hp hst ⊢
      unfold ST_X10_passTenth_23 at hst
      rcases hst with ⟨p_hv0_23, -, p_hF_23, p_z19_, p_e20_, p_h21_, p_h22_, p_j23_, p_h24_, p_h25_, p_z26_, p_e27_, p_h28_, (⟨p_h29_, p_z30_, p_h31_, p_hq_v1_23y, p_hM_⟩ | ⟨p_h29_, p_M32_, -, p_hF36_, p_hs38_, p_z39_, p_h40_, p_hq_v1_23y, p_hM_⟩)⟩
      · rw [p_hM_]; exact hp
      · rw [p_hM_, p_hF36_ (10, b, 0) 7 (by simp [S_c_X10_letWalkerGo])]; exact hp) hL_23
    dsimp only at b1
    rw [hM_, b1, hF15_ (10, b, 0) 7 (by simp [S_c_X7_letThingsGo]), zupE hM6_ rfl rfl, h4_, e2_]
theorem nnC_tenths {v : Int32} {M M1 : mM} {r : Int32} (h : SP_X11_tenths v M r M1) : TENN v (M.1 (10, 0, 0) 7) r (M1.1 (10, 0, 0) 7) := by
  have q0 := il_0
  unfold TENN
  unfold SP_X11_tenths at h
  rcases h with (⟨hs5_, h4_, z7_, e8_, z9_, h10_, (⟨h11_, v2_39, hv0_39, M_39, hL_39, -, hF_39, h13_, z14_, e15_, hr_, hM_⟩ | ⟨h11_, M26_, -, hF30_, r25_, hs32_, hr_, hM_⟩)⟩ | ⟨hs5_, h4_, M35_, -, hF39_, r34_, hs41_, hr_, hM_⟩)
  · have b := RCH.ind (P := fun x : Int32 × mM => 0 ≤ x.1.toInt ∧ x.1.toInt ≤ v.toInt ∧ x.2.1 (10, 0, 0) 7 = M.1 (10, 0, 0) 7 + x.1) ⟨by dsimp only; omega, by dsimp only; omega, by dsimp only; rw [Int32.add_zero]⟩ (fun x z hp hst => by
      obtain ⟨x1, x2⟩ := x
      obtain ⟨z1, z2⟩ := z
      dsimp only at hp hst ⊢
      unfold ST_X11_tenths_39 at hst
      rcases hst with ⟨hv0_39, -, hF_39, h13_, M16_, -, hF20_, hs22_, z23_, h24_, hq_v2_39y, hM_⟩
      refine ⟨by rw [hq_v2_39y]; omega, by rw [hq_v2_39y]; omega, ?_⟩
      rw [hq_v2_39y, hM_, x10now hs22_, hp.2.2]; exact inc32 h24_ (by omega)) hL_39
    dsimp only at b
    have e : v2_39 = v := i32e (by omega)
    rw [e] at b
    rw [h10_, e8_] at h11_
    exact Or.inr ⟨h4_, Or.inr ⟨h11_, by rw [hr_, e15_]; exact b.2.2, by rw [hM_]; exact b.2.2⟩⟩
  · rw [h10_, e8_] at h11_
    exact Or.inr ⟨h4_, Or.inl ⟨h11_, by rw [hr_]; exact err3 hs32_, by rw [hM_]; exact hF30_ _ _ (by simp [S_c_X11_error])⟩⟩
  · exact Or.inl ⟨h4_, by rw [hr_]; exact err1 hs41_, by rw [hM_]; exact hF39_ _ _ (by simp [S_c_X11_error])⟩
theorem x12now {M M1 : mM} (h : SP_X12_tenth M M1) : M1.1 (50, 0, 0) 0 = M.1 (50, 0, 0) 0 + (1 : Int32) := by
  unfold SP_X12_tenth at h
  rcases h with ⟨z1_, e2_, z3_, h4_, M5_, hM6_, v1_12, hv0_12, M_12, hL_12, -, hF_12, z10_, e11_, h12_, h13_, v1_35, hv0_35, M_35, hL_35, -, hF_35, z15_, e16_, h17_, h18_, hM_⟩
  have b1 := RCH.ind (P := fun x : Int32 × mM => x.2.1 (50, 0, 0) 0 = M5_.1 (50, 0, 0) 0) rfl (fun x z hp hst => by
    obtain ⟨x1, x2⟩ := x
    obtain ⟨z1, z2⟩ := z
    dsimp only at hp hst ⊢
    rw [KST_X12_tenth_12 hst 0 (by decide) (by decide)]; exact hp) hL_12
  have b2 := RCH.ind (P := fun x : Int32 × mM => x.2.1 (50, 0, 0) 0 = M_12.1 (50, 0, 0) 0) rfl (fun x z hp hst => by
    obtain ⟨x1, x2⟩ := x
    obtain ⟨z1, z2⟩ := z
    dsimp only at hp hst ⊢
    rw [KST_X12_tenth_35 hst 0 (by decide) (by decide)]; exact hp) hL_35
  dsimp only at b1 b2
  rw [hM_, b2, b1, zupE hM6_ rfl rfl, h4_, e2_]
theorem nnD_tenths {v : Int32} {M M1 : mM} {r : Int32} (h : SP_X12_tenths v M r M1) : TENN v (M.1 (50, 0, 0) 0) r (M1.1 (50, 0, 0) 0) := by
  have q0 := il_0
  unfold TENN
  unfold SP_X12_tenths at h
  rcases h with (⟨hs5_, h4_, z7_, e8_, z9_, h10_, (⟨h11_, v2_40, hv0_40, M_40, hL_40, -, hF_40, h13_, z14_, e15_, hr_, hM_⟩ | ⟨h11_, M26_, -, hF30_, r25_, hs32_, h28_, hr_, hM_⟩)⟩ | ⟨hs5_, h4_, M35_, -, hF39_, r34_, hs41_, h37_, hr_, hM_⟩)
  · have b := RCH.ind (P := fun x : Int32 × mM => 0 ≤ x.1.toInt ∧ x.1.toInt ≤ v.toInt ∧ x.2.1 (50, 0, 0) 0 = M.1 (50, 0, 0) 0 + x.1) ⟨by dsimp only; omega, by dsimp only; omega, by dsimp only; rw [Int32.add_zero]⟩ (fun x z hp hst => by
      obtain ⟨x1, x2⟩ := x
      obtain ⟨z1, z2⟩ := z
      dsimp only at hp hst ⊢
      unfold ST_X12_tenths_40 at hst
      rcases hst with ⟨hv0_40, -, hF_40, h13_, M16_, -, hF20_, hs22_, z23_, h24_, hq_v2_40y, hM_⟩
      refine ⟨by rw [hq_v2_40y]; omega, by rw [hq_v2_40y]; omega, ?_⟩
      rw [hq_v2_40y, hM_, x12now hs22_, hp.2.2]; exact inc32 h24_ (by omega)) hL_40
    dsimp only at b
    have e : v2_40 = v := i32e (by omega)
    rw [e] at b
    rw [h10_, e8_] at h11_
    exact Or.inr ⟨h4_, Or.inr ⟨h11_, by rw [hr_, e15_]; exact b.2.2, by rw [hM_]; exact b.2.2⟩⟩
  · rw [h10_, e8_] at h11_
    exact Or.inr ⟨h4_, Or.inl ⟨h11_, by rw [hr_]; exact h28_, by rw [hM_]; exact hF30_ _ _ (by simp [S_c_X12_finding])⟩⟩
  · exact Or.inl ⟨h4_, by rw [hr_]; exact h37_, by rw [hM_]; exact hF39_ _ _ (by simp [S_c_X12_finding])⟩
/-! sheet -/
def SHEB (v u t : Int32) : Prop := (0 ≤ v.toInt ∧ v.toInt ≤ 3) ∧ (u.toInt = 0 ∨ ((u.toInt = 8 ∨ u.toInt = 16 ∨ u.toInt = 32) ∧ 0 ≤ t.toInt ∧ t.toInt ≤ 24))
theorem x6drop {w : Nat} {M M1 : mM} (h : SP_X6_drop w M M1) : M1.1 (6, 0, w) 0 = 0 ∧ M1.1 (6, 0, w) 1 = 0 := by
  unfold SP_X6_drop at h
  rcases h with ⟨M1_, hM2_, M5_, hM6_, hM_⟩
  rw [hM_, zupE hM6_ rfl rfl, zupN hM6_ (by simp), zupE hM2_ rfl rfl]
  exact ⟨rfl, rfl⟩
theorem x6begin {w : Nat} {v u : Int32} {M M1 : mM} (h : SP_X6_begin w v u M M1) (hu : 0 ≤ u.toInt ∧ u.toInt ≤ 24) : M1.1 (6, 0, w) 0 = v ∧ M1.1 (6, 0, w) 1 = u := by
  unfold SP_X6_begin at h
  rcases h with ⟨M1_, hM2_, z5_, h6_, z7_, h8_, M9_, hM10_, v3_21, hv0_21, hv1_21, M_21, hL_21, -, hF_21, h14_, hM_⟩
  have b := RCH.ind (P := fun x : Int32 × mM => ∀ k, x.2.1 (6, 0, w) k = M9_.1 (6, 0, w) k) (fun _ => rfl) (fun x z hp hst => by
    obtain ⟨x1, x2⟩ := x
    obtain ⟨z1, z2⟩ := z
    dsimp only at hp hst ⊢
    unfold ST_X6_begin_21 at hst
    rcases hst with ⟨p_hv0_21, p_hv1_21, -, p_hF_21, p_h14_, p_j17_, p_h18_, p_M15_, p_hM16_, p_z21_, p_h22_, p_hq_v3_21y, p_hM_⟩
    intro k
    rw [p_hM_, zupR p_hM16_ (by simp)]; exact hp k) hL_21
  dsimp only at b
  rw [hM_, b 0, b 1, zupN hM10_ (by simp), zupE hM2_ rfl rfl, zupE hM10_ rfl rfl]
  exact ⟨rfl, i32e (by omega)⟩
theorem nnC_sheet {v u t : Int32} {M M1 : mM} {r : Int32} (h : SP_X11_sheet v u t M r M1) : (¬ SHEB v u t ∧ ∀ w k, M1.1 (6, 0, w) k = M.1 (6, 0, w) k) ∨ (SHEB v u t ∧ M1.1 (6, 0, v.toInt.toNat) 0 = u ∧ M1.1 (6, 0, v.toInt.toNat) 1 = (if u.toInt = 0 then 0 else t) ∧ ∀ w k, ¬ w = v.toInt.toNat → M1.1 (6, 0, w) k = M.1 (6, 0, w) k) := by
  have q0 := il_0
  unfold SHEB
  unfold SP_X11_sheet at h
  rcases h with (⟨hs5_, h4_, (⟨h7_, h8_, j9_, h10_, h11_, M12_, -, hF16_, hs18_, hr_, hM_⟩ | ⟨h7_, (⟨h19_, h20_, (⟨h21_, (⟨h22_, j23_, h24_, h25_, M26_, -, hF30_, hs32_, hr_, hM_⟩ | ⟨h22_, M34_, -, hF38_, r33_, hs40_, hr_, hM_⟩)⟩ | ⟨h21_, M42_, -, hF46_, r41_, hs48_, hr_, hM_⟩)⟩ | ⟨h19_, (⟨h49_, h50_, (⟨h51_, (⟨h52_, j53_, h54_, h55_, M56_, -, hF60_, hs62_, hr_, hM_⟩ | ⟨h52_, M64_, -, hF68_, r63_, hs70_, hr_, hM_⟩)⟩ | ⟨h51_, M72_, -, hF76_, r71_, hs78_, hr_, hM_⟩)⟩ | ⟨h49_, (⟨h79_, h80_, (⟨h81_, (⟨h82_, j83_, h84_, h85_, M86_, -, hF90_, hs92_, hr_, hM_⟩ | ⟨h82_, M94_, -, hF98_, r93_, hs100_, hr_, hM_⟩)⟩ | ⟨h81_, M102_, -, hF106_, r101_, hs108_, hr_, hM_⟩)⟩ | ⟨h79_, M110_, -, hF114_, r109_, hs116_, hr_, hM_⟩)⟩)⟩)⟩)⟩ | ⟨hs5_, h4_, M119_, -, hF123_, r118_, hs125_, hr_, hM_⟩)
  · obtain rfl : j9_ = v.toInt.toNat := by omega
    have a := x6drop hs18_
    refine Or.inr ⟨by omega, ?_, ?_, fun w k hw => ?_⟩
    · rw [hM_, a.1]; exact i32e (by omega)
    · rw [hM_, a.2, if_pos h7_]
    · rw [hM_]; exact hF16_ _ _ (fun q => by simp only [S_c_X6_drop, or_false] at q; omega)
  · obtain rfl : j23_ = v.toInt.toNat := by omega
    have a := x6begin hs32_ ⟨h21_, h22_⟩
    refine Or.inr ⟨by omega, ?_, ?_, fun w k hw => ?_⟩
    · rw [hM_, a.1]
    · rw [hM_, a.2, if_neg h7_]
    · rw [hM_]; exact hF30_ _ _ (fun q => by simp only [S_c_X6_begin, or_false] at q; omega)
  · exact Or.inl ⟨by omega, fun w k => by rw [hM_]; exact hF38_ _ _ (by simp [S_c_X11_error])⟩
  · exact Or.inl ⟨by omega, fun w k => by rw [hM_]; exact hF46_ _ _ (by simp [S_c_X11_error])⟩
  · obtain rfl : j53_ = v.toInt.toNat := by omega
    have a := x6begin hs62_ ⟨h51_, h52_⟩
    refine Or.inr ⟨by omega, ?_, ?_, fun w k hw => ?_⟩
    · rw [hM_, a.1]
    · rw [hM_, a.2, if_neg h7_]
    · rw [hM_]; exact hF60_ _ _ (fun q => by simp only [S_c_X6_begin, or_false] at q; omega)
  · exact Or.inl ⟨by omega, fun w k => by rw [hM_]; exact hF68_ _ _ (by simp [S_c_X11_error])⟩
  · exact Or.inl ⟨by omega, fun w k => by rw [hM_]; exact hF76_ _ _ (by simp [S_c_X11_error])⟩
  · obtain rfl : j83_ = v.toInt.toNat := by omega
    have a := x6begin hs92_ ⟨h81_, h82_⟩
    refine Or.inr ⟨by omega, ?_, ?_, fun w k hw => ?_⟩
    · rw [hM_, a.1]
    · rw [hM_, a.2, if_neg h7_]
    · rw [hM_]; exact hF90_ _ _ (fun q => by simp only [S_c_X6_begin, or_false] at q; omega)
  · exact Or.inl ⟨by omega, fun w k => by rw [hM_]; exact hF98_ _ _ (by simp [S_c_X11_error])⟩
  · exact Or.inl ⟨by omega, fun w k => by rw [hM_]; exact hF106_ _ _ (by simp [S_c_X11_error])⟩
  · exact Or.inl ⟨by omega, fun w k => by rw [hM_]; exact hF114_ _ _ (by simp [S_c_X11_error])⟩
  · exact Or.inl ⟨by omega, fun w k => by rw [hM_]; exact hF123_ _ _ (by simp [S_c_X11_error])⟩
theorem x12shl {v z : Int32} {M M1 M2 : mM} (h : RCH (fun x_ y_ => ST_X12_sheet_93 v M x_.1 x_.2 y_.1 y_.2) ((0 : Int32), M1) (z, M2)) : ∀ r k, ¬ r = 68 → M2.1 (r, 0, 0) k = M1.1 (r, 0, 0) k := by
  have b := RCH.ind (P := fun x : Int32 × mM => ∀ r k, ¬ r = 68 → x.2.1 (r, 0, 0) k = M1.1 (r, 0, 0) k) (fun _ _ _ => rfl) (fun x z hp hst => by
    obtain ⟨x1, x2⟩ := x
    obtain ⟨z1, z2⟩ := z
    dsimp only at hp hst ⊢
    unfold ST_X12_sheet_93 at hst
    rcases hst with ⟨p_hv0_93, p_hv1_93, -, p_hF_93, p_h24_, p_z25_, p_h26_, p_z27_, p_h28_, p_j31_, p_h32_, p_M29_, p_hM30_, p_z35_, p_h36_, p_hq_v4_93y, p_hM_⟩
    intro r k hr; rw [p_hM_, zupR p_hM30_ hr]; exact hp r k hr) h
  exact b
theorem x12shlb {v z : Int32} {M M1 M2 : mM} (h : RCH (fun x_ y_ => ST_X12_sheet_93b v M x_.1 x_.2 y_.1 y_.2) ((0 : Int32), M1) (z, M2)) : ∀ r k, ¬ r = 68 → M2.1 (r, 0, 0) k = M1.1 (r, 0, 0) k := by
  have b := RCH.ind (P := fun x : Int32 × mM => ∀ r k, ¬ r = 68 → x.2.1 (r, 0, 0) k = M1.1 (r, 0, 0) k) (fun _ _ _ => rfl) (fun x z hp hst => by
    obtain ⟨x1, x2⟩ := x
    obtain ⟨z1, z2⟩ := z
    dsimp only at hp hst ⊢
    unfold ST_X12_sheet_93b at hst
    rcases hst with ⟨p_hv0_93, p_hv1_93, -, p_hF_93, p_h56_, p_z57_, p_h58_, p_z59_, p_h60_, p_j63_, p_h64_, p_M61_, p_hM62_, p_z67_, p_h68_, p_hq_v4_93y, p_hM_⟩
    intro r k hr; rw [p_hM_, zupR p_hM62_ hr]; exact hp r k hr) h
  exact b
theorem x12shlc {v z : Int32} {M M1 M2 : mM} (h : RCH (fun x_ y_ => ST_X12_sheet_93c v M x_.1 x_.2 y_.1 y_.2) ((0 : Int32), M1) (z, M2)) : ∀ r k, ¬ r = 68 → M2.1 (r, 0, 0) k = M1.1 (r, 0, 0) k := by
  have b := RCH.ind (P := fun x : Int32 × mM => ∀ r k, ¬ r = 68 → x.2.1 (r, 0, 0) k = M1.1 (r, 0, 0) k) (fun _ _ _ => rfl) (fun x z hp hst => by
    obtain ⟨x1, x2⟩ := x
    obtain ⟨z1, z2⟩ := z
    dsimp only at hp hst ⊢
    unfold ST_X12_sheet_93c at hst
    rcases hst with ⟨p_hv0_93, p_hv1_93, -, p_hF_93, p_h104_, p_z105_, p_h106_, p_z107_, p_h108_, p_j111_, p_h112_, p_M109_, p_hM110_, p_z115_, p_h116_, p_hq_v4_93y, p_hM_⟩
    intro r k hr; rw [p_hM_, zupR p_hM110_ hr]; exact hp r k hr) h
  exact b
theorem x12shld {v z : Int32} {M M1 M2 : mM} (h : RCH (fun x_ y_ => ST_X12_sheet_93d v M x_.1 x_.2 y_.1 y_.2) ((0 : Int32), M1) (z, M2)) : ∀ r k, ¬ r = 68 → M2.1 (r, 0, 0) k = M1.1 (r, 0, 0) k := by
  have b := RCH.ind (P := fun x : Int32 × mM => ∀ r k, ¬ r = 68 → x.2.1 (r, 0, 0) k = M1.1 (r, 0, 0) k) (fun _ _ _ => rfl) (fun x z hp hst => by
    obtain ⟨x1, x2⟩ := x
    obtain ⟨z1, z2⟩ := z
    dsimp only at hp hst ⊢
    unfold ST_X12_sheet_93d at hst
    rcases hst with ⟨p_hv0_93, p_hv1_93, -, p_hF_93, p_h152_, p_z153_, p_h154_, p_z155_, p_h156_, p_j159_, p_h160_, p_M157_, p_hM158_, p_z163_, p_h164_, p_hq_v4_93y, p_hM_⟩
    intro r k hr; rw [p_hM_, zupR p_hM158_ hr]; exact hp r k hr) h
  exact b
theorem x12sh2 {v u t : Int32} {j j' : Nat} {M M1 M2 M3 : mM} (h1 : M1 = up M (66, 0, 0) j u) (h2 : M2 = up M1 (67, 0, 0) j' t) (hj : (j : Int) = v.toInt) (hj' : (j' : Int) = v.toInt) (h : ∀ r k, ¬ r = 68 → M3.1 (r, 0, 0) k = M2.1 (r, 0, 0) k) : M3.1 (66, 0, 0) v.toInt.toNat = u ∧ M3.1 (67, 0, 0) v.toInt.toNat = t ∧ ∀ w, ¬ w = v.toInt.toNat → M3.1 (66, 0, 0) w = M.1 (66, 0, 0) w ∧ M3.1 (67, 0, 0) w = M.1 (67, 0, 0) w := by
  refine ⟨?_, ?_, fun w hw => ⟨?_, ?_⟩⟩
  · rw [h 66 _ (by decide), zupR h2 (by simp), zupE h1 rfl (by omega)]
  · rw [h 67 _ (by decide), zupE h2 rfl (by omega)]
  · rw [h 66 _ (by decide), zupR h2 (by simp), zupN h1 (fun q => hw (by have := q.2; omega))]
  · rw [h 67 _ (by decide), zupN h2 (fun q => hw (by have := q.2; omega)), zupR h1 (by simp)]
theorem nnD_sheet {v u t : Int32} {M M1 : mM} {r : Int32} (h : SP_X12_sheet v u t M r M1) : (¬ SHEB v u t ∧ ∀ w, M1.1 (66, 0, 0) w = M.1 (66, 0, 0) w ∧ M1.1 (67, 0, 0) w = M.1 (67, 0, 0) w) ∨ (SHEB v u t ∧ M1.1 (66, 0, 0) v.toInt.toNat = u ∧ M1.1 (67, 0, 0) v.toInt.toNat = (if u.toInt = 0 then 0 else t) ∧ ∀ w, ¬ w = v.toInt.toNat → M1.1 (66, 0, 0) w = M.1 (66, 0, 0) w ∧ M1.1 (67, 0, 0) w = M.1 (67, 0, 0) w) := by
  unfold SHEB
  unfold SP_X12_sheet at h
  rcases h with (⟨hs5_, h4_, (⟨h7_, h8_, h9_, j12_, h13_, M10_, hM11_, h16_, j19_, h20_, M17_, hM18_, v4_93, hv0_93, hv1_93, M_93, hL_93, -, hF_93, h24_, hr_, hM_⟩ | ⟨h7_, (⟨h37_, h38_, (⟨h39_, h40_, (⟨h41_, j44_, h45_, M42_, hM43_, h48_, j51_, h52_, M49_, hM50_, v4_93, hv0_93, hv1_93, M_93, hL_93, -, hF_93, h56_, hr_, hM_⟩ | ⟨h41_, M70_, -, hF74_, r69_, hs76_, h72_, hr_, hM_⟩)⟩ | ⟨h39_, M78_, -, hF82_, r77_, hs84_, h80_, hr_, hM_⟩)⟩ | ⟨h37_, (⟨h85_, h86_, (⟨h87_, h88_, (⟨h89_, j92_, h93_, M90_, hM91_, h96_, j99_, h100_, M97_, hM98_, v4_93, hv0_93, hv1_93, M_93, hL_93, -, hF_93, h104_, hr_, hM_⟩ | ⟨h89_, M118_, -, hF122_, r117_, hs124_, h120_, hr_, hM_⟩)⟩ | ⟨h87_, M126_, -, hF130_, r125_, hs132_, h128_, hr_, hM_⟩)⟩ | ⟨h85_, (⟨h133_, h134_, (⟨h135_, h136_, (⟨h137_, j140_, h141_, M138_, hM139_, h144_, j147_, h148_, M145_, hM146_, v4_93, hv0_93, hv1_93, M_93, hL_93, -, hF_93, h152_, hr_, hM_⟩ | ⟨h137_, M166_, -, hF170_, r165_, hs172_, h168_, hr_, hM_⟩)⟩ | ⟨h135_, M174_, -, hF178_, r173_, hs180_, h176_, hr_, hM_⟩)⟩ | ⟨h133_, M182_, -, hF186_, r181_, hs188_, h184_, hr_, hM_⟩)⟩)⟩)⟩)⟩ | ⟨hs5_, h4_, M191_, -, hF195_, r190_, hs197_, h193_, hr_, hM_⟩)
  · rw [if_pos h7_, hM_]; exact Or.inr ⟨by omega, x12sh2 hM11_ hM18_ h13_ h20_ (x12shl hL_93)⟩
  · rw [if_neg h7_, hM_]; exact Or.inr ⟨by omega, x12sh2 hM43_ hM50_ h45_ h52_ (x12shlb hL_93)⟩
  · exact Or.inl ⟨by omega, fun w => by rw [hM_]; exact ⟨hF74_ _ _ (by simp [S_c_X12_finding]), hF74_ _ _ (by simp [S_c_X12_finding])⟩⟩
  · exact Or.inl ⟨by omega, fun w => by rw [hM_]; exact ⟨hF82_ _ _ (by simp [S_c_X12_finding]), hF82_ _ _ (by simp [S_c_X12_finding])⟩⟩
  · rw [if_neg h7_, hM_]; exact Or.inr ⟨by omega, x12sh2 hM91_ hM98_ h93_ h100_ (x12shlc hL_93)⟩
  · exact Or.inl ⟨by omega, fun w => by rw [hM_]; exact ⟨hF122_ _ _ (by simp [S_c_X12_finding]), hF122_ _ _ (by simp [S_c_X12_finding])⟩⟩
  · exact Or.inl ⟨by omega, fun w => by rw [hM_]; exact ⟨hF130_ _ _ (by simp [S_c_X12_finding]), hF130_ _ _ (by simp [S_c_X12_finding])⟩⟩
  · rw [if_neg h7_, hM_]; exact Or.inr ⟨by omega, x12sh2 hM139_ hM146_ h141_ h148_ (x12shld hL_93)⟩
  · exact Or.inl ⟨by omega, fun w => by rw [hM_]; exact ⟨hF170_ _ _ (by simp [S_c_X12_finding]), hF170_ _ _ (by simp [S_c_X12_finding])⟩⟩
  · exact Or.inl ⟨by omega, fun w => by rw [hM_]; exact ⟨hF178_ _ _ (by simp [S_c_X12_finding]), hF178_ _ _ (by simp [S_c_X12_finding])⟩⟩
  · exact Or.inl ⟨by omega, fun w => by rw [hM_]; exact ⟨hF186_ _ _ (by simp [S_c_X12_finding]), hF186_ _ _ (by simp [S_c_X12_finding])⟩⟩
  · exact Or.inl ⟨by omega, fun w => by rw [hM_]; exact ⟨hF195_ _ _ (by simp [S_c_X12_finding]), hF195_ _ _ (by simp [S_c_X12_finding])⟩⟩
