/-! image, restore, check -/
theorem cp_at {M M1 : mM} {c0 c1 : rf} {n : Int32} {k : Nat} (h : M1 = cp M c0 c1 (0 : Int32).toNatClampNeg (0 : Int32).toNatClampNeg n.toNatClampNeg) (hk : k < n.toNatClampNeg) : M1.1 c1 k = M.1 c0 k := by
  rw [h, cp_row]
  unfold va_cpy
  rw [if_pos ⟨Nat.zero_le _, by rw [show (0 : Int32).toNatClampNeg = 0 from rfl]; omega⟩, show (0 : Int32).toNatClampNeg = 0 from rfl, Nat.zero_add, Nat.sub_zero]
theorem x9loop {b b2 : Nat} {z : Int32} {M0 M M1 : mM} (h : RCH (fun x_ y_ => ST_X10_takeFrom_73 b b2 M0 x_.1 x_.2 y_.1 y_.2) ((0 : Int32), M) (z, M1)) : ∀ (c : rf) (k : Nat), ¬ (c.1 = 9 ∨ c.1 = 40 ∨ c.1 = 41) → M1.1 c k = M.1 c k := by
  have a := RCH.ind (P := fun x : Int32 × mM => ∀ (c : rf) (k : Nat), ¬ (c.1 = 9 ∨ c.1 = 40 ∨ c.1 = 41) → x.2.1 c k = M.1 c k) (fun _ _ _ => rfl) (fun x z hp hst => by
    obtain ⟨x1, x2⟩ := x
    obtain ⟨z1, z2⟩ := z
    dsimp only at hp hst ⊢
    unfold ST_X10_takeFrom_73 at hst
    rcases hst with ⟨p_hv0_73, -, p_hF_73, p_z49_, p_e50_, p_h51_, p_h52_, p_j53_, p_h54_, p_h55_, p_j56_, p_h57_, p_h58_, p_M59_, -, p_hF63_, p_hs65_, p_z66_, p_h67_, p_hq_v2_73y, p_hM_⟩
    intro c k hc
    rw [p_hM_, p_hF63_ c k (fun q => by simp only [S_c_X9_takeFrom, or_false] at q; omega)]; exact hp c k hc) h
  exact a
theorem x2loop {b b2 : Nat} {z : Int32} {M0 M M1 : mM} (h : RCH (fun x_ y_ => ST_X2_takeFrom_54 b b2 M0 x_.1 x_.2 y_.1 y_.2) ((0 : Int32), M) (z, M1)) : ∀ (c : rf) (k : Nat), ¬ (c.1 = 1 ∨ c.1 = 24) → M1.1 c k = M.1 c k := by
  have a := RCH.ind (P := fun x : Int32 × mM => ∀ (c : rf) (k : Nat), ¬ (c.1 = 1 ∨ c.1 = 24) → x.2.1 c k = M.1 c k) (fun _ _ _ => rfl) (fun x z hp hst => by
    obtain ⟨x1, x2⟩ := x
    obtain ⟨z1, z2⟩ := z
    dsimp only at hp hst ⊢
    unfold ST_X2_takeFrom_54 at hst
    rcases hst with ⟨p_hv0_54, p_hv1_54, -, p_hF_54, p_h28_, p_j29_, p_h30_, p_h31_, p_h32_, p_j33_, p_h34_, p_h35_, p_h36_, p_M37_, -, p_hF41_, p_hs43_, p_z44_, p_h45_, p_hq_v2_54y, p_hM_⟩
    intro c k hc
    rw [p_hM_, p_hF41_ c k (fun q => by simp only [S_c_X1_takeFrom, or_false] at q; omega)]; exact hp c k hc) h
  exact a
theorem x2take {b b2 : Nat} {M M1 : mM} (h : SP_X2_takeFrom b b2 M M1) : (∀ k, k ≤ 2 → M1.1 (2, b, 0) k = M.1 (2, b2, 0) k) ∧ (∀ k, k < 5 → M1.1 (26, b, 0) k = M.1 (26, b2, 0) k ∧ M1.1 (27, b, 0) k = M.1 (27, b2, 0) k) := by
  unfold SP_X2_takeFrom at h
  rcases h with ⟨z1_, e2_, M3_, hM4_, z7_, e8_, M9_, hM10_, z13_, e14_, M15_, hM16_, M19_, hM20_, M23_, hM24_, v2_54, hv0_54, hv1_54, M_54, hL_54, -, hF_54, h28_, hM_⟩
  have a := x2loop hL_54
  have c2 : ∀ w k, M_54.1 (2, w, 0) k = M15_.1 (2, w, 0) k := fun w k => by rw [a _ _ (by simp), zcpR hM24_ (by simp), zcpR hM20_ (by simp)]
  have n5 : (5 : Int32).toNatClampNeg = 5 := rfl
  refine ⟨fun k hk => ?_, fun k hk => ⟨?_, ?_⟩⟩
  · rw [hM_, c2]
    by_cases hb : b = b2
    · subst hb
      obtain rfl | rfl | rfl : k = 0 ∨ k = 1 ∨ k = 2 := by omega
      · rw [zupN hM16_ (by simp), zupN hM10_ (by simp), zupE hM4_ rfl rfl, e2_]
      · rw [zupN hM16_ (by simp), zupE hM10_ rfl rfl, e8_, zupN hM4_ (by simp)]
      · rw [zupE hM16_ rfl rfl, e14_, zupN hM10_ (by simp), zupN hM4_ (by simp)]
    · obtain rfl | rfl | rfl : k = 0 ∨ k = 1 ∨ k = 2 := by omega
      · rw [zupN hM16_ (by simp), zupN hM10_ (by simp), zupE hM4_ rfl rfl, e2_]
      · rw [zupN hM16_ (by simp), zupE hM10_ rfl rfl, e8_, zupN hM4_ (by simp)]
      · rw [zupE hM16_ rfl rfl, e14_, zupN hM10_ (by simp), zupN hM4_ (by simp)]
  · rw [hM_, a _ _ (by simp), zcpR hM24_ (by simp), cp_at hM20_ (by omega), zupR hM16_ (by simp), zupR hM10_ (by simp), zupR hM4_ (by simp)]
  · rw [hM_, a _ _ (by simp), cp_at hM24_ (by omega), zcpR hM20_ (by simp), zupR hM16_ (by simp), zupR hM10_ (by simp), zupR hM4_ (by simp)]
theorem x3take {b b2 : Nat} {M M1 : mM} (h : SP_X3_takeFrom b b2 M M1) : M1.1 (3, b, 0) 3 = M.1 (3, b2, 0) 3 := by
  unfold SP_X3_takeFrom at h
  rcases h with ⟨M1_, hM2_, M5_, hM6_, M9_, hM10_, z13_, e14_, M15_, hM16_, hM_⟩
  rw [hM_, zupE hM16_ rfl rfl, e14_, zcpR hM10_ (by simp), zcpR hM6_ (by simp), zcpR hM2_ (by simp)]
theorem x5take {b w b2 w2 : Nat} {M M1 : mM} (h : SP_X5_takeFrom b w b2 w2 M M1) (hs : (M.1 (5, b2, w2) 1).toInt ≤ ((rl w : Nat) : Int)) : M1.1 (5, b, w) 1 = M.1 (5, b2, w2) 1 := by
  unfold SP_X5_takeFrom at h
  rcases h with ⟨z1_, e2_, z3_, h4_, z5_, h6_, M7_, hM8_, v2_18, hv0_18, M_18, hL_18, -, hF_18, z13_, e14_, h15_, h16_, hM_⟩
  have a := RCH.ind (P := fun x : Int32 × mM => x.2.1 (5, b, w) 1 = M7_.1 (5, b, w) 1) rfl (fun x z hp hst => by
    obtain ⟨x1, x2⟩ := x
    obtain ⟨z1, z2⟩ := z
    dsimp only at hp hst ⊢
    unfold ST_X5_takeFrom_18 at hst
    rcases hst with ⟨p_hv0_18, -, p_hF_18, p_z13_, p_e14_, p_h15_, p_h16_, p_r17_, p_hs21_, p_j24_, p_h25_, p_M22_, p_hM23_, p_z29_, p_h30_, p_hq_v2_18y, p_hM_⟩
    rw [p_hM_, zupR p_hM23_ (by simp)]; exact hp) hL_18
  dsimp only at a
  have y := eT e2_
  rw [hM_, a, zupE hM8_ rfl rfl]
  exact i32e (by omega)
/-- what a world takes from another one, as far as both hold it alike -/
theorem x10take {b b2 : Nat} {M M1 : mM} (h : SP_X10_takeFrom b b2 M M1) (hb : ¬ b = b2) (h0 : (M.1 (5, b2, 0) 1).toInt ≤ 48) (h1 : (M.1 (5, b2, 1) 1).toInt ≤ 24) :
    M1.1 (10, b, 0) 7 = M.1 (10, b2, 0) 7 ∧ M1.1 (3, b, 0) 3 = M.1 (3, b2, 0) 3 ∧ (∀ w, w < 2 → M1.1 (5, b, w) 1 = M.1 (5, b2, w) 1) ∧ (∀ k, k ≤ 2 → M1.1 (2, b, 0) k = M.1 (2, b2, 0) k) ∧ (∀ k, k < 5 → M1.1 (26, b, 0) k = M.1 (26, b2, 0) k ∧ M1.1 (27, b, 0) k = M.1 (27, b2, 0) k) := by
  have hl0 : rl 0 = 48 := rfl
  have hl1 : rl 1 = 24 := rfl
  unfold SP_X10_takeFrom at h
  rcases h with ⟨M1_, -, hF5_, hs7_, M8_, -, hF12_, hs14_, M15_, -, hF19_, hs21_, M22_, -, hF26_, hs28_, M29_, -, hF33_, hs35_, z36_, e37_, M38_, hM39_, z42_, e43_, M44_, hM45_, v2_73, hv0_73, M_73, hL_73, -, hF_73, z49_, e50_, (⟨h51_, hM_⟩ | ⟨h51_, h52_, hM_⟩)⟩
  all_goals
    have a := x9loop hL_73
    have g7 : ∀ (c : rf) (k : Nat), ¬ (c.1 = 35 ∨ c.1 = 36 ∨ c.1 = 37 ∨ c.1 = 38 ∨ c.1 = 39 ∨ c.1 = 7) → M1_.1 c k = M.1 c k := fun c k hc => hF5_ c k (fun q => by simp only [S_c_X7_takeFrom, or_false] at q; omega)
    have g2 : ∀ (c : rf) (k : Nat), ¬ (c.1 = 2 ∨ c.1 = 26 ∨ c.1 = 27 ∨ c.1 = 1 ∨ c.1 = 24) → M8_.1 c k = M1_.1 c k := fun c k hc => hF12_ c k (fun q => by simp only [S_c_X2_takeFrom, or_false] at q; omega)
    have g3 : ∀ (c : rf) (k : Nat), ¬ (c.1 = 3 ∨ c.1 = 30 ∨ c.1 = 31 ∨ c.1 = 32) → M15_.1 c k = M8_.1 c k := fun c k hc => hF19_ c k (fun q => by simp only [S_c_X3_takeFrom, or_false] at q; omega)
    have g5 : ∀ (c : rf) (k : Nat), ¬ ((c.1 = 5 ∨ c.1 = 33) ∧ c.2.1 = b ∧ c.2.2 = 0) → M22_.1 c k = M15_.1 c k := fun c k hc => hF26_ c k (fun q => by simp only [S_c_X5_takeFrom, or_false] at q; omega)
    have g6 : ∀ (c : rf) (k : Nat), ¬ ((c.1 = 5 ∨ c.1 = 33) ∧ c.2.1 = b ∧ c.2.2 = 1) → M29_.1 c k = M22_.1 c k := fun c k hc => hF33_ c k (fun q => by simp only [S_c_X5_takeFrom, or_false] at q; omega)
    have t2 := x2take hs14_
    have t3 := x3take hs21_
    have t5 := x5take hs28_ (by rw [g3 _ _ (by simp), g2 _ _ (by simp), g7 _ _ (by simp)]; omega)
    have t6 := x5take hs35_ (by rw [g5 _ _ (by simp), g3 _ _ (by simp), g2 _ _ (by simp), g7 _ _ (by simp)]; omega)
    rw [hM_]
    refine ⟨?_, ?_, fun w hw => ?_, fun k hk => ?_, fun k hk => ⟨?_, ?_⟩⟩
    · rw [a _ _ (by simp), zupE hM45_ rfl rfl, e43_, zupN hM39_ (by simp), g6 _ _ (by simp), g5 _ _ (by simp), g3 _ _ (by simp), g2 _ _ (by simp), g7 _ _ (by simp)]
    · rw [a _ _ (by simp), zupR hM45_ (by simp), zupR hM39_ (by simp), g6 _ _ (by simp), g5 _ _ (by simp), t3, g2 _ _ (by simp), g7 _ _ (by simp)]
    · rw [a _ _ (by simp), zupR hM45_ (by simp), zupR hM39_ (by simp)]
      obtain rfl | rfl : w = 0 ∨ w = 1 := by omega
      · rw [g6 _ _ (by simp), t5, g3 _ _ (by simp), g2 _ _ (by simp), g7 _ _ (by simp)]
      · rw [t6, g5 _ _ (by simp), g3 _ _ (by simp), g2 _ _ (by simp), g7 _ _ (by simp)]
    · rw [a _ _ (by simp), zupR hM45_ (by simp), zupR hM39_ (by simp), g6 _ _ (by simp), g5 _ _ (by simp), g3 _ _ (by simp), t2.1 k hk, g7 _ _ (by simp)]
    · rw [a _ _ (by simp), zupR hM45_ (by simp), zupR hM39_ (by simp), g6 _ _ (by simp), g5 _ _ (by simp), g3 _ _ (by simp), (t2.2 k hk).1, g7 _ _ (by simp)]
    · rw [a _ _ (by simp), zupR hM45_ (by simp), zupR hM39_ (by simp), g6 _ _ (by simp), g5 _ _ (by simp), g3 _ _ (by simp), (t2.2 k hk).2, g7 _ _ (by simp)]
theorem cpy51 {M M1 : mM} (h : SP_copy_50_51 M M1) (i : Nat) (hi : i < 3567) : M1.1 (51, 0, 0) i = M1.1 (50, 0, 0) i := by
  unfold SP_copy_50_51 at h
  rcases h with ⟨v2_2, hv0_2, hv1_2, M_2, hv2_2, hL_2, -, hF_2, h2_, hM_⟩
  rw [hM_]; exact hv2_2 i (by omega)
theorem cpy50 {M M1 : mM} (h : SP_copy_51_50 M M1) (i : Nat) (hi : i < 3567) : M1.1 (50, 0, 0) i = M1.1 (51, 0, 0) i := by
  unfold SP_copy_51_50 at h
  rcases h with ⟨v2_2, hv0_2, hv1_2, M_2, hv2_2, hL_2, -, hF_2, h2_, hM_⟩
  rw [hM_]; exact hv2_2 i (by omega)
theorem cpy52 {M M1 : mM} (h : SP_copy_50_52 M M1) (i : Nat) (hi : i < 3567) : M1.1 (52, 0, 0) i = M1.1 (50, 0, 0) i := by
  unfold SP_copy_50_52 at h
  rcases h with ⟨v2_2, hv0_2, hv1_2, M_2, hv2_2, hL_2, -, hF_2, h2_, hM_⟩
  rw [hM_]; exact hv2_2 i (by omega)
theorem cpy50b {M M1 : mM} (h : SP_copy_52_50 M M1) (i : Nat) (hi : i < 3567) : M1.1 (50, 0, 0) i = M1.1 (52, 0, 0) i := by
  unfold SP_copy_52_50 at h
  rcases h with ⟨v2_2, hv0_2, hv1_2, M_2, hv2_2, hL_2, -, hF_2, h2_, hM_⟩
  rw [hM_]; exact hv2_2 i (by omega)
theorem nnC_image {M M1 : mM} {r : Int32} (h : SP_X11_image M r M1) (h0 : (M.1 (5, 0, 0) 1).toInt ≤ 48) (h1 : (M.1 (5, 0, 1) 1).toInt ≤ 24) :
    (r = M.1 (11, 0, 0) 8 + (1 : Int32) ∧ M1.1 (11, 0, 0) 8 = M.1 (11, 0, 0) 8 + (1 : Int32)) ∧ (M1.1 (10, 1, 0) 7 = M.1 (10, 0, 0) 7 ∧ M1.1 (3, 1, 0) 3 = M.1 (3, 0, 0) 3 ∧ (∀ w, w < 2 → M1.1 (5, 1, w) 1 = M.1 (5, 0, w) 1) ∧ (∀ k, k ≤ 2 → M1.1 (2, 1, 0) k = M.1 (2, 0, 0) k) ∧ (∀ k, k < 5 → M1.1 (26, 1, 0) k = M.1 (26, 0, 0) k ∧ M1.1 (27, 1, 0) k = M.1 (27, 0, 0) k)) := by
  unfold SP_X11_image at h
  rcases h with ⟨M1_, -, hF5_, hs7_, z8_, e9_, z10_, h11_, M12_, hM13_, z16_, e17_, hr_, hM_⟩
  have a := x10take hs7_ (by decide) h0 h1
  have e : M1_.1 (11, 0, 0) 8 = M.1 (11, 0, 0) 8 := hF5_ _ _ (by simp [S_c_X10_takeFrom])
  have f : M12_.1 (11, 0, 0) 8 = M.1 (11, 0, 0) 8 + (1 : Int32) := by rw [zupE hM13_ rfl rfl, h11_, e9_, e]
  rw [hr_, e17_, hM_]
  refine ⟨⟨f, f⟩, ?_⟩
  have g : ∀ (c : rf) (k : Nat), ¬ c.1 = 11 → M12_.1 c k = M1_.1 c k := fun c k hc => zupR hM13_ hc
  refine ⟨?_, ?_, fun w hw => ?_, fun k hk => ?_, fun k hk => ⟨?_, ?_⟩⟩
  · rw [g _ _ (by simp)]; exact a.1
  · rw [g _ _ (by simp)]; exact a.2.1
  · rw [g _ _ (by simp)]; exact a.2.2.1 w hw
  · rw [g _ _ (by simp)]; exact a.2.2.2.1 k hk
  · rw [g _ _ (by simp)]; exact (a.2.2.2.2 k hk).1
  · rw [g _ _ (by simp)]; exact (a.2.2.2.2 k hk).2
theorem nnD_image {M M1 : mM} {r : Int32} (h : SP_X12_image M r M1) : (r = M.1 (12, 0, 0) 3 + (1 : Int32) ∧ M1.1 (12, 0, 0) 3 = M.1 (12, 0, 0) 3 + (1 : Int32)) ∧ (∀ i, i < 3567 → M1.1 (51, 0, 0) i = M.1 (50, 0, 0) i) := by
  unfold SP_X12_image at h
  rcases h with ⟨M1_, -, hF5_, hs7_, z9_, e10_, z11_, h12_, M13_, hM14_, z17_, e18_, hr_, hM_⟩
  have e : M1_.1 (12, 0, 0) 3 = M.1 (12, 0, 0) 3 := hF5_ _ _ (by simp [S_c_copy_50_51])
  have f : M13_.1 (12, 0, 0) 3 = M.1 (12, 0, 0) 3 + (1 : Int32) := by rw [zupE hM14_ rfl rfl, h12_, e10_, e]
  rw [hr_, e18_, hM_]
  refine ⟨⟨f, f⟩, fun i hi => ?_⟩
  rw [zupR hM14_ (by simp), cpy51 hs7_ i hi, hF5_ (50, 0, 0) i (by simp [S_c_copy_50_51])]
theorem nnC_restore {M M1 : mM} {r : Int32} (h : SP_X11_restore M r M1) (hb : ¬ (M.1 (11, 0, 0) 8).toInt = 0 → (M.1 (5, 1, 0) 1).toInt ≤ 48 ∧ (M.1 (5, 1, 1) 1).toInt ≤ 24) :
    ((M.1 (11, 0, 0) 8).toInt = 0 ∧ r.toInt = -1000002 ∧ ∀ (c : rf) (k : Nat), ¬ c.1 = 44 → M1.1 c k = M.1 c k) ∨ (¬ (M.1 (11, 0, 0) 8).toInt = 0 ∧ r = M.1 (10, 1, 0) 7 ∧ (M1.1 (10, 0, 0) 7 = M.1 (10, 1, 0) 7 ∧ M1.1 (3, 0, 0) 3 = M.1 (3, 1, 0) 3 ∧ (∀ w, w < 2 → M1.1 (5, 0, w) 1 = M.1 (5, 1, w) 1) ∧ (∀ k, k ≤ 2 → M1.1 (2, 0, 0) k = M.1 (2, 1, 0) k) ∧ (∀ k, k < 5 → M1.1 (26, 0, 0) k = M.1 (26, 1, 0) k ∧ M1.1 (27, 0, 0) k = M.1 (27, 1, 0) k))) := by
  unfold SP_X11_restore at h
  rcases h with ⟨z1_, e2_, (⟨h3_, M4_, -, hF8_, hs10_, z11_, e12_, hr_, hM_⟩ | ⟨h3_, M14_, -, hF18_, r13_, hs20_, hr_, hM_⟩)⟩
  · have y := eT e2_
    have a := x10take hs10_ (by decide) (hb (by omega)).1 (hb (by omega)).2
    rw [hr_, e12_, hM_]
    exact Or.inr ⟨by omega, a.1, a⟩
  · have y := eT e2_
    rw [hr_, hM_]
    exact Or.inl ⟨by omega, err2 hs20_, fun c k hc => hF18_ c k (fun q => by simp only [S_c_X11_error, or_false] at q; omega)⟩
theorem nnD_restore {M M1 : mM} {r : Int32} (h : SP_X12_restore M r M1) :
    ((M.1 (12, 0, 0) 3).toInt = 0 ∧ r.toInt = -1000002 ∧ ∀ (c : rf) (k : Nat), ¬ c.1 = 53 → M1.1 c k = M.1 c k) ∨ (¬ (M.1 (12, 0, 0) 3).toInt = 0 ∧ r = M.1 (51, 0, 0) 0 ∧ ∀ i, i < 3567 → M1.1 (50, 0, 0) i = M.1 (51, 0, 0) i) := by
  unfold SP_X12_restore at h
  rcases h with ⟨z1_, e2_, (⟨h3_, M4_, -, hF8_, hs10_, z12_, e13_, hr_, hM_⟩ | ⟨h3_, M15_, -, hF19_, r14_, hs21_, h17_, hr_, hM_⟩)⟩
  · have y := eT e2_
    have g : ∀ i, i < 3567 → M4_.1 (50, 0, 0) i = M.1 (51, 0, 0) i := fun i hi => by rw [cpy50 hs10_ i hi, hF8_ (51, 0, 0) i (by simp [S_c_copy_51_50])]
    rw [hr_, e13_, hM_]
    exact Or.inr ⟨by omega, g 0 (by omega), g⟩
  · have y := eT e2_
    rw [hr_, hM_]
    exact Or.inl ⟨by omega, h17_, fun c k hc => hF19_ c k (fun q => by simp only [S_c_X12_finding, or_false] at q; omega)⟩
theorem nnC_check {v : Int32} {M M1 : mM} {r : Int32} (h : SP_X11_check v M r M1) : M1.1 (5, 0, 1) 1 = 0 := by
  unfold SP_X11_check at h
  rcases h with (⟨hs5_, h4_, M7_, -, hF11_, hs13_, M14_, -, hF18_, hs20_, v2_50, hv0_50, M_50, hL_50, -, hF_50, z22_, e23_, (⟨h24_, hr_, hM_⟩ | ⟨h24_, M25_, -, hF29_, hs31_, j32_, h33_, h34_, z35_, e36_, r37_, hs41_, h42_, z45_, h46_, hr_, hM_⟩)⟩ | ⟨hs5_, M48_, -, hF52_, hs54_, M56_, -, hF60_, r55_, hs62_, hr_, hM_⟩)
  · have a := RCH.ind (P := fun x : Int32 × mM => x.2.1 (5, 0, 1) 1 = 0) (by dsimp only; exact zupE (x5clear hs20_) rfl rfl) (fun x z hp hst => by
      obtain ⟨x1, x2⟩ := x
      obtain ⟨z1, z2⟩ := z
      dsimp only at hp hst ⊢
      unfold ST_X11_check_50 at hst
      rcases hst with ⟨p_hv0_50, -, p_hF_50, p_z22_, p_e23_, p_h24_, p_M25_, -, p_hF29_, p_hs31_, p_j32_, p_h33_, p_h34_, p_z35_, p_e36_, p_r37_, p_hs41_, p_h42_, p_z43_, p_h44_, p_hq_v2_50y, p_hM_⟩
      rw [p_hM_, p_hF29_ (5, 0, 1) 1 (by simp [S_c_X10_passTenth])]; exact hp) hL_50
    rw [hM_]; exact a
  · have a := RCH.ind (P := fun x : Int32 × mM => x.2.1 (5, 0, 1) 1 = 0) (by dsimp only; exact zupE (x5clear hs20_) rfl rfl) (fun x z hp hst => by
      obtain ⟨x1, x2⟩ := x
      obtain ⟨z1, z2⟩ := z
      dsimp only at hp hst ⊢
      unfold ST_X11_check_50 at hst
      rcases hst with ⟨p_hv0_50, -, p_hF_50, p_z22_, p_e23_, p_h24_, p_M25_, -, p_hF29_, p_hs31_, p_j32_, p_h33_, p_h34_, p_z35_, p_e36_, p_r37_, p_hs41_, p_h42_, p_z43_, p_h44_, p_hq_v2_50y, p_hM_⟩
      rw [p_hM_, p_hF29_ (5, 0, 1) 1 (by simp [S_c_X10_passTenth])]; exact hp) hL_50
    rw [hM_, hF29_ (5, 0, 1) 1 (by simp [S_c_X10_passTenth])]; exact a
  · rw [hM_, hF60_ (5, 0, 1) 1 (by simp [S_c_X11_error])]; exact zupE (x5clear hs54_) rfl rfl
theorem nnD_check {v : Int32} {M M1 : mM} {r : Int32} (h : SP_X12_check v M r M1) : M1.1 (50, 0, 0) 5 = 0 ∧ kq [5] M M1 := by
  have key : ∀ {a1 a2 : Int32} {M4 M14 Mh Mf : mM}, M4 = up M (50, 0, 0) 5 0 → SP_copy_50_52 M4 M14 → FR S_c_copy_50_52 M4 M14 → (∀ i, Mh.1 (52, 0, 0) i = M14.1 (52, 0, 0) i) → SP_copy_52_50 Mh Mf → FR S_c_copy_52_50 Mh Mf → Mf.1 (50, 0, 0) 5 = 0 ∧ kq [5] M Mf := fun h4 h14 f14 hh hf ff => by
    have e : ∀ i, i < 3567 → _ := fun i hi => (cpy50b hf i hi).trans ((ff (52, 0, 0) i (by simp [S_c_copy_52_50])).trans ((hh i).trans ((cpy52 h14 i hi).trans (f14 (50, 0, 0) i (by simp [S_c_copy_50_52])))))
    refine ⟨(e 5 (by omega)).trans (zupE h4 rfl rfl), fun j hj hn => (e j (by omega)).trans (zupN h4 (fun q => ?_))⟩
    simp at hn
    exact hn q.2
  unfold SP_X12_check at h
  rcases h with ⟨z1_, e2_, h3_, M4_, hM5_, -, (⟨hs12_, h11_, M14_, -, hF18_, hs20_, v4_46, hv0_46, hv1_46, v3_46, M_46, hL_46, -, hF_46, (⟨h23_, M24_, -, hF28_, hs30_, hr_, hM_⟩ | ⟨h23_, h32_, M33_, -, hF37_, hs39_, hr_, hM_⟩)⟩ | ⟨hs12_, M75_, -, hF79_, r74_, hs81_, h77_, hr_, hM_⟩)⟩
  all_goals try
    have a := RCH.ind (P := fun x : Int32 × Int32 × mM => ∀ i, x.2.2.1 (52, 0, 0) i = M14_.1 (52, 0, 0) i) (fun _ => rfl) (fun x z hp hst => by
      obtain ⟨x1, x2, x3⟩ := x
      obtain ⟨z1, z2, z3⟩ := z
      dsimp only at hp hst ⊢
      unfold ST_X12_check_46 at hst
      rcases hst with ⟨p_hv0_46, p_hv1_46, -, p_hF_46, p_h23_, p_h32_, p_M41_, -, p_hF45_, p_hs47_, p_r48_, p_hs52_, p_h51_, p_z53_, p_h54_, p_j57_, p_h58_, p_z55_, p_e56_, p_h59_, p_z60_, p_h61_, p_j64_, p_h65_, p_z62_, p_e63_, (⟨p_h66_, p_z67_, p_h68_, p_z69_, p_h70_, p_hq_v4_46y, p_hq_v3_46y, p_hM_⟩ | ⟨p_h66_, p_z71_, p_h72_, p_hq_v4_46y, p_hq_v3_46y, p_hM_⟩)⟩
      all_goals
        intro i
        rw [p_hM_, p_hF45_ (52, 0, 0) i (by simp [S_c_X12_tenth])]; exact hp i) hL_46
    dsimp only at a
  · rw [hM_]; exact key (a1 := 0) (a2 := 0) hM5_ hs20_ hF18_ a hs30_ hF28_
  · rw [hM_]; exact key (a1 := 0) (a2 := 0) hM5_ hs20_ hF18_ a hs39_ hF37_
  · rw [hM_]
    refine ⟨by rw [hF79_ (50, 0, 0) 5 (by simp [S_c_X12_finding])]; exact zupE hM5_ rfl rfl, fun j hj hn => ?_⟩
    simp at hn
    rw [hF79_ (50, 0, 0) j (by simp [S_c_X12_finding])]; exact zupN hM5_ (fun q => hn q.2)
