/-! the calls that touch what both hold alike -/
theorem add1 {z x : Int32} (h : z = x + (1 : Int32)) (hb : x.toInt < 2147483647) : z.toInt = x.toInt + 1 := by
  have := rngI x
  rw [h]; exact addI rfl il_1 (by omega) (by omega)
theorem ofI1 : Int32.ofInt 1 = (1 : Int32) := by decide
theorem add1' {z x : Int32} (h : z = x + Int32.ofInt 1) (hb : x.toInt < 2147483647) : z.toInt = x.toInt + 1 := add1 (by rw [h, ofI1]) hb
/-! lesson -/
def LESN (v u t : Int32) (n r n' : Int) : Prop := (¬ ((0 ≤ v.toInt ∧ v.toInt ≤ 31) ∧ (0 ≤ u.toInt ∧ u.toInt ≤ 31) ∧ (1 ≤ t.toInt ∧ t.toInt ≤ 99)) ∧ r = -1000001 ∧ n' = n) ∨ (((0 ≤ v.toInt ∧ v.toInt ≤ 31) ∧ (0 ≤ u.toInt ∧ u.toInt ≤ 31) ∧ (1 ≤ t.toInt ∧ t.toInt ≤ 99)) ∧ ((n = 7 ∧ r = -1000004 ∧ n' = n) ∨ (n < 7 ∧ r = n ∧ n' = n + 1)))
theorem x3room {b : Nat} {M : mM} {r : Int32} (h : SP_X3_hasRoom b M r) : (r.toInt = 0 ∧ 7 ≤ (M.1 (3, b, 0) 3).toInt) ∨ (r.toInt = 1 ∧ (M.1 (3, b, 0) 3).toInt < 7) := by
  have q0 := il_0
  have q1 := il_1
  unfold SP_X3_hasRoom at h
  rcases h with ⟨z1_, e2_, (⟨h3_, hr_⟩ | ⟨h3_, hr_⟩)⟩
  all_goals have y1 := eT e2_
  all_goals have y2 := eT hr_
  all_goals omega
theorem x3add {b : Nat} {v u t : Int32} {M M1 : mM} {r : Int32} (h : SP_X3_add b v u t M r M1) (h0 : 0 ≤ (M.1 (3, b, 0) 3).toInt) (h7 : (M.1 (3, b, 0) 3).toInt < 7) : r.toInt = (M.1 (3, b, 0) 3).toInt ∧ (M1.1 (3, b, 0) 3).toInt = (M.1 (3, b, 0) 3).toInt + 1 := by
  unfold SP_X3_add at h
  rcases h with ⟨z1_, e2_, (⟨h3_, hr_, hM_⟩ | ⟨h3_, (⟨h4_, j7_, h8_, M5_, hM6_, j13_, h14_, M11_, hM12_, j19_, h20_, M17_, hM18_, z23_, e24_, z25_, h26_, M27_, hM28_, hr_, hM_⟩ | ⟨h4_, hr_, hM_⟩)⟩)⟩
  · have y1 := eT e2_; omega
  · have y2 : z23_ = z1_ := by rw [e24_, zupR hM18_ (by dsimp only; omega), zupR hM12_ (by dsimp only; omega), zupR hM6_ (by dsimp only; omega), e2_]
    have y1 := eT e2_
    rw [y2] at h26_
    have y3 := add1 h26_ (by omega)
    rw [hM_, zupE hM28_ rfl rfl]
    have y4 := eT hr_
    omega
  · have y1 := eT e2_; omega
theorem nnC_lesson {v u t : Int32} {M M1 : mM} {r : Int32} (h : SP_X11_lesson v u t M r M1) (h0 : 0 ≤ (M.1 (3, 0, 0) 3).toInt ∧ (M.1 (3, 0, 0) 3).toInt ≤ 7) : LESN v u t (M.1 (3, 0, 0) 3).toInt r.toInt (M1.1 (3, 0, 0) 3).toInt := by
  unfold LESN
  unfold SP_X11_lesson at h
  rcases h with (⟨hs5_, h4_, (⟨hs11_, h10_, (⟨hs17_, h16_, r19_, hs23_, h22_, (⟨h24_, M26_, -, hF30_, r25_, hs32_, hr_, hM_⟩ | ⟨h24_, M34_, -, hF38_, r33_, hs40_, hr_, hM_⟩)⟩ | ⟨hs17_, h16_, M43_, -, hF47_, r42_, hs49_, hr_, hM_⟩)⟩ | ⟨hs11_, h10_, M52_, -, hF56_, r51_, hs58_, hr_, hM_⟩)⟩ | ⟨hs5_, h4_, M61_, -, hF65_, r60_, hs67_, hr_, hM_⟩)
  · have a := x3room hs23_
    have b := x3add hs32_ h0.1 (by omega)
    have := eT hr_
    rw [hM_]
    omega
  · have a := x3room hs23_
    rw [hM_, hF38_ (3, 0, 0) 3 (by simp [S_c_X11_error])]
    have := err4 hs40_; have := eT hr_; omega
  · rw [hM_, hF47_ (3, 0, 0) 3 (by simp [S_c_X11_error])]
    have := err1 hs49_; have := eT hr_; omega
  · rw [hM_, hF56_ (3, 0, 0) 3 (by simp [S_c_X11_error])]
    have := err1 hs58_; have := eT hr_; omega
  · rw [hM_, hF65_ (3, 0, 0) 3 (by simp [S_c_X11_error])]
    have := err1 hs67_; have := eT hr_; omega
theorem nnD_lesson {v u t : Int32} {M M1 : mM} {r : Int32} (h : SP_X12_lesson v u t M r M1) : LESN v u t (M.1 (50, 0, 0) 3).toInt r.toInt (M1.1 (50, 0, 0) 3).toInt := by
  unfold LESN
  unfold SP_X12_lesson at h
  rcases h with (⟨hs5_, h4_, (⟨hs11_, h10_, (⟨hs17_, h16_, z19_, e20_, h22_, (⟨h23_, z24_, h25_, z26_, h27_, j30_, h31_, M28_, hM29_, z35_, h36_, z37_, h38_, z39_, h40_, j43_, h44_, M41_, hM42_, z48_, h49_, z50_, h51_, z52_, h53_, j56_, h57_, M54_, hM55_, z61_, e62_, h63_, h64_, z65_, h66_, M67_, hM68_, hr_, hM_⟩ | ⟨h23_, M72_, -, hF76_, r71_, hs78_, h74_, hr_, hM_⟩)⟩ | ⟨hs17_, h16_, M82_, -, hF86_, r81_, hs88_, h84_, hr_, hM_⟩)⟩ | ⟨hs11_, h10_, M91_, -, hF95_, r90_, hs97_, h93_, hr_, hM_⟩)⟩ | ⟨hs5_, h4_, M100_, -, hF104_, r99_, hs106_, h102_, hr_, hM_⟩)
  · have y1 := eT e20_
    rw [hM_, zupE hM68_ rfl rfl]
    have := eT hr_; omega
  · rw [hM_, hF76_ (50, 0, 0) 3 (by simp [S_c_X12_finding])]
    have y1 := eT e20_
    have := eT hr_; omega
  · rw [hM_, hF86_ (50, 0, 0) 3 (by simp [S_c_X12_finding])]
    have := eT hr_; omega
  · rw [hM_, hF95_ (50, 0, 0) 3 (by simp [S_c_X12_finding])]
    have := eT hr_; omega
  · rw [hM_, hF104_ (50, 0, 0) 3 (by simp [S_c_X12_finding])]
    have := eT hr_; omega
/-! tell -/
def TELN (n r n' : Int) : Prop := (n = 24 ∧ r = -1000004 ∧ n' = n) ∨ (n < 24 ∧ r = n + 1 ∧ n' = n + 1)
theorem x5room {b w : Nat} {M : mM} {r : Int32} (h : SP_X5_room b w M r) (h0 : 0 ≤ (M.1 (5, b, w) 1).toInt ∧ (M.1 (5, b, w) 1).toInt ≤ 48) : r.toInt = ((rl w : Nat) : Int) - (M.1 (5, b, w) 1).toInt := by
  unfold SP_X5_room at h
  rcases h with ⟨z1_, h2_, z3_, e4_, z5_, h6_, hr_⟩
  have y1 := eT e4_
  rw [hr_, h6_]
  rw [subI (a := ((rl w : Nat) : Int)) (c := (M.1 (5, b, w) 1).toInt) h2_.1 (by omega) (by omega) (by omega)]
theorem x5add {b w : Nat} {v : Int32} {M M1 : mM} (h : SP_X5_add b w v M M1) (h0 : 0 ≤ (M.1 (5, b, w) 1).toInt) (h7 : (M.1 (5, b, w) 1).toInt < ((rl w : Nat) : Int)) : (M1.1 (5, b, w) 1).toInt = (M.1 (5, b, w) 1).toInt + 1 := by
  unfold SP_X5_add at h
  rcases h with ⟨z1_, e2_, (⟨h3_, hM_⟩ | ⟨h3_, z6_, h7_, (⟨h8_, hM_⟩ | ⟨h8_, j13_, h14_, M11_, hM12_, z17_, e18_, z19_, h20_, M21_, hM22_, hM_⟩)⟩)⟩
  · have y1 := eT e2_; omega
  · have y1 := eT e2_; omega
  · have y2 : z17_ = z1_ := by rw [e18_, zupR hM12_ (by dsimp only; omega), e2_]
    have y1 := eT e2_
    rw [y2] at h20_
    have y3 := add1 h20_ (by omega)
    rw [hM_, zupE hM22_ rfl rfl]
    omega
theorem nnC_tell {v : Int32} {M M1 : mM} {r : Int32} (h : SP_X11_tell v M r M1) (h0 : 0 ≤ (M.1 (5, 0, 1) 1).toInt ∧ (M.1 (5, 0, 1) 1).toInt ≤ 24) : TELN (M.1 (5, 0, 1) 1).toInt r.toInt (M1.1 (5, 0, 1) 1).toInt := by
  have hl : rl 1 = 24 := rfl
  unfold TELN
  unfold SP_X11_tell at h
  rcases h with ⟨r1_, hs5_, (⟨h6_, M7_, -, hF11_, hs13_, z14_, e15_, hr_, hM_⟩ | ⟨h6_, M17_, -, hF21_, r16_, hs23_, hr_, hM_⟩)⟩
  · have a := x5room hs5_ (by omega)
    have b := x5add hs13_ h0.1 (by omega)
    have y := eT e15_
    have := eT hr_
    rw [hM_]; omega
  · have a := x5room hs5_ (by omega)
    rw [hM_, hF21_ (5, 0, 1) 1 (by simp [S_c_X11_error])]
    have := err4 hs23_; have := eT hr_; omega
theorem nnD_tell {v : Int32} {M M1 : mM} {r : Int32} (h : SP_X12_tell v M r M1) : TELN (M.1 (50, 0, 0) 5).toInt r.toInt (M1.1 (50, 0, 0) 5).toInt := by
  unfold TELN
  unfold SP_X12_tell at h
  rcases h with ⟨z1_, e2_, h4_, (⟨h5_, z6_, e7_, h8_, h9_, z10_, h11_, j14_, h15_, M12_, hM13_, z19_, e20_, h21_, h22_, z23_, h24_, M25_, hM26_, z29_, e30_, h32_, hr_, hM_⟩ | ⟨h5_, M34_, -, hF38_, r33_, hs40_, h36_, hr_, hM_⟩)⟩
  · have y1 := eT e2_
    rw [hM_, zupE hM26_ rfl rfl]
    rw [zupE hM26_ rfl rfl] at e30_
    have := eT e30_
    have := eT hr_; omega
  · have y1 := eT e2_
    rw [hM_, hF38_ (50, 0, 0) 5 (by simp [S_c_X12_finding])]
    have := eT hr_; omega
/-! air -/
def AIRB (v u : Int32) : Prop := (0 ≤ v.toInt ∧ v.toInt ≤ 2) ∧ 0 ≤ u.toInt ∧ (v.toInt = 0 → u.toInt ≤ 99) ∧ (v.toInt = 1 → u.toInt ≤ 90) ∧ (v.toInt = 2 → u.toInt ≤ 1)
theorem x2air {b : Nat} {v u : Int32} {M M1 : mM} {r : Int32} (h : SP_X2_changeAir b v u M r M1) (hv : 0 ≤ v.toInt ∧ v.toInt ≤ 2) : r = M.1 (2, b, 0) v.toInt.toNat ∧ M1 = up M (2, b, 0) v.toInt.toNat u := by
  unfold SP_X2_changeAir at h
  rcases h with (⟨h1_, (⟨h2_, z3_, e4_, (⟨h5_, (⟨h6_, M7_, hM8_, hr_, hM_⟩ | ⟨h6_, M11_, hM12_, hr_, hM_⟩)⟩ | ⟨h5_, M15_, hM16_, hr_, hM_⟩)⟩ | ⟨h2_, z19_, e20_, h21_, h22_, M23_, hM24_, hr_, hM_⟩)⟩ | ⟨h1_, z27_, e28_, h29_, M30_, hM31_, hr_, hM_⟩)
  · rw [show v.toInt.toNat = 2 by omega]; exact ⟨hr_.trans e4_, hM_.trans hM8_⟩
  · omega
  · omega
  · rw [show v.toInt.toNat = 1 by omega]; exact ⟨hr_.trans e20_, hM_.trans hM24_⟩
  · rw [show v.toInt.toNat = 0 by omega]; exact ⟨hr_.trans e28_, hM_.trans hM31_⟩
theorem nnC_air {v u : Int32} {M M1 : mM} {r : Int32} (h : SP_X11_air v u M r M1) : (¬ AIRB v u ∧ r.toInt = -1000001 ∧ ∀ k, M1.1 (2, 0, 0) k = M.1 (2, 0, 0) k) ∨ (AIRB v u ∧ r = M.1 (2, 0, 0) v.toInt.toNat ∧ M1 = up M (2, 0, 0) v.toInt.toNat u) := by
  unfold AIRB
  unfold SP_X11_air at h
  rcases h with (⟨hs5_, h4_, (⟨h7_, (⟨h8_, (⟨hs13_, h12_, M16_, -, hF20_, r15_, hs22_, hr_, hM_⟩ | ⟨hs13_, h12_, M25_, -, hF29_, r24_, hs31_, hr_, hM_⟩)⟩ | ⟨h8_, (⟨hs36_, h35_, M39_, -, hF43_, r38_, hs45_, hr_, hM_⟩ | ⟨hs36_, h35_, M48_, -, hF52_, r47_, hs54_, hr_, hM_⟩)⟩)⟩ | ⟨h7_, (⟨hs59_, h58_, M62_, -, hF66_, r61_, hs68_, hr_, hM_⟩ | ⟨hs59_, h58_, M71_, -, hF75_, r70_, hs77_, hr_, hM_⟩)⟩)⟩ | ⟨hs5_, h4_, M80_, -, hF84_, r79_, hs86_, hr_, hM_⟩)
  · obtain ⟨a, b⟩ := x2air hs22_ h4_; exact Or.inr ⟨by omega, hr_.trans a, hM_.trans b⟩
  · exact Or.inl ⟨by omega, by rw [hr_]; exact err1 hs31_, fun k => by rw [hM_]; exact hF29_ _ _ (by simp [S_c_X11_error])⟩
  · obtain ⟨a, b⟩ := x2air hs45_ h4_; exact Or.inr ⟨by omega, hr_.trans a, hM_.trans b⟩
  · exact Or.inl ⟨by omega, by rw [hr_]; exact err1 hs54_, fun k => by rw [hM_]; exact hF52_ _ _ (by simp [S_c_X11_error])⟩
  · obtain ⟨a, b⟩ := x2air hs68_ h4_; exact Or.inr ⟨by omega, hr_.trans a, hM_.trans b⟩
  · exact Or.inl ⟨by omega, by rw [hr_]; exact err1 hs77_, fun k => by rw [hM_]; exact hF75_ _ _ (by simp [S_c_X11_error])⟩
  · exact Or.inl ⟨by omega, by rw [hr_]; exact err1 hs86_, fun k => by rw [hM_]; exact hF84_ _ _ (by simp [S_c_X11_error])⟩
theorem x12become {v u : Int32} {M M1 : mM} {r : Int32} (h : SP_X12_become v u M r M1) : r = M.1 (50, 0, 0) v.toInt.toNat ∧ M1 = up M (50, 0, 0) v.toInt.toNat u := by
  unfold SP_X12_become at h
  rcases h with ⟨j3_, h4_, z1_, e2_, j7_, h8_, M5_, hM6_, hr_, hM_⟩
  obtain rfl : j3_ = v.toInt.toNat := by omega
  obtain rfl : j7_ = v.toInt.toNat := by omega
  exact ⟨hr_.trans e2_, hM_.trans hM6_⟩
theorem nnD_air {v u : Int32} {M M1 : mM} {r : Int32} (h : SP_X12_air v u M r M1) : (¬ AIRB v u ∧ r.toInt = -1000001 ∧ ∀ k, M1.1 (50, 0, 0) k = M.1 (50, 0, 0) k) ∨ (AIRB v u ∧ r = M.1 (50, 0, 0) (6 + v.toInt.toNat) ∧ M1 = up M (50, 0, 0) (6 + v.toInt.toNat) u) := by
  unfold AIRB
  unfold SP_X12_air at h
  rcases h with (⟨h1_, (⟨h2_, (⟨h3_, M6_, -, hF10_, r5_, hs12_, h8_, hr_, hM_⟩ | ⟨h3_, (⟨hs17_, h16_, z20_, h21_, M23_, -, hF27_, r22_, hs29_, hr_, hM_⟩ | ⟨hs17_, h16_, M33_, -, hF37_, r32_, hs39_, h35_, hr_, hM_⟩)⟩)⟩ | ⟨h2_, (⟨hs44_, h43_, z46_, h47_, M49_, -, hF53_, r48_, hs55_, hr_, hM_⟩ | ⟨hs44_, h43_, M58_, -, hF62_, r57_, hs64_, h60_, hr_, hM_⟩)⟩)⟩ | ⟨h1_, (⟨hs69_, h68_, z71_, h72_, M74_, -, hF78_, r73_, hs80_, hr_, hM_⟩ | ⟨hs69_, h68_, M83_, -, hF87_, r82_, hs89_, h85_, hr_, hM_⟩)⟩)
  · exact Or.inl ⟨by omega, by rw [hr_]; exact h8_, fun k => by rw [hM_]; exact hF10_ _ _ (by simp [S_c_X12_finding])⟩
  · obtain ⟨a, b⟩ := x12become hs29_; rw [show z20_.toInt.toNat = 6 + v.toInt.toNat by omega] at a b; exact Or.inr ⟨by omega, hr_.trans a, hM_.trans b⟩
  · exact Or.inl ⟨by omega, by rw [hr_]; exact h35_, fun k => by rw [hM_]; exact hF37_ _ _ (by simp [S_c_X12_finding])⟩
  · obtain ⟨a, b⟩ := x12become hs55_; rw [show z46_.toInt.toNat = 6 + v.toInt.toNat by omega] at a b; exact Or.inr ⟨by omega, hr_.trans a, hM_.trans b⟩
  · exact Or.inl ⟨by omega, by rw [hr_]; exact h60_, fun k => by rw [hM_]; exact hF62_ _ _ (by simp [S_c_X12_finding])⟩
  · obtain ⟨a, b⟩ := x12become hs80_; rw [show z71_.toInt.toNat = 6 + v.toInt.toNat by omega] at a b; exact Or.inr ⟨by omega, hr_.trans a, hM_.trans b⟩
  · exact Or.inl ⟨by omega, by rw [hr_]; exact h85_, fun k => by rw [hM_]; exact hF87_ _ _ (by simp [S_c_X12_finding])⟩
/-! kind -/
def KINB (v u t : Int32) : Prop := (0 ≤ v.toInt ∧ v.toInt ≤ 4) ∧ (0 ≤ u.toInt ∧ u.toInt ≤ 1) ∧ 0 ≤ t.toInt ∧ (u.toInt = 0 → t.toInt ≤ 99) ∧ (u.toInt = 1 → t.toInt ≤ 9)
theorem x2kind {b : Nat} {v u t : Int32} {M M1 : mM} {r : Int32} (h : SP_X2_changeKind b v u t M r M1) (hv : 0 ≤ v.toInt ∧ v.toInt ≤ 4) : (u.toInt = 0 ∧ r = M.1 (26, b, 0) v.toInt.toNat ∧ M1 = up M (26, b, 0) v.toInt.toNat t) ∨ (¬ u.toInt = 0 ∧ r = M.1 (27, b, 0) v.toInt.toNat ∧ M1 = up M (27, b, 0) v.toInt.toNat t) := by
  unfold SP_X2_changeKind at h
  rcases h with (⟨h1_, (⟨h2_, hr_, hM_⟩ | ⟨h2_, (⟨h3_, j6_, h7_, z4_, e5_, j10_, h11_, M8_, hM9_, hr_, hM_⟩ | ⟨h3_, hr_, hM_⟩)⟩)⟩ | ⟨h1_, (⟨h14_, hr_, hM_⟩ | ⟨h14_, (⟨h15_, j18_, h19_, z16_, e17_, j22_, h23_, M20_, hM21_, hr_, hM_⟩ | ⟨h15_, hr_, hM_⟩)⟩)⟩)
  · omega
  · obtain rfl : j6_ = v.toInt.toNat := by omega
    obtain rfl : j10_ = v.toInt.toNat := by omega
    exact Or.inr ⟨h1_, hr_.trans e5_, hM_.trans hM9_⟩
  · omega
  · omega
  · obtain rfl : j18_ = v.toInt.toNat := by omega
    obtain rfl : j22_ = v.toInt.toNat := by omega
    exact Or.inl ⟨h1_, hr_.trans e17_, hM_.trans hM21_⟩
  · omega
theorem nnC_kind {v u t : Int32} {M M1 : mM} {r : Int32} (h : SP_X11_kind v u t M r M1) : (¬ KINB v u t ∧ r.toInt = -1000001 ∧ ∀ k, M1.1 (26, 0, 0) k = M.1 (26, 0, 0) k ∧ M1.1 (27, 0, 0) k = M.1 (27, 0, 0) k) ∨ (KINB v u t ∧ ((u.toInt = 0 ∧ r = M.1 (26, 0, 0) v.toInt.toNat ∧ M1 = up M (26, 0, 0) v.toInt.toNat t) ∨ (¬ u.toInt = 0 ∧ r = M.1 (27, 0, 0) v.toInt.toNat ∧ M1 = up M (27, 0, 0) v.toInt.toNat t))) := by
  unfold KINB
  unfold SP_X11_kind at h
  rcases h with (⟨hs5_, h4_, (⟨hs11_, h10_, (⟨h13_, (⟨hs18_, h17_, M21_, -, hF25_, r20_, hs27_, hr_, hM_⟩ | ⟨hs18_, h17_, M30_, -, hF34_, r29_, hs36_, hr_, hM_⟩)⟩ | ⟨h13_, (⟨hs41_, h40_, M44_, -, hF48_, r43_, hs50_, hr_, hM_⟩ | ⟨hs41_, h40_, M53_, -, hF57_, r52_, hs59_, hr_, hM_⟩)⟩)⟩ | ⟨hs11_, h10_, M62_, -, hF66_, r61_, hs68_, hr_, hM_⟩)⟩ | ⟨hs5_, h4_, M71_, -, hF75_, r70_, hs77_, hr_, hM_⟩)
  · refine Or.inr ⟨by omega, ?_⟩; rw [hr_, hM_]; exact x2kind hs27_ h4_
  · exact Or.inl ⟨by omega, by rw [hr_]; exact err1 hs36_, fun k => by rw [hM_]; exact ⟨hF34_ _ _ (by simp [S_c_X11_error]), hF34_ _ _ (by simp [S_c_X11_error])⟩⟩
  · refine Or.inr ⟨by omega, ?_⟩; rw [hr_, hM_]; exact x2kind hs50_ h4_
  · exact Or.inl ⟨by omega, by rw [hr_]; exact err1 hs59_, fun k => by rw [hM_]; exact ⟨hF57_ _ _ (by simp [S_c_X11_error]), hF57_ _ _ (by simp [S_c_X11_error])⟩⟩
  · exact Or.inl ⟨by omega, by rw [hr_]; exact err1 hs68_, fun k => by rw [hM_]; exact ⟨hF66_ _ _ (by simp [S_c_X11_error]), hF66_ _ _ (by simp [S_c_X11_error])⟩⟩
  · exact Or.inl ⟨by omega, by rw [hr_]; exact err1 hs77_, fun k => by rw [hM_]; exact ⟨hF75_ _ _ (by simp [S_c_X11_error]), hF75_ _ _ (by simp [S_c_X11_error])⟩⟩
theorem nnD_kind {v u t : Int32} {M M1 : mM} {r : Int32} (h : SP_X12_kind v u t M r M1) : (¬ KINB v u t ∧ r.toInt = -1000001 ∧ ∀ k, M1.1 (50, 0, 0) k = M.1 (50, 0, 0) k) ∨ (KINB v u t ∧ ((u.toInt = 0 ∧ r = M.1 (50, 0, 0) (9 + v.toInt.toNat) ∧ M1 = up M (50, 0, 0) (9 + v.toInt.toNat) t) ∨ (¬ u.toInt = 0 ∧ r = M.1 (50, 0, 0) (14 + v.toInt.toNat) ∧ M1 = up M (50, 0, 0) (14 + v.toInt.toNat) t))) := by
  unfold KINB
  unfold SP_X12_kind at h
  rcases h with (⟨hs5_, h4_, (⟨hs11_, h10_, (⟨h13_, (⟨hs18_, h17_, h20_, z21_, h22_, M24_, -, hF28_, r23_, hs30_, hr_, hM_⟩ | ⟨hs18_, h17_, M33_, -, hF37_, r32_, hs39_, h35_, hr_, hM_⟩)⟩ | ⟨h13_, (⟨hs44_, h43_, h46_, z47_, h48_, M50_, -, hF54_, r49_, hs56_, hr_, hM_⟩ | ⟨hs44_, h43_, M59_, -, hF63_, r58_, hs65_, h61_, hr_, hM_⟩)⟩)⟩ | ⟨hs11_, h10_, M68_, -, hF72_, r67_, hs74_, h70_, hr_, hM_⟩)⟩ | ⟨hs5_, h4_, M77_, -, hF81_, r76_, hs83_, h79_, hr_, hM_⟩)
  · obtain ⟨a, b⟩ := x12become hs30_; rw [show z21_.toInt.toNat = 14 + v.toInt.toNat by omega] at a b; exact Or.inr ⟨by omega, Or.inr ⟨h13_, hr_.trans a, hM_.trans b⟩⟩
  · exact Or.inl ⟨by omega, by rw [hr_]; exact h35_, fun k => by rw [hM_]; exact hF37_ _ _ (by simp [S_c_X12_finding])⟩
  · obtain ⟨a, b⟩ := x12become hs56_; rw [show z47_.toInt.toNat = 9 + v.toInt.toNat by omega] at a b; exact Or.inr ⟨by omega, Or.inl ⟨h13_, hr_.trans a, hM_.trans b⟩⟩
  · exact Or.inl ⟨by omega, by rw [hr_]; exact h61_, fun k => by rw [hM_]; exact hF63_ _ _ (by simp [S_c_X12_finding])⟩
  · exact Or.inl ⟨by omega, by rw [hr_]; exact h70_, fun k => by rw [hM_]; exact hF72_ _ _ (by simp [S_c_X12_finding])⟩
  · exact Or.inl ⟨by omega, by rw [hr_]; exact h79_, fun k => by rw [hM_]; exact hF81_ _ _ (by simp [S_c_X12_finding])⟩
