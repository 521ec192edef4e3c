/-! what class and model hold alike: the counts, the air, the kinds, the shape of the sheets -/
theorem il_0 : (0 : Int32).toInt = 0 := by decide
theorem il_1 : (1 : Int32).toInt = 1 := by decide
theorem il_m1 : (-1 : Int32).toInt = -1 := by decide
theorem i32e {x y : Int32} (h : x.toInt = y.toInt) : x = y := Int32.toInt_inj.mp h
theorem eT {x y : Int32} (h : x = y) : x.toInt = y.toInt := congrArg Int32.toInt h
theorem rfe {d : rf} {a b c : Nat} (h : d.1 = a ∧ d.2.1 = b ∧ d.2.2 = c) : d = (a, b, c) := by
  rcases d with ⟨x, y, z⟩
  obtain ⟨rfl, rfl, rfl⟩ := h
  rfl
theorem zupE {M M' : mM} {c c' : rf} {k k' : Nat} {v : Int32} (he : M' = up M c k v) (h : c' = c) (hk : k' = k) : M'.1 c' k' = v := by
  rw [he, h, hk]; exact up_same M c k v
theorem zupN {M M' : mM} {c c' : rf} {k k' : Nat} {v : Int32} (he : M' = up M c k v) (h : ¬ (c' = c ∧ k' = k)) : M'.1 c' k' = M.1 c' k' := by
  rw [he]; exact up_ne h
theorem zupR {M M' : mM} {c c' : rf} {k k' : Nat} {v : Int32} (he : M' = up M c k v) (h : ¬ c'.1 = c.1) : M'.1 c' k' = M.1 c' k' := zupN he (fun q => h (by rw [q.1]))
theorem zcpR {M M' : mM} {c0 c1 c' : rf} {k' a b n : Nat} (he : M' = cp M c0 c1 a b n) (h : ¬ c'.1 = c1.1) : M'.1 c' k' = M.1 c' k' := by
  rw [he, cp_other _ _ _ (fun q => h (by rw [q]))]
def PRz (c : rf) (k : Nat) (d : rf) (j : Nat) : Prop :=
  (c.2.1 < 2 ∧ d.1 = 50 + c.2.1 ∧ d.2.1 = 0 ∧ d.2.2 = 0 ∧ ((c.1 = 10 ∧ c.2.2 = 0 ∧ k = 7 ∧ j = 0) ∨ (c.1 = 3 ∧ c.2.2 = 0 ∧ k = 3 ∧ j = 3) ∨ (c.1 = 5 ∧ c.2.2 < 2 ∧ k = 1 ∧ j = 4 + c.2.2) ∨ (c.1 = 2 ∧ c.2.2 = 0 ∧ k ≤ 2 ∧ j = 6 + k) ∨ (c.1 = 26 ∧ c.2.2 = 0 ∧ k < 5 ∧ j = 9 + k) ∨ (c.1 = 27 ∧ c.2.2 = 0 ∧ k < 5 ∧ j = 14 + k))) ∨
  (c.1 = 11 ∧ c.2.1 = 0 ∧ c.2.2 = 0 ∧ k = 8 ∧ d.1 = 12 ∧ d.2.1 = 0 ∧ d.2.2 = 0 ∧ j = 3) ∨
  (c.1 = 6 ∧ c.2.1 = 0 ∧ c.2.2 < 4 ∧ d.2.1 = 0 ∧ d.2.2 = 0 ∧ j = c.2.2 ∧ ((k = 0 ∧ d.1 = 66) ∨ (k = 1 ∧ d.1 = 67)))
/-- .. of what the image keeps only once there is one -/
def RXz (m : rf → Nat → Int32) : Prop := ∀ c k d j, PRz c k d j → (c.2.1 = 1 → ¬ (m (12, 0, 0) 3).toInt = 0) → m c k = m d j
theorem RXzg {m : rf → Nat → Int32} {c d : rf} {k j : Nat} (h : RXz m) (p : PRz c k d j) (h1 : ¬ c.2.1 = 1) : m c k = m d j := h c k d j p (fun q => absurd q h1)
theorem RXzi {m : rf → Nat → Int32} (h : RXz m) {c d : rf} {k j : Nat} (p : PRz c k d j) (h1 : ¬ c.2.1 = 1 := by simp) : (m c k).toInt = (m d j).toInt := eT (RXzg h p h1)
theorem kq_at {T : List Nat} {M M' : mM} (h : kq T M M') {d : rf} {j : Nat} (hd : d.1 = 50 ∧ d.2.1 = 0 ∧ d.2.2 = 0) (hj : j ≤ 19 ∧ ¬ j ∈ T) : M'.1 d j = M.1 d j := by
  rw [rfe hd]; exact h j hj.1 hj.2
theorem RXz_t {M M1 M2 : mM} {S1 S2 : rf → Nat → Prop} {T : List Nat} (E : rf → Nat → Prop) (h : RXz M.1) (hF1 : FR S1 M M1) (hF2 : FR S2 M1 M2) (hq : kq T M1 M2)
    (hc : M2.1 (12, 0, 0) 3 = M.1 (12, 0, 0) 3 ∨ ∀ (c : rf) (k : Nat), c.2.1 = 1 → E c k)
    (he : ∀ c k d j, PRz c k d j → E c k → (c.2.1 = 1 → ¬ (M2.1 (12, 0, 0) 3).toInt = 0) → M2.1 c k = M2.1 d j)
    (hn : ∀ c k d j, PRz c k d j → ¬ E c k → ¬ S1 c k ∧ ¬ S1 d j ∧ ¬ S2 c k ∧ ((d.1 = 50 ∧ d.2.1 = 0 ∧ d.2.2 = 0 ∧ j ≤ 19 ∧ ¬ j ∈ T) ∨ ¬ S2 d j)) : RXz M2.1 := fun c k d j p g => by
  by_cases e : E c k
  · exact he c k d j p e g
  · obtain ⟨a1, a2, a3, a4⟩ := hn c k d j p e
    have hd : M2.1 d j = M1.1 d j := by
      rcases a4 with a4 | a4
      · exact kq_at hq ⟨a4.1, a4.2.1, a4.2.2.1⟩ a4.2.2.2
      · exact hF2 d j a4
    rw [hF2 c k a3, hF1 c k a1, hd, hF1 d j a2]
    refine h c k d j p (fun q => ?_)
    rcases hc with hc | hc
    · rw [← hc]; exact g q
    · exact absurd (hc c k q) e
/-! counts are within their bounds -/
theorem pn50 {M : mM} (hD : InvD M) (j : Nat) : PN j (M.1 (50, 0, 0) j) := hD.2.1.1 j
theorem err_r {v : Int32} {Mz : mM} {r_ : Int32} {M_ : mM} (h : SP_X11_error v Mz r_ M_) (hv : 0 ≤ v.toInt ∧ v.toInt ≤ 6) : r_.toInt = -1000000 - v.toInt := by
  unfold SP_X11_error at h
  rcases h with (⟨h1_, z2_, h3_, hr_, hM_⟩ | ⟨h1_, (⟨h4_, z5_, h6_, hr_, hM_⟩ | ⟨h4_, j9_, h10_, z7_, e8_, z11_, h12_, j15_, h16_, M13_, hM14_, z19_, h20_, hr_, hM_⟩)⟩)
  · rw [hr_]; omega
  · omega
  · rw [hr_]; omega
theorem err1 {M M' : mM} {r : Int32} (h : SP_X11_error 1 M r M') : r.toInt = -1000001 := (err_r h (by decide)).trans (by decide)
theorem err2 {M M' : mM} {r : Int32} (h : SP_X11_error 2 M r M') : r.toInt = -1000002 := (err_r h (by decide)).trans (by decide)
theorem err3 {M M' : mM} {r : Int32} (h : SP_X11_error 3 M r M') : r.toInt = -1000003 := (err_r h (by decide)).trans (by decide)
theorem err4 {M M' : mM} {r : Int32} (h : SP_X11_error 4 M r M') : r.toInt = -1000004 := (err_r h (by decide)).trans (by decide)
theorem err5 {M M' : mM} {r : Int32} (h : SP_X11_error 5 M r M') : r.toInt = -1000005 := (err_r h (by decide)).trans (by decide)
theorem err6 {M M' : mM} {r : Int32} (h : SP_X11_error 6 M r M') : r.toInt = -1000006 := (err_r h (by decide)).trans (by decide)
/-! put, move: by bits and sizes -/
theorem x6miss {w : Nat} {M : mM} {r : Int32} (h : SP_X6_isMissing w M r) : (r.toInt = 1 ∧ (M.1 (6, 0, w) 0).toInt = 0) ∨ (r.toInt = 0 ∧ ¬ (M.1 (6, 0, w) 0).toInt = 0) := by
  have q0 := il_0
  have q1 := il_1
  unfold SP_X6_isMissing at h
  rcases h with ⟨z1_, e2_, (⟨h3_, hr_⟩ | ⟨h3_, hr_⟩)⟩
  · have := eT e2_; have := eT hr_; omega
  · have := eT e2_; have := eT hr_; omega
theorem x6has {w : Nat} {v : Int32} {M : mM} {r : Int32} (h : SP_X6_has w v M r) : (r.toInt = 1 ∧ 0 ≤ v.toInt ∧ v.toInt < (M.1 (6, 0, w) 1).toInt) ∨ (r.toInt = 0 ∧ ¬ (0 ≤ v.toInt ∧ v.toInt < (M.1 (6, 0, w) 1).toInt)) := by
  have q0 := il_0
  have q1 := il_1
  unfold SP_X6_has at h
  rcases h with (⟨h1_, hr_⟩ | ⟨h1_, z2_, e3_, h4_, (⟨h5_, hr_⟩ | ⟨h5_, h6_, hr_⟩)⟩)
  · have := eT hr_; omega
  · have := eT e3_; have := eT hr_; omega
  · have := eT e3_; have := eT hr_; omega
theorem x6run {w : Nat} {v u : Int32} {M : mM} {r : Int32} (h : SP_X6_hasRun w v u M r) : (r.toInt = 1 ∧ 0 ≤ v.toInt ∧ 0 ≤ u.toInt ∧ v.toInt + u.toInt ≤ (M.1 (6, 0, w) 1).toInt) ∨ (r.toInt = 0 ∧ ¬ (0 ≤ v.toInt ∧ 0 ≤ u.toInt ∧ v.toInt + u.toInt ≤ (M.1 (6, 0, w) 1).toInt)) := by
  have q0 := il_0
  have q1 := il_1
  unfold SP_X6_hasRun at h
  rcases h with (⟨h1_, hr_⟩ | ⟨h1_, (⟨h2_, hr_⟩ | ⟨h2_, z3_, e4_, h5_, (⟨h6_, hr_⟩ | ⟨h6_, z9_, h10_, (⟨h11_, hr_⟩ | ⟨h11_, hr_⟩)⟩)⟩)⟩)
  · have := eT hr_; omega
  · have := eT hr_; omega
  · have := eT e4_; have := eT hr_; omega
  · have := eT e4_; have := eT hr_; omega
  · have := eT e4_; have := eT hr_; omega
def PUTN (v u : Int32) (r bits size : Int) : Prop := (¬ (0 ≤ v.toInt ∧ v.toInt ≤ 3) ∧ r = -1000001) ∨ ((0 ≤ v.toInt ∧ v.toInt ≤ 3) ∧ ((bits = 0 ∧ r = -1000002) ∨ (¬ bits = 0 ∧ ¬ (0 ≤ u.toInt ∧ u.toInt < size) ∧ r = -1000001) ∨ (¬ bits = 0 ∧ (0 ≤ u.toInt ∧ u.toInt < size) ∧ r = 1)))
theorem nnC_put {v u t : Int32} {M M1 : mM} {r : Int32} (h : SP_X11_put v u t M r M1) : PUTN v u r.toInt (M.1 (6, 0, v.toInt.toNat) 0).toInt (M.1 (6, 0, v.toInt.toNat) 1).toInt := by
  have q0 := il_0
  have q1 := il_1
  unfold PUTN
  unfold SP_X11_put at h
  rcases h with (⟨hs5_, h4_, j7_, h8_, h9_, r10_, hs14_, h13_, (⟨h15_, j16_, h17_, h18_, (⟨hs23_, h22_, j25_, h26_, h27_, M28_, -, hF32_, hs34_, hr_, hM_⟩ | ⟨hs23_, M37_, -, hF41_, r36_, hs43_, hr_, hM_⟩)⟩ | ⟨h15_, M45_, -, hF49_, r44_, hs51_, hr_, hM_⟩)⟩ | ⟨hs5_, h4_, M54_, -, hF58_, r53_, hs60_, hr_, hM_⟩)
  · obtain rfl : j7_ = v.toInt.toNat := by omega
    obtain rfl : j16_ = v.toInt.toNat := by omega
    have a := x6miss hs14_; have b := x6has hs23_; have := eT hr_; omega
  · obtain rfl : j7_ = v.toInt.toNat := by omega
    obtain rfl : j16_ = v.toInt.toNat := by omega
    have a := x6miss hs14_; have b := x6has hs23_; have := eT hr_; have := err1 hs43_; omega
  · obtain rfl : j7_ = v.toInt.toNat := by omega
    have a := x6miss hs14_; have := eT hr_; have := err2 hs51_; omega
  · have := eT hr_; have := err1 hs60_; omega
theorem nnD_put {v u t : Int32} {M M1 : mM} {r : Int32} (h : SP_X12_put v u t M r M1) : PUTN v u r.toInt (M.1 (66, 0, 0) v.toInt.toNat).toInt (M.1 (67, 0, 0) v.toInt.toNat).toInt := by
  have q0 := il_0
  have q1 := il_1
  unfold PUTN
  unfold SP_X12_put at h
  rcases h with (⟨hs5_, h4_, j9_, h10_, z7_, e8_, (⟨h11_, j14_, h15_, z12_, e13_, h16_, z17_, h18_, (⟨hs23_, h22_, z25_, h26_, z27_, h28_, j31_, h32_, z29_, e30_, (⟨h33_, j36_, h37_, z34_, e35_, (⟨h38_, j41_, h42_, M39_, hM40_, hr_, hM_⟩ | ⟨h38_, z45_, h46_, j49_, h50_, M47_, hM48_, hr_, hM_⟩)⟩ | ⟨h33_, z53_, h54_, j57_, h58_, M55_, hM56_, hr_, hM_⟩)⟩ | ⟨hs23_, h22_, M63_, -, hF67_, r62_, hs69_, h65_, hr_, hM_⟩)⟩ | ⟨h11_, M71_, -, hF75_, r70_, hs77_, h73_, hr_, hM_⟩)⟩ | ⟨hs5_, h4_, M80_, -, hF84_, r79_, hs86_, h82_, hr_, hM_⟩)
  all_goals try (obtain rfl : j9_ = v.toInt.toNat := by omega)
  all_goals try (obtain rfl : j14_ = v.toInt.toNat := by omega)
  all_goals try have y1 := eT e8_
  all_goals try have y2 := eT e13_
  all_goals have y3 := eT hr_
  all_goals omega
def MOVN (v u t s q : Int32) (r b1 s1 b2 s2 : Int) : Prop :=
  (¬ ((0 ≤ v.toInt ∧ v.toInt ≤ 3) ∧ (0 ≤ t.toInt ∧ t.toInt ≤ 3)) ∧ r = -1000001) ∨ (((0 ≤ v.toInt ∧ v.toInt ≤ 3) ∧ (0 ≤ t.toInt ∧ t.toInt ≤ 3)) ∧
    (((b1 = 0 ∨ b2 = 0) ∧ r = -1000002) ∨ (¬ (b1 = 0 ∨ b2 = 0) ∧ ((¬ b1 = b2 ∧ r = -1000005) ∨ (b1 = b2 ∧
      ((¬ (0 ≤ u.toInt ∧ 0 ≤ s.toInt ∧ 0 ≤ q.toInt ∧ u.toInt + q.toInt ≤ s1 ∧ s.toInt + q.toInt ≤ s2) ∧ r = -1000001) ∨ ((0 ≤ u.toInt ∧ 0 ≤ s.toInt ∧ 0 ≤ q.toInt ∧ u.toInt + q.toInt ≤ s1 ∧ s.toInt + q.toInt ≤ s2) ∧ r = q.toInt)))))))
theorem nnC_move {v u t s q : Int32} {M M1 : mM} {r : Int32} (h : SP_X11_move v u t s q M r M1) : MOVN v u t s q r.toInt (M.1 (6, 0, v.toInt.toNat) 0).toInt (M.1 (6, 0, v.toInt.toNat) 1).toInt (M.1 (6, 0, t.toInt.toNat) 0).toInt (M.1 (6, 0, t.toInt.toNat) 1).toInt := by
  have q0 := il_0
  have q1 := il_1
  unfold MOVN
  unfold SP_X11_move at h
  rcases h with (⟨hs5_, h4_, (⟨hs11_, h10_, j13_, h14_, h15_, j16_, h17_, h18_, r19_, hs23_, h22_, (⟨h24_, M26_, -, hF30_, r25_, hs32_, hr_, hM_⟩ | ⟨h24_, r33_, hs37_, h36_, (⟨h38_, z39_, e40_, z41_, e42_, (⟨h43_, (⟨hs48_, h47_, (⟨hs54_, h53_, M56_, hM57_, hr_, hM_⟩ | ⟨hs54_, M62_, -, hF66_, r61_, hs68_, hr_, hM_⟩)⟩ | ⟨hs48_, M71_, -, hF75_, r70_, hs77_, hr_, hM_⟩)⟩ | ⟨h43_, M79_, -, hF83_, r78_, hs85_, hr_, hM_⟩)⟩ | ⟨h38_, M87_, -, hF91_, r86_, hs93_, hr_, hM_⟩)⟩)⟩ | ⟨hs11_, h10_, M96_, -, hF100_, r95_, hs102_, hr_, hM_⟩)⟩ | ⟨hs5_, h4_, M105_, -, hF109_, r104_, hs111_, hr_, hM_⟩)
  all_goals try (obtain rfl : j13_ = v.toInt.toNat := by omega)
  all_goals try (obtain rfl : j16_ = t.toInt.toNat := by omega)
  all_goals try have y1 := x6miss hs23_
  all_goals try have y2 := x6miss hs37_
  all_goals try have y3 := eT e40_
  all_goals try have y4 := eT e42_
  all_goals try have y5 := x6run hs48_
  all_goals try have y6 := x6run hs54_
  all_goals try have y7 := err2 hs32_
  all_goals try have y7 := err1 hs68_
  all_goals try have y7 := err1 hs77_
  all_goals try have y7 := err5 hs85_
  all_goals try have y7 := err2 hs93_
  all_goals try have y7 := err1 hs102_
  all_goals try have y7 := err1 hs111_
  all_goals have y9 := eT hr_
  all_goals omega
theorem nnD_move {v u t s q : Int32} {M M1 : mM} {r : Int32} (h : SP_X12_move v u t s q M r M1) : MOVN v u t s q r.toInt (M.1 (66, 0, 0) v.toInt.toNat).toInt (M.1 (67, 0, 0) v.toInt.toNat).toInt (M.1 (66, 0, 0) t.toInt.toNat).toInt (M.1 (67, 0, 0) t.toInt.toNat).toInt := by
  unfold MOVN
  unfold SP_X12_move at h
  rcases h with (⟨hs5_, h4_, (⟨hs11_, h10_, j15_, h16_, z13_, e14_, (⟨h17_, M19_, -, hF23_, r18_, hs25_, h21_, hr_, hM_⟩ | ⟨h17_, j28_, h29_, z26_, e27_, (⟨h30_, j33_, h34_, z31_, e32_, j37_, h38_, z35_, e36_, (⟨h39_, (⟨h40_, M42_, -, hF46_, r41_, hs48_, h44_, hr_, hM_⟩ | ⟨h40_, (⟨h49_, M51_, -, hF55_, r50_, hs57_, h53_, hr_, hM_⟩ | ⟨h49_, (⟨h58_, M60_, -, hF64_, r59_, hs66_, h62_, hr_, hM_⟩ | ⟨h58_, w67_, h68_, h69_, w70_, h71_, h72_, w73_, h74_, h75_, j78_, h79_, z76_, e77_, h80_, w81_, h82_, h83_, z84_, h85_, (⟨h86_, M88_, -, hF92_, r87_, hs94_, h90_, hr_, hM_⟩ | ⟨h86_, w95_, h96_, h97_, w98_, h99_, h100_, w101_, h102_, h103_, j106_, h107_, z104_, e105_, h108_, w109_, h110_, h111_, z112_, h113_, (⟨h114_, v6_127, hv0_127, M_127, hL_127, -, hF_127, h116_, v6_164, hv0_164, M_164, hL_164, -, hF_164, h118_, hr_, hM_⟩ | ⟨h114_, M156_, -, hF160_, r155_, hs162_, h158_, hr_, hM_⟩)⟩)⟩)⟩)⟩)⟩ | ⟨h39_, M164_, -, hF168_, r163_, hs170_, h166_, hr_, hM_⟩)⟩ | ⟨h30_, M172_, -, hF176_, r171_, hs178_, h174_, hr_, hM_⟩)⟩)⟩ | ⟨hs11_, h10_, M181_, -, hF185_, r180_, hs187_, h183_, hr_, hM_⟩)⟩ | ⟨hs5_, h4_, M190_, -, hF194_, r189_, hs196_, h192_, hr_, hM_⟩)
  all_goals try (obtain rfl : j15_ = v.toInt.toNat := by omega)
  all_goals try (obtain rfl : j28_ = t.toInt.toNat := by omega)
  all_goals try (obtain rfl : j33_ = v.toInt.toNat := by omega)
  all_goals try (obtain rfl : j37_ = t.toInt.toNat := by omega)
  all_goals try (obtain rfl : j78_ = v.toInt.toNat := by omega)
  all_goals try (obtain rfl : j106_ = t.toInt.toNat := by omega)
  all_goals try have y1 := eT e14_
  all_goals try have y2 := eT e27_
  all_goals try have y3 := eT e32_
  all_goals try have y4 := eT e36_
  all_goals try have y5 := eT e77_
  all_goals try have y6 := eT e105_
  all_goals have y9 := eT hr_
  all_goals omega
theorem RXz_sh {m : rf → Nat → Int32} (h : RXz m) {w : Nat} (hw : w < 4) : (m (6, 0, w) 0).toInt = (m (66, 0, 0) w).toInt ∧ (m (6, 0, w) 1).toInt = (m (67, 0, 0) w).toInt := ⟨RXzi h (by unfold PRz; dsimp only; omega), RXzi h (by unfold PRz; dsimp only; omega)⟩
theorem eq_put {v u t : Int32} {M M1 M2 : mM} {S1 : rf → Nat → Prop} {r r' : Int32} (h : RXz M.1) (hF : FR S1 M M1) (hS : ∀ k, ¬ S1 (66, 0, 0) k ∧ ¬ S1 (67, 0, 0) k) (hc : SP_X11_put v u t M r M1) (hm : SP_X12_put v u t M1 r' M2) : r = r' := by
  have a := nnC_put hc
  have b := nnD_put hm
  rw [hF _ _ (hS _).1, hF _ _ (hS _).2] at b
  refine i32e ?_
  by_cases hv : 0 ≤ v.toInt ∧ v.toInt ≤ 3
  · obtain ⟨e1, e2⟩ := RXz_sh h (w := v.toInt.toNat) (by omega)
    rw [e1, e2] at a
    unfold PUTN at a b
    omega
  · unfold PUTN at a b
    omega
theorem eq_move {v u t s q : Int32} {M M1 M2 : mM} {S1 : rf → Nat → Prop} {r r' : Int32} (h : RXz M.1) (hF : FR S1 M M1) (hS : ∀ k, ¬ S1 (66, 0, 0) k ∧ ¬ S1 (67, 0, 0) k) (hc : SP_X11_move v u t s q M r M1) (hm : SP_X12_move v u t s q M1 r' M2) : r = r' := by
  have a := nnC_move hc
  have b := nnD_move hm
  rw [hF _ _ (hS _).1, hF _ _ (hS _).2, hF _ _ (hS _).1, hF _ _ (hS _).2] at b
  refine i32e ?_
  by_cases hv : (0 ≤ v.toInt ∧ v.toInt ≤ 3) ∧ (0 ≤ t.toInt ∧ t.toInt ≤ 3)
  · obtain ⟨e1, e2⟩ := RXz_sh h (w := v.toInt.toNat) (by omega)
    obtain ⟨e3, e4⟩ := RXz_sh h (w := t.toInt.toNat) (by omega)
    rw [e1, e2, e3, e4] at a
    unfold MOVN at a b
    omega
  · unfold MOVN at a b
    omega
