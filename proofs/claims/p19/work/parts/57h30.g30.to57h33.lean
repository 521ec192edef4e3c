section
/-! lesson, tell -/
theorem RW_rest {q q2 : rf → Nat → Int32} {n n2 : Nat → Int32} (h : RW 0 q n) (hN : NW5 n) (hq : ∀ (c : rf) (k : Nat), wR c.1 → ¬ (30 ≤ c.1 ∧ c.1 ≤ 33) → q2 c k = q c k) (hn : ∀ j, ¬ (j = 3 ∨ j = 4 ∨ j = 5) → ¬ (252 ≤ j ∧ j < 345) → n2 j = n j) (hE : LER 0 q2 n2) (hA : TAR 0 q2 n2) (hY : WTR 0 q2 n2) : RW 0 q2 n2 := by
  obtain ⟨⟨hL, hT, hW, hX, hO, hM⟩, -, -, -⟩ := h
  have th := nTh_b hN
  have nw := nWa_b hN
  have qq : ∀ (r w k : Nat), wR r → ¬ (30 ≤ r ∧ r ≤ 33) → q2 (r, 0, w) k = q (r, 0, w) k := fun r w k h2 h3 => hq _ _ h2 h3
  exact ⟨⟨LWR_keep hL (fun r k w => qq r 0 k (by unfold wR; omega) (by omega)) (fun j hj => hn j (by omega) (by omega)), THR_keep hT th.2 (fun r k w => qq r 0 k (by unfold wR; omega) (by omega)) (fun j hj => hn j (by omega) (by omega)),
    WAR_keep hW nw.2 (fun r w k z => qq r w k (by unfold wR; omega) (by omega)) (qq 10 0 6 (by unfold wR; omega) (by omega)) (fun j hj => hn j (by omega) (by omega)), TXR_keep hX (TXz hN) (fun r u k z _ => qq r u k (by unfold wR; omega) (by omega)) (fun j h1 h2 => hn j (by omega) (by omega)),
    OCC_keep hO th.2 nw.2 (fun k => qq 35 0 k (by unfold wR; omega) (by omega)) (fun j hj => hn j (by omega) (by omega)) (fun j hj => hn j (by omega) (by omega)),
    MIR_keep hM th.2 nw.2 (fun j hj => hn j (by omega) (by omega)) (fun w h1 h2 => ⟨fun k hk => hn _ (by omega) (by omega), fun c hc => hn _ (by omega) (by omega)⟩)⟩, hE, hA, hY⟩
theorem x3addM {b : Nat} {v u t : Int32} {M M1 : mM} {r : Int32} (h : SP_X3_add b v u t M r M1) (h0 : 0 ≤ (M.1 (3, b, 0) 3).toInt ∧ (M.1 (3, b, 0) 3).toInt < 7) : r = M.1 (3, b, 0) 3 ∧ ∃ z : Int32, z.toInt = (M.1 (3, b, 0) 3).toInt + 1 ∧ M1 = up (up (up (up M (30, b, 0) (M.1 (3, b, 0) 3).toInt.toNat v) (31, b, 0) (M.1 (3, b, 0) 3).toInt.toNat u) (32, b, 0) (M.1 (3, b, 0) 3).toInt.toNat t) (3, b, 0) 3 z := by
  refine xE_SP_X3_add h (fun z1_ e2_ => ⟨(fun h3_ hr_ hM_ => ?_), (fun h3_ => ⟨(fun h4_ j7_ h8_ M5_ hM6_ j13_ h14_ M11_ hM12_ j19_ h20_ M17_ hM18_ z23_ e24_ z25_ h26_ M27_ hM28_ hr_ hM_ => ?_), (fun h4_ hr_ hM_ => ?_)⟩)⟩)
  · have := eT e2_; omega
  · obtain rfl : j7_ = z1_.toInt.toNat := by omega
    obtain rfl : j13_ = z1_.toInt.toNat := by omega
    obtain rfl : j19_ = z1_.toInt.toNat := by omega
    have e23 : z23_ = z1_ := by rw [e24_, zupR hM18_ (by simp), zupR hM12_ (by simp), zupR hM6_ (by simp), e2_]
    rw [e23] at h26_
    have ez := add1 h26_ (by omega)
    rw [← e2_]
    exact ⟨hr_, z25_, ez, by rw [hM_, hM28_, hM18_, hM12_, hM6_]⟩
  · have := eT e2_; omega
theorem x5add1 {v : Int32} {M M' : mM} (h : SP_X5_add 0 1 v M M') (h0 : 0 ≤ (M.1 (5, 0, 1) 1).toInt ∧ (M.1 (5, 0, 1) 1).toInt < 24) : ∃ z : Int32, z.toInt = (M.1 (5, 0, 1) 1).toInt + 1 ∧ M' = up (up M (33, 0, 1) (M.1 (5, 0, 1) 1).toInt.toNat v) (5, 0, 1) 1 z := by
  have rl1 : ((rl 1 : Nat) : Int) = 24 := by decide
  refine xE_SP_X5_add h (fun z1_ e2_ => ⟨(fun h3_ hM_ => ?_), (fun h3_ z6_ h7_ => ⟨(fun h8_ hM_ => ?_), (fun h8_ j13_ h14_ M11_ hM12_ z17_ e18_ z19_ h20_ M21_ hM22_ hM_ => ?_)⟩)⟩)
  · have := eT e2_; omega
  · have := eT e2_; omega
  · have y := eT e2_
    obtain rfl : j13_ = z1_.toInt.toNat := by omega
    have e : z17_ = z1_ := by rw [e18_, zupR hM12_ (by simp), e2_]
    rw [e] at h20_
    have ez := add1 h20_ (by omega)
    rw [← e2_]
    exact ⟨z19_, ez, by rw [hM_, hM22_, hM12_]⟩
theorem cb_27 {v u t : Int32} {M M1 D D2 : mM} {r1 r2 : Int32} (h1 : SP_X11_lesson v u t M r1 M1) (h2 : SP_X12_lesson v u t D r2 D2) (hR : RW 0 M.1 (D.1 (50, 0, 0))) (hD : InvD D) (hu : (D.1 (12, 0, 0) 7).toInt = -1) (h3 : M.1 (3, 0, 0) 3 = D.1 (50, 0, 0) 3) : RW 0 M1.1 (D2.1 (50, 0, 0)) ∧ r1 = r2 := by
  have q0 := il_0
  have q1 := il_1
  have n3 := (n345_b hD.2.1).1
  have e3 := eT h3
  refine xE_SP_X11_lesson h1 ⟨(fun c_hs5_ c_h4_ => ⟨(fun c_hs11_ c_h10_ => ⟨(fun c_hs17_ c_h16_ c_r19_ c_hs23_ c_h22_ => ⟨(fun c_h24_ c_M26_ _ c_hF30_ c_r25_ c_hs32_ c_hr_ c_hM_ => ?_), (fun c_h24_ c_M34_ _ c_hF38_ c_r33_ c_hs40_ c_hr_ c_hM_ => ?_)⟩), (fun c_hs17_ c_h16_ c_M43_ _ c_hF47_ c_r42_ c_hs49_ c_hr_ c_hM_ => ?_)⟩), (fun c_hs11_ c_h10_ c_M52_ _ c_hF56_ c_r51_ c_hs58_ c_hr_ c_hM_ => ?_)⟩), (fun c_hs5_ c_h4_ c_M61_ _ c_hF65_ c_r60_ c_hs67_ c_hr_ c_hM_ => ?_)⟩
  ·
    refine xE_SP_X12_lesson h2 ⟨(fun d_hs5_ d_h4_ => ⟨(fun d_hs11_ d_h10_ => ⟨(fun d_hs17_ d_h16_ d_z19_ d_e20_ d_h22_ => ⟨(fun d_h23_ d_z24_ d_h25_ d_z26_ d_h27_ d_j30_ d_h31_ d_M28_ d_hM29_ d_z35_ d_h36_ d_z37_ d_h38_ d_z39_ d_h40_ d_j43_ d_h44_ d_M41_ d_hM42_ d_z48_ d_h49_ d_z50_ d_h51_ d_z52_ d_h53_ d_j56_ d_h57_ d_M54_ d_hM55_ d_z61_ d_e62_ d_h63_ d_h64_ d_z65_ d_h66_ d_M67_ d_hM68_ d_hr_ d_hM_ => ?_), (fun d_h23_ d_M72_ _ d_hF76_ d_r71_ d_hs78_ d_h74_ d_hr_ d_hM_ => ?_)⟩), (fun d_hs17_ d_h16_ d_M82_ _ d_hF86_ d_r81_ d_hs88_ d_h84_ d_hr_ d_hM_ => ?_)⟩), (fun d_hs11_ d_h10_ d_M91_ _ d_hF95_ d_r90_ d_hs97_ d_h93_ d_hr_ d_hM_ => ?_)⟩), (fun d_hs5_ d_h4_ d_M100_ _ d_hF104_ d_r99_ d_hs106_ d_h102_ d_hr_ d_hM_ => ?_)⟩
    · skip
      have rm := x3room c_hs23_
      have yde20_ := eT d_e20_
      have ca := x3addM c_hs32_ (by omega)
      obtain ⟨ca1, z, ca2, ca3⟩ := ca
      obtain rfl : d_j30_ = 252 + 3 * (D.1 (50, 0, 0) 3).toInt.toNat := by omega
      obtain rfl : d_j43_ = 253 + 3 * (D.1 (50, 0, 0) 3).toInt.toNat := by omega
      obtain rfl : d_j56_ = 254 + 3 * (D.1 (50, 0, 0) 3).toInt.toNat := by omega
      obtain rfl : d_z65_ = z := i32e (by omega)
      have dn : ∀ j, ¬ j = 3 → ¬ j = 252 + 3 * (D.1 (50, 0, 0) 3).toInt.toNat → ¬ j = 253 + 3 * (D.1 (50, 0, 0) 3).toInt.toNat → ¬ j = 254 + 3 * (D.1 (50, 0, 0) 3).toInt.toNat → D2.1 (50, 0, 0) j = D.1 (50, 0, 0) j := fun j a1 a2 a3 a4 => by
        rw [d_hM_, zupN d_hM68_ (fun z => a1 z.2), zupN d_hM55_ (fun z => a4 z.2), zupN d_hM42_ (fun z => a3 z.2), zupN d_hM29_ (fun z => a2 z.2)]
      have cn : ∀ (c : rf) (k : Nat), ¬ c.1 = 3 → ¬ c.1 = 30 → ¬ c.1 = 31 → ¬ c.1 = 32 → M1.1 c k = M.1 c k := fun c k a1 a2 a3 a4 => by
        rw [c_hM_, ca3, zupR rfl a1, zupR rfl a4, zupR rfl a3, zupR rfl a2]
      refine ⟨RW_rest hR hD.2.1 (fun c k a b => cn c k (fun z => by unfold wR at a; omega) (by omega) (by omega) (by omega)) (fun j a b => dn j (by omega) (by omega) (by omega) (by omega)) (fun l hl => ?_) (TAR_keep hR.2.2.1 (n345_b hD.2.1).2.1.2 (fun k => cn _ _ (by simp) (by simp) (by simp) (by simp)) (fun j hj => dn j (by omega) (by omega) (by omega) (by omega))) (WTR_keep hR.2.2.2 (n345_b hD.2.1).2.2.2 (fun k => cn _ _ (by simp) (by simp) (by simp) (by simp)) (fun j hj => dn j (by omega) (by omega) (by omega) (by omega))), ?_⟩
      · have hl2 : (l : Int) < (D.1 (50, 0, 0) 3).toInt + 1 := by
          rw [d_hM_, zupE d_hM68_ rfl rfl] at hl
          omega
        rw [c_hM_, d_hM_, ca3, h3]
        by_cases e : (l : Int) = (D.1 (50, 0, 0) 3).toInt
        · obtain rfl : l = (D.1 (50, 0, 0) 3).toInt.toNat := by omega
          refine ⟨?_, ?_, ?_⟩
          · rw [zupR rfl (by simp), zupR rfl (by simp), zupR rfl (by simp), zupE rfl rfl rfl, zupN d_hM68_ (fun z => by have := z.2; omega), zupN d_hM55_ (fun z => by have := z.2; omega), zupN d_hM42_ (fun z => by have := z.2; omega), zupE d_hM29_ rfl rfl]
          · rw [zupR rfl (by simp), zupR rfl (by simp), zupE rfl rfl rfl, zupN d_hM68_ (fun z => by have := z.2; omega), zupN d_hM55_ (fun z => by have := z.2; omega), zupE d_hM42_ rfl rfl]
          · rw [zupR rfl (by simp), zupE rfl rfl rfl, zupN d_hM68_ (fun z => by have := z.2; omega), zupE d_hM55_ rfl rfl]
        · have g := hR.2.1 l (by omega)
          have dd := fun j (hj : j = 252 + 3 * l ∨ j = 253 + 3 * l ∨ j = 254 + 3 * l) => dn j (by omega) (by omega) (by omega) (by omega)
          rw [d_hM_] at dd
          rw [dd _ (Or.inl rfl), dd _ (Or.inr (Or.inl rfl)), dd _ (Or.inr (Or.inr rfl))]
          refine ⟨?_, ?_, ?_⟩
          · rw [zupR rfl (by simp), zupR rfl (by simp), zupR rfl (by simp), zupN rfl (fun z => by have := z.2; omega)]; exact g.1
          · rw [zupR rfl (by simp), zupR rfl (by simp), zupN rfl (fun z => by have := z.2; omega), zupR rfl (by simp)]; exact g.2.1
          · rw [zupR rfl (by simp), zupN rfl (fun z => by have := z.2; omega), zupR rfl (by simp), zupR rfl (by simp)]; exact g.2.2
      · rw [c_hr_, d_hr_, ca1, d_e20_, h3]
    · skip
      have rm := x3room c_hs23_
      have yde20_ := eT d_e20_
      omega
    · skip
      have rm := x3room c_hs23_
      omega
    · skip
      have rm := x3room c_hs23_
      omega
    · skip
      have rm := x3room c_hs23_
      omega
  ·
    refine xE_SP_X12_lesson h2 ⟨(fun d_hs5_ d_h4_ => ⟨(fun d_hs11_ d_h10_ => ⟨(fun d_hs17_ d_h16_ d_z19_ d_e20_ d_h22_ => ⟨(fun d_h23_ d_z24_ d_h25_ d_z26_ d_h27_ d_j30_ d_h31_ d_M28_ d_hM29_ d_z35_ d_h36_ d_z37_ d_h38_ d_z39_ d_h40_ d_j43_ d_h44_ d_M41_ d_hM42_ d_z48_ d_h49_ d_z50_ d_h51_ d_z52_ d_h53_ d_j56_ d_h57_ d_M54_ d_hM55_ d_z61_ d_e62_ d_h63_ d_h64_ d_z65_ d_h66_ d_M67_ d_hM68_ d_hr_ d_hM_ => ?_), (fun d_h23_ d_M72_ _ d_hF76_ d_r71_ d_hs78_ d_h74_ d_hr_ d_hM_ => ?_)⟩), (fun d_hs17_ d_h16_ d_M82_ _ d_hF86_ d_r81_ d_hs88_ d_h84_ d_hr_ d_hM_ => ?_)⟩), (fun d_hs11_ d_h10_ d_M91_ _ d_hF95_ d_r90_ d_hs97_ d_h93_ d_hr_ d_hM_ => ?_)⟩), (fun d_hs5_ d_h4_ d_M100_ _ d_hF104_ d_r99_ d_hs106_ d_h102_ d_hr_ d_hM_ => ?_)⟩
    · skip
      have rm := x3room c_hs23_
      have yde20_ := eT d_e20_
      omega
    · skip
      have rm := x3room c_hs23_
      have yde20_ := eT d_e20_
      refine ⟨sameE hR hD.2.1 c_hF38_ c_hM_ d_hF76_ d_hM_, i32e ?_⟩
      have e := err_r c_hs40_ (by first | decide | simp | (dsimp only; omega))
      rw [c_hr_, d_hr_, e, d_h74_]
      decide
    · skip
      have rm := x3room c_hs23_
      omega
    · skip
      have rm := x3room c_hs23_
      omega
    · skip
      have rm := x3room c_hs23_
      omega
  ·
    refine xE_SP_X12_lesson h2 ⟨(fun d_hs5_ d_h4_ => ⟨(fun d_hs11_ d_h10_ => ⟨(fun d_hs17_ d_h16_ d_z19_ d_e20_ d_h22_ => ⟨(fun d_h23_ d_z24_ d_h25_ d_z26_ d_h27_ d_j30_ d_h31_ d_M28_ d_hM29_ d_z35_ d_h36_ d_z37_ d_h38_ d_z39_ d_h40_ d_j43_ d_h44_ d_M41_ d_hM42_ d_z48_ d_h49_ d_z50_ d_h51_ d_z52_ d_h53_ d_j56_ d_h57_ d_M54_ d_hM55_ d_z61_ d_e62_ d_h63_ d_h64_ d_z65_ d_h66_ d_M67_ d_hM68_ d_hr_ d_hM_ => ?_), (fun d_h23_ d_M72_ _ d_hF76_ d_r71_ d_hs78_ d_h74_ d_hr_ d_hM_ => ?_)⟩), (fun d_hs17_ d_h16_ d_M82_ _ d_hF86_ d_r81_ d_hs88_ d_h84_ d_hr_ d_hM_ => ?_)⟩), (fun d_hs11_ d_h10_ d_M91_ _ d_hF95_ d_r90_ d_hs97_ d_h93_ d_hr_ d_hM_ => ?_)⟩), (fun d_hs5_ d_h4_ d_M100_ _ d_hF104_ d_r99_ d_hs106_ d_h102_ d_hr_ d_hM_ => ?_)⟩
    · skip
      have yde20_ := eT d_e20_
      omega
    · skip
      have yde20_ := eT d_e20_
      omega
    · skip
      refine ⟨sameE hR hD.2.1 c_hF47_ c_hM_ d_hF86_ d_hM_, i32e ?_⟩
      have e := err_r c_hs49_ (by first | decide | simp | (dsimp only; omega))
      rw [c_hr_, d_hr_, e, d_h84_]
      decide
    · skip
      refine ⟨sameE hR hD.2.1 c_hF47_ c_hM_ d_hF95_ d_hM_, i32e ?_⟩
      have e := err_r c_hs49_ (by first | decide | simp | (dsimp only; omega))
      rw [c_hr_, d_hr_, e, d_h93_]
      decide
    · skip
      refine ⟨sameE hR hD.2.1 c_hF47_ c_hM_ d_hF104_ d_hM_, i32e ?_⟩
      have e := err_r c_hs49_ (by first | decide | simp | (dsimp only; omega))
      rw [c_hr_, d_hr_, e, d_h102_]
      decide
  ·
    refine xE_SP_X12_lesson h2 ⟨(fun d_hs5_ d_h4_ => ⟨(fun d_hs11_ d_h10_ => ⟨(fun d_hs17_ d_h16_ d_z19_ d_e20_ d_h22_ => ⟨(fun d_h23_ d_z24_ d_h25_ d_z26_ d_h27_ d_j30_ d_h31_ d_M28_ d_hM29_ d_z35_ d_h36_ d_z37_ d_h38_ d_z39_ d_h40_ d_j43_ d_h44_ d_M41_ d_hM42_ d_z48_ d_h49_ d_z50_ d_h51_ d_z52_ d_h53_ d_j56_ d_h57_ d_M54_ d_hM55_ d_z61_ d_e62_ d_h63_ d_h64_ d_z65_ d_h66_ d_M67_ d_hM68_ d_hr_ d_hM_ => ?_), (fun d_h23_ d_M72_ _ d_hF76_ d_r71_ d_hs78_ d_h74_ d_hr_ d_hM_ => ?_)⟩), (fun d_hs17_ d_h16_ d_M82_ _ d_hF86_ d_r81_ d_hs88_ d_h84_ d_hr_ d_hM_ => ?_)⟩), (fun d_hs11_ d_h10_ d_M91_ _ d_hF95_ d_r90_ d_hs97_ d_h93_ d_hr_ d_hM_ => ?_)⟩), (fun d_hs5_ d_h4_ d_M100_ _ d_hF104_ d_r99_ d_hs106_ d_h102_ d_hr_ d_hM_ => ?_)⟩
    · skip
      have yde20_ := eT d_e20_
      omega
    · skip
      have yde20_ := eT d_e20_
      omega
    · skip
      refine ⟨sameE hR hD.2.1 c_hF56_ c_hM_ d_hF86_ d_hM_, i32e ?_⟩
      have e := err_r c_hs58_ (by first | decide | simp | (dsimp only; omega))
      rw [c_hr_, d_hr_, e, d_h84_]
      decide
    · skip
      refine ⟨sameE hR hD.2.1 c_hF56_ c_hM_ d_hF95_ d_hM_, i32e ?_⟩
      have e := err_r c_hs58_ (by first | decide | simp | (dsimp only; omega))
      rw [c_hr_, d_hr_, e, d_h93_]
      decide
    · skip
      refine ⟨sameE hR hD.2.1 c_hF56_ c_hM_ d_hF104_ d_hM_, i32e ?_⟩
      have e := err_r c_hs58_ (by first | decide | simp | (dsimp only; omega))
      rw [c_hr_, d_hr_, e, d_h102_]
      decide
  ·
    refine xE_SP_X12_lesson h2 ⟨(fun d_hs5_ d_h4_ => ⟨(fun d_hs11_ d_h10_ => ⟨(fun d_hs17_ d_h16_ d_z19_ d_e20_ d_h22_ => ⟨(fun d_h23_ d_z24_ d_h25_ d_z26_ d_h27_ d_j30_ d_h31_ d_M28_ d_hM29_ d_z35_ d_h36_ d_z37_ d_h38_ d_z39_ d_h40_ d_j43_ d_h44_ d_M41_ d_hM42_ d_z48_ d_h49_ d_z50_ d_h51_ d_z52_ d_h53_ d_j56_ d_h57_ d_M54_ d_hM55_ d_z61_ d_e62_ d_h63_ d_h64_ d_z65_ d_h66_ d_M67_ d_hM68_ d_hr_ d_hM_ => ?_), (fun d_h23_ d_M72_ _ d_hF76_ d_r71_ d_hs78_ d_h74_ d_hr_ d_hM_ => ?_)⟩), (fun d_hs17_ d_h16_ d_M82_ _ d_hF86_ d_r81_ d_hs88_ d_h84_ d_hr_ d_hM_ => ?_)⟩), (fun d_hs11_ d_h10_ d_M91_ _ d_hF95_ d_r90_ d_hs97_ d_h93_ d_hr_ d_hM_ => ?_)⟩), (fun d_hs5_ d_h4_ d_M100_ _ d_hF104_ d_r99_ d_hs106_ d_h102_ d_hr_ d_hM_ => ?_)⟩
    · skip
      have yde20_ := eT d_e20_
      omega
    · skip
      have yde20_ := eT d_e20_
      omega
    · skip
      refine ⟨sameE hR hD.2.1 c_hF65_ c_hM_ d_hF86_ d_hM_, i32e ?_⟩
      have e := err_r c_hs67_ (by first | decide | simp | (dsimp only; omega))
      rw [c_hr_, d_hr_, e, d_h84_]
      decide
    · skip
      refine ⟨sameE hR hD.2.1 c_hF65_ c_hM_ d_hF95_ d_hM_, i32e ?_⟩
      have e := err_r c_hs67_ (by first | decide | simp | (dsimp only; omega))
      rw [c_hr_, d_hr_, e, d_h93_]
      decide
    · skip
      refine ⟨sameE hR hD.2.1 c_hF65_ c_hM_ d_hF104_ d_hM_, i32e ?_⟩
      have e := err_r c_hs67_ (by first | decide | simp | (dsimp only; omega))
      rw [c_hr_, d_hr_, e, d_h102_]
      decide
theorem cb_37 {v : Int32} {M M1 D D2 : mM} {r1 r2 : Int32} (h1 : SP_X11_tell v M r1 M1) (h2 : SP_X12_tell v D r2 D2) (hR : RW 0 M.1 (D.1 (50, 0, 0))) (hD : InvD D) (hu : (D.1 (12, 0, 0) 7).toInt = -1) (h5 : M.1 (5, 0, 1) 1 = D.1 (50, 0, 0) 5) : RW 0 M1.1 (D2.1 (50, 0, 0)) ∧ r1 = r2 := by
  have q0 := il_0
  have q1 := il_1
  have rl1 : ((rl 1 : Nat) : Int) = 24 := by decide
  have e5 := eT h5
  have n5 := (n345_b hD.2.1).2.2
  have room : ∀ {r : Int32}, SP_X5_room 0 1 M r → r.toInt = 24 - (D.1 (50, 0, 0) 5).toInt := fun {r} hh => by
    refine xE_SP_X5_room hh (fun e_z1_ e_h2_ e_z3_ e_e4_ e_z5_ e_h6_ e_hr_ => ?_)
    have y := eT e_e4_
    rw [e_hr_, e_h6_, subI (x := e_z1_) (y := e_z3_) rfl rfl (by omega) (by omega)]
    omega
  refine xE_SP_X11_tell h1 (fun c_r1_ c_hs5_ => ⟨(fun c_h6_ c_M7_ _ c_hF11_ c_hs13_ c_z14_ c_e15_ c_hr_ c_hM_ => ?_), (fun c_h6_ c_M17_ _ c_hF21_ c_r16_ c_hs23_ c_hr_ c_hM_ => ?_)⟩)
  ·
    refine xE_SP_X12_tell h2 (fun d_z1_ d_e2_ d_h4_ => ⟨(fun d_h5_ d_z6_ d_e7_ d_h8_ d_h9_ d_z10_ d_h11_ d_j14_ d_h15_ d_M12_ d_hM13_ d_z19_ d_e20_ d_h21_ d_h22_ d_z23_ d_h24_ d_M25_ d_hM26_ d_z29_ d_e30_ d_h32_ d_hr_ d_hM_ => ?_), (fun d_h5_ d_M34_ _ d_hF38_ d_r33_ d_hs40_ d_h36_ d_hr_ d_hM_ => ?_)⟩)
    · skip
      have rm := room c_hs5_
      have yde2_ := eT d_e2_
      have yde7_ := eT d_e7_
      have ca := x5add1 c_hs13_ (by omega)
      obtain ⟨z, ca2, ca3⟩ := ca
      obtain rfl : d_j14_ = 321 + (D.1 (50, 0, 0) 5).toInt.toNat := by omega
      obtain rfl : d_z23_ = z := i32e (by omega)
      have dn : ∀ j, ¬ j = 5 → ¬ j = 321 + (D.1 (50, 0, 0) 5).toInt.toNat → D2.1 (50, 0, 0) j = D.1 (50, 0, 0) j := fun j a1 a2 => by
        rw [d_hM_, zupN d_hM26_ (fun z => a1 z.2), zupN d_hM13_ (fun z => a2 z.2)]
      have cn : ∀ (c : rf) (k : Nat), ¬ c.1 = 5 → ¬ c = (33, 0, 1) → M1.1 c k = M.1 c k := fun c k a1 a2 => by
        rw [c_hM_, ca3, zupR rfl a1, zupN rfl (fun z => a2 z.1)]
      refine ⟨RW_rest hR hD.2.1 (fun c k a b => cn c k (fun z => by unfold wR at a; omega) (fun z => b (by rw [z]; simp))) (fun j a b => dn j (by omega) (by omega)) (LER_keep hR.2.1 (n345_b hD.2.1).1.2 (fun r k hr => cn _ _ (by dsimp only; omega) (cne (by omega))) (fun j hj => dn j (by omega) (by omega))) (TAR_keep hR.2.2.1 (n345_b hD.2.1).2.1.2 (fun k => cn _ _ (by simp) (by simp)) (fun j hj => dn j (by omega) (by omega))) (fun i hi => ?_), ?_⟩
      · have hi2 : (i : Int) < (D.1 (50, 0, 0) 5).toInt + 1 := by
          rw [d_hM_, zupE d_hM26_ rfl rfl] at hi
          omega
        rw [c_hM_, d_hM_, ca3, h5]
        by_cases e : (i : Int) = (D.1 (50, 0, 0) 5).toInt
        · obtain rfl : i = (D.1 (50, 0, 0) 5).toInt.toNat := by omega
          rw [zupR rfl (by simp), zupE rfl rfl rfl, zupN d_hM26_ (fun z => by have := z.2; omega), zupE d_hM13_ rfl rfl]
        · rw [zupR rfl (by simp), zupN rfl (fun z => by have := z.2; omega), zupN d_hM26_ (fun z => by have := z.2; omega), zupN d_hM13_ (fun z => by have := z.2; omega)]
          exact hR.2.2.2 i (by omega)
      · rw [c_hr_, c_e15_, ca3, zupE rfl rfl rfl, d_hr_, d_e30_, zupE d_hM26_ rfl rfl]
    · skip
      have rm := room c_hs5_
      have yde2_ := eT d_e2_
      omega
  ·
    refine xE_SP_X12_tell h2 (fun d_z1_ d_e2_ d_h4_ => ⟨(fun d_h5_ d_z6_ d_e7_ d_h8_ d_h9_ d_z10_ d_h11_ d_j14_ d_h15_ d_M12_ d_hM13_ d_z19_ d_e20_ d_h21_ d_h22_ d_z23_ d_h24_ d_M25_ d_hM26_ d_z29_ d_e30_ d_h32_ d_hr_ d_hM_ => ?_), (fun d_h5_ d_M34_ _ d_hF38_ d_r33_ d_hs40_ d_h36_ d_hr_ d_hM_ => ?_)⟩)
    · skip
      have rm := room c_hs5_
      have yde2_ := eT d_e2_
      have yde7_ := eT d_e7_
      omega
    · skip
      have rm := room c_hs5_
      have yde2_ := eT d_e2_
      refine ⟨sameE hR hD.2.1 c_hF21_ c_hM_ d_hF38_ d_hM_, i32e ?_⟩
      have e := err_r c_hs23_ (by first | decide | simp | (dsimp only; omega))
      rw [c_hr_, d_hr_, e, d_h36_]
      decide
end
section
/-- not the same place -/
theorem cne1 {r b w r2 b2 w2 k j : Nat} (h : ¬ r = r2) : ¬ (((r, b, w) : rf) = (r2, b2, w2) ∧ k = j) := fun z => cne h z.1
theorem kne {c : rf} {k j : Nat} (h : ¬ k = j) : ¬ (c = c ∧ k = j) := fun z => h z.2
/-! walker -/
theorem x9begin {b w : Nat} {v u t : Int32} {M M' : mM} (h : SP_X9_begin b w v u t M M') : (∀ (c : rf) (k : Nat), ¬ c = (9, b, w) → ¬ c = (40, b, w) → ¬ c = (41, b, w) → M'.1 c k = M.1 c k) ∧ (M'.1 (9, b, w) 0 = v ∧ M'.1 (9, b, w) 1 = u ∧ M'.1 (9, b, w) 2 = t ∧ M'.1 (9, b, w) 3 = 5 ∧ M'.1 (9, b, w) 4 = 60 ∧ M'.1 (9, b, w) 5 = 0 ∧ M'.1 (9, b, w) 6 = 0 ∧ M'.1 (9, b, w) 7 = 0 ∧ M'.1 (9, b, w) 8 = 0) ∧ ∀ k, k < 192 → M'.1 (40, b, w) k = 0 ∧ M'.1 (41, b, w) k = 0 := by
  have q0 := il_0
  refine xE_SP_X9_begin h (fun M1_ hM2_ M5_ hM6_ M9_ hM10_ M13_ hM14_ M17_ hM18_ M21_ hM22_ M25_ hM26_ M29_ hM30_ M33_ hM34_ v4_49 hv0_49 hv1_49 M_49 hL_49 _ hF_49 h38_ hM_ => ?_)
  have g := rind hL_49 (fun z => 0 ≤ z.1.toInt ∧ (∀ (c : rf) (k : Nat), ¬ c = (40, b, w) → ¬ c = (41, b, w) → z.2.1 c k = M33_.1 c k) ∧ ∀ k : Nat, (k : Int) < z.1.toInt → z.2.1 (40, b, w) k = 0 ∧ z.2.1 (41, b, w) k = 0) ⟨by dsimp only; omega, fun _ _ _ _ => rfl, fun k hk => by dsimp only at hk; omega⟩ (fun x z p st => by
    (try dsimp only at p st ⊢)
    obtain ⟨p1, p2, p3⟩ := p
    refine xE_ST_X9_begin_49 st (fun k_hv0_49 k_hv1_49 _ k_hF_49 k_h38_ k_j41_ k_h42_ k_M39_ k_hM40_ k_j47_ k_h48_ k_M45_ k_hM46_ k_z51_ k_h52_ k_hq_v4_49y k_hM_ => ?_)
    have e := eT k_hq_v4_49y
    refine ⟨by omega, fun c k q1 q2 => ?_, fun k hk => ?_⟩
    · rw [k_hM_, zupN k_hM46_ (fun z => q2 z.1), zupN k_hM40_ (fun z => q1 z.1)]; exact p2 c k q1 q2
    · by_cases e2 : (k : Int) = x.1.toInt
      · rw [k_hM_]
        exact ⟨by rw [zupN k_hM46_ (cne1 (by omega)), zupE k_hM40_ rfl (by omega)], zupE k_hM46_ rfl (by omega)⟩
      · have g := p3 k (by omega)
        rw [k_hM_]
        exact ⟨by rw [zupN k_hM46_ (cne1 (by omega)), zupN k_hM40_ (fun z => by have := z.2; omega)]; exact g.1, by rw [zupN k_hM46_ (fun z => by have := z.2; omega), zupN k_hM40_ (cne1 (by omega))]; exact g.2⟩)
  (try dsimp only at g)
  obtain ⟨g1, g2, g3⟩ := g
  have s : ∀ k, M_49.1 (9, b, w) k = M33_.1 (9, b, w) k := fun k => g2 _ _ (cne (by omega)) (cne (by omega))
  rw [hM_]
  refine ⟨fun c k q1 q2 q3 => ?_, ⟨?_, ?_, ?_, ?_, ?_, ?_, ?_, ?_, ?_⟩, fun k hk => g3 k (by omega)⟩
  · rw [g2 c k q2 q3, zupN hM34_ (fun z => q1 z.1), zupN hM30_ (fun z => q1 z.1), zupN hM26_ (fun z => q1 z.1), zupN hM22_ (fun z => q1 z.1), zupN hM18_ (fun z => q1 z.1), zupN hM14_ (fun z => q1 z.1), zupN hM10_ (fun z => q1 z.1), zupN hM6_ (fun z => q1 z.1), zupN hM2_ (fun z => q1 z.1)]
  · rw [s, zupN hM34_ (kne (by omega)), zupN hM30_ (kne (by omega)), zupN hM26_ (kne (by omega)), zupN hM22_ (kne (by omega)), zupN hM18_ (kne (by omega)), zupN hM14_ (kne (by omega)), zupN hM10_ (kne (by omega)), zupN hM6_ (kne (by omega)), zupE hM2_ rfl rfl]
  · rw [s, zupN hM34_ (kne (by omega)), zupN hM30_ (kne (by omega)), zupN hM26_ (kne (by omega)), zupN hM22_ (kne (by omega)), zupN hM18_ (kne (by omega)), zupN hM14_ (kne (by omega)), zupN hM10_ (kne (by omega)), zupE hM6_ rfl rfl]
  · rw [s, zupN hM34_ (kne (by omega)), zupN hM30_ (kne (by omega)), zupN hM26_ (kne (by omega)), zupN hM22_ (kne (by omega)), zupN hM18_ (kne (by omega)), zupN hM14_ (kne (by omega)), zupE hM10_ rfl rfl]
  · rw [s, zupN hM34_ (kne (by omega)), zupN hM30_ (kne (by omega)), zupN hM26_ (kne (by omega)), zupN hM22_ (kne (by omega)), zupN hM18_ (kne (by omega)), zupE hM14_ rfl rfl]
  · rw [s, zupN hM34_ (kne (by omega)), zupN hM30_ (kne (by omega)), zupN hM26_ (kne (by omega)), zupN hM22_ (kne (by omega)), zupE hM18_ rfl rfl]
  · rw [s, zupN hM34_ (kne (by omega)), zupN hM30_ (kne (by omega)), zupN hM26_ (kne (by omega)), zupE hM22_ rfl rfl]
  · rw [s, zupN hM34_ (kne (by omega)), zupN hM30_ (kne (by omega)), zupE hM26_ rfl rfl]
  · rw [s, zupN hM34_ (kne (by omega)), zupE hM30_ rfl rfl]
  · rw [s, zupE hM34_ rfl rfl]
theorem cb_8 {v u t : Int32} {M M1 D D2 : mM} {r1 r2 : Int32} (h1 : SP_X11_walker v u t M r1 M1) (h2 : SP_X12_walker v u t D r2 D2) (hR : RW 0 M.1 (D.1 (50, 0, 0))) (hD : InvD D) (hu : (D.1 (12, 0, 0) 7).toInt = -1) : RW 0 M1.1 (D2.1 (50, 0, 0)) ∧ r1 = r2 := by
  have q0 := il_0
  have q1 := il_1
  have i5 : (5 : Int32).toInt = 5 := by decide
  have i60 : (60 : Int32).toInt = 60 := by decide
  have nW := nWa_b hD.2.1
  have e2 := eT hR.1.2.2.1.1
  have n2 : (D.1 (50, 0, 0) 2).toInt = nWa (D.1 (50, 0, 0)) := rfl
  refine xE_SP_X11_walker h1 ⟨(fun c_hs5_ c_h4_ => ⟨(fun c_hs11_ c_h10_ => ⟨(fun c_hs17_ c_h16_ => ⟨(fun c_hs23_ c_h22_ c_z25_ c_e26_ => ⟨(fun c_h27_ c_M29_ _ c_hF33_ c_r28_ c_hs35_ c_hr_ c_hM_ => ?_), (fun c_h27_ c_M37_ _ c_hF41_ c_r36_ c_hs43_ c_hr_ c_hM_ => ?_)⟩), (fun c_hs23_ c_M46_ _ c_hF50_ c_r45_ c_hs52_ c_hr_ c_hM_ => ?_)⟩), (fun c_hs17_ c_h16_ c_M55_ _ c_hF59_ c_r54_ c_hs61_ c_hr_ c_hM_ => ?_)⟩), (fun c_hs11_ c_h10_ c_M64_ _ c_hF68_ c_r63_ c_hs70_ c_hr_ c_hM_ => ?_)⟩), (fun c_hs5_ c_h4_ c_M73_ _ c_hF77_ c_r72_ c_hs79_ c_hr_ c_hM_ => ?_)⟩
  ·
    refine xE_SP_X12_walker h2 ⟨(fun d_hs5_ d_h4_ => ⟨(fun d_hs11_ d_h10_ => ⟨(fun d_hs17_ d_h16_ d_r19_ d_hs23_ d_h22_ => ⟨(fun d_h24_ d_z25_ d_e26_ d_h28_ => ⟨(fun d_h29_ d_r30_ d_hs34_ d_h33_ d_z35_ d_h36_ d_j39_ d_h40_ d_M37_ d_hM38_ d_z44_ d_h45_ d_j48_ d_h49_ d_M46_ d_hM47_ d_z53_ d_h54_ d_j57_ d_h58_ d_M55_ d_hM56_ d_z62_ d_h63_ d_j66_ d_h67_ d_M64_ d_hM65_ d_z71_ d_h72_ d_j75_ d_h76_ d_M73_ d_hM74_ d_z80_ d_e81_ d_h82_ d_h83_ d_z84_ d_h85_ d_M86_ d_hM87_ d_hr_ d_hM_ => ?_), (fun d_h29_ d_M91_ _ d_hF95_ d_r90_ d_hs97_ d_h93_ d_hr_ d_hM_ => ?_)⟩), (fun d_h24_ d_M100_ _ d_hF104_ d_r99_ d_hs106_ d_h102_ d_hr_ d_hM_ => ?_)⟩), (fun d_hs17_ d_h16_ d_M109_ _ d_hF113_ d_r108_ d_hs115_ d_h111_ d_hr_ d_hM_ => ?_)⟩), (fun d_hs11_ d_h10_ d_M118_ _ d_hF122_ d_r117_ d_hs124_ d_h120_ d_hr_ d_hM_ => ?_)⟩), (fun d_hs5_ d_h4_ d_M127_ _ d_hF131_ d_r126_ d_hs133_ d_h129_ d_hr_ d_hM_ => ?_)⟩
    · skip
      have fr := x7free c_hs23_
      have yce26_ := eT c_e26_
      have gf := x12free d_hs23_ hR.1.2.2.2.2.1 (by omega) (by omega)
      have yde26_ := eT d_e26_
      obtain ⟨w, hw⟩ : ∃ w : Nat, (D.1 (50, 0, 0) 2).toInt = (w : Int) := ⟨(D.1 (50, 0, 0) 2).toInt.toNat, by omega⟩
      obtain rfl : d_j39_ = 180 + 9 * w := by omega
      obtain rfl : d_j48_ = 181 + 9 * w := by omega
      obtain rfl : d_j57_ = 182 + 9 * w := by omega
      obtain rfl : d_j66_ = 183 + 9 * w := by omega
      obtain rfl : d_j75_ = 184 + 9 * w := by omega
      have dn : ∀ j, ¬ j = 2 → j < 180 + 9 * w ∨ 185 + 9 * w ≤ j → D2.1 (50, 0, 0) j = D.1 (50, 0, 0) j := fun j a1 a2 => by
        rw [d_hM_, zupN d_hM87_ (fun z => a1 z.2), zupN d_hM74_ (fun z => by have := z.2; omega), zupN d_hM65_ (fun z => by have := z.2; omega), zupN d_hM56_ (fun z => by have := z.2; omega), zupN d_hM47_ (fun z => by have := z.2; omega), zupN d_hM38_ (fun z => by have := z.2; omega)]
      have d0 : D2.1 (50, 0, 0) (180 + 9 * w) = v := by rw [d_hM_, zupN d_hM87_ (kne (by omega)), zupN d_hM74_ (kne (by omega)), zupN d_hM65_ (kne (by omega)), zupN d_hM56_ (kne (by omega)), zupN d_hM47_ (kne (by omega)), zupE d_hM38_ rfl rfl]
      have d1 : D2.1 (50, 0, 0) (181 + 9 * w) = u := by rw [d_hM_, zupN d_hM87_ (kne (by omega)), zupN d_hM74_ (kne (by omega)), zupN d_hM65_ (kne (by omega)), zupN d_hM56_ (kne (by omega)), zupE d_hM47_ rfl rfl]
      have d2 : D2.1 (50, 0, 0) (182 + 9 * w) = t := by rw [d_hM_, zupN d_hM87_ (kne (by omega)), zupN d_hM74_ (kne (by omega)), zupN d_hM65_ (kne (by omega)), zupE d_hM56_ rfl rfl]
      have d3 : D2.1 (50, 0, 0) (183 + 9 * w) = 5 := by rw [d_hM_, zupN d_hM87_ (kne (by omega)), zupN d_hM74_ (kne (by omega)), zupE d_hM65_ rfl rfl]
      have d4 : D2.1 (50, 0, 0) (184 + 9 * w) = 60 := by rw [d_hM_, zupN d_hM87_ (kne (by omega)), zupE d_hM74_ rfl rfl]
      have dc : (D2.1 (50, 0, 0) 2).toInt = (w : Int) + 1 := by rw [d_hM_, zupE d_hM87_ rfl rfl]; omega
      refine xE_SP_X10_addWalker c_hs35_ (fun f_z1_ f_e2_ => ⟨(fun f_h3_ f_hr_ f_hM_ => ?_), (fun f_h3_ => ⟨(fun f_h4_ f_j5_ f_h6_ f_h7_ f_M8_ _ f_hF12_ f_hs14_ f_z15_ f_h16_ f_M17_ _ f_hF21_ f_hs23_ f_z24_ f_e25_ f_z26_ f_h27_ f_M28_ f_hM29_ f_hr_ f_hM_ => ?_), (fun f_h4_ f_hr_ f_hM_ => ?_)⟩)⟩)
      · have := eT f_e2_; omega
      · have yf := eT f_e2_
        obtain rfl : w = f_j5_ := by omega
        have bg := x9begin f_hs14_
        obtain ⟨b1, b2, b3⟩ := bg
        have st := x7settle f_hs23_ (by omega)
        have e24 : f_z24_ = f_z1_ := by rw [f_e25_, st, zupR rfl (by simp), b1 _ _ (cne (by omega)) (cne (by omega)) (cne (by omega)), f_e2_]
        rw [e24] at f_h27_
        have ez := add1 f_h27_ (by omega)
        have cm : ∀ (c : rf) (k : Nat), ¬ (c = (10, 0, 0) ∧ k = 6) → ¬ (c = (35, 0, 0) ∧ k = u.toInt.toNat) → M1.1 c k = f_M8_.1 c k := fun c k a1 a2 => by rw [c_hM_, f_hM_, zupN f_hM29_ a1, st, zupN rfl a2]
        have r9 : ∀ k, M1.1 (9, 0, w) k = f_M8_.1 (9, 0, w) k := fun k => cm _ _ (cne1 (by omega)) (cne1 (by omega))
        have W := WRR_addw (q2 := M1.1) (n2 := D2.1 (50, 0, 0)) (w := w) (cell := u.toInt.toNat) hR.1 hD.2.1 (by omega) (by omega) (by omega) (by omega) (fun c k a1 a2 a3 a4 a5 a6 => by rw [cm c k a6 a5, b1 c k a2 a3 a4]) dn
          (by rw [c_hM_, f_hM_, zupE f_hM29_ rfl rfl]; exact i32e (by omega)) dc
          (fun k hk => by
            rw [r9]
            rcases (show k = 0 ∨ k = 1 ∨ k = 2 ∨ k = 3 ∨ k = 4 by omega) with rfl | rfl | rfl | rfl | rfl
            · rw [b2.1]; exact d0.symm
            · rw [b2.2.1, show 180 + 9 * w + 1 = 181 + 9 * w by omega]; exact d1.symm
            · rw [b2.2.2.1, show 180 + 9 * w + 2 = 182 + 9 * w by omega]; exact d2.symm
            · rw [b2.2.2.2.1, show 180 + 9 * w + 3 = 183 + 9 * w by omega]; exact d3.symm
            · rw [b2.2.2.2.2.1, show 180 + 9 * w + 4 = 184 + 9 * w by omega]; exact d4.symm)
          (fun k hk hk2 => by
            rw [r9]
            rcases (show k = 5 ∨ k = 6 ∨ k = 7 ∨ k = 8 by omega) with rfl | rfl | rfl | rfl
            · exact b2.2.2.2.2.2.1
            · exact b2.2.2.2.2.2.2.1
            · exact b2.2.2.2.2.2.2.2.1
            · exact b2.2.2.2.2.2.2.2.2)
          (fun k hk => ⟨by rw [cm _ _ (cne1 (by omega)) (cne1 (by omega))]; exact (b3 k hk).1, by rw [cm _ _ (cne1 (by omega)) (cne1 (by omega))]; exact (b3 k hk).2⟩)
          (by rw [d1]; omega) (by rw [d3, d4]; omega) (by rw [c_hM_, f_hM_, zupR f_hM29_ (by simp), st, zupE rfl rfl rfl]; omega)
        refine ⟨RW_of hR hD.2.1 W (fun c k hc => ?_) (fun j hj => dn j (by omega) (by omega)), ?_⟩
        · rw [cm c k (fun z => by rw [z.1] at hc; simp at hc) (fun z => by rw [z.1] at hc; simp at hc), b1 c k (fun z => by rw [z] at hc; simp at hc) (fun z => by rw [z] at hc; simp at hc) (fun z => by rw [z] at hc; simp at hc)]
        · rw [c_hr_, f_hr_, d_hr_]; exact i32e (by omega)
      · have := eT f_e2_; omega
    · skip
      have fr := x7free c_hs23_
      have yce26_ := eT c_e26_
      have gf := x12free d_hs23_ hR.1.2.2.2.2.1 (by omega) (by omega)
      have yde26_ := eT d_e26_
      omega
    · skip
      have fr := x7free c_hs23_
      have yce26_ := eT c_e26_
      have gf := x12free d_hs23_ hR.1.2.2.2.2.1 (by omega) (by omega)
      omega
    · skip
      have fr := x7free c_hs23_
      have yce26_ := eT c_e26_
      omega
    · skip
      have fr := x7free c_hs23_
      have yce26_ := eT c_e26_
      omega
    · skip
      have fr := x7free c_hs23_
      have yce26_ := eT c_e26_
      omega
  ·
    refine xE_SP_X12_walker h2 ⟨(fun d_hs5_ d_h4_ => ⟨(fun d_hs11_ d_h10_ => ⟨(fun d_hs17_ d_h16_ d_r19_ d_hs23_ d_h22_ => ⟨(fun d_h24_ d_z25_ d_e26_ d_h28_ => ⟨(fun d_h29_ d_r30_ d_hs34_ d_h33_ d_z35_ d_h36_ d_j39_ d_h40_ d_M37_ d_hM38_ d_z44_ d_h45_ d_j48_ d_h49_ d_M46_ d_hM47_ d_z53_ d_h54_ d_j57_ d_h58_ d_M55_ d_hM56_ d_z62_ d_h63_ d_j66_ d_h67_ d_M64_ d_hM65_ d_z71_ d_h72_ d_j75_ d_h76_ d_M73_ d_hM74_ d_z80_ d_e81_ d_h82_ d_h83_ d_z84_ d_h85_ d_M86_ d_hM87_ d_hr_ d_hM_ => ?_), (fun d_h29_ d_M91_ _ d_hF95_ d_r90_ d_hs97_ d_h93_ d_hr_ d_hM_ => ?_)⟩), (fun d_h24_ d_M100_ _ d_hF104_ d_r99_ d_hs106_ d_h102_ d_hr_ d_hM_ => ?_)⟩), (fun d_hs17_ d_h16_ d_M109_ _ d_hF113_ d_r108_ d_hs115_ d_h111_ d_hr_ d_hM_ => ?_)⟩), (fun d_hs11_ d_h10_ d_M118_ _ d_hF122_ d_r117_ d_hs124_ d_h120_ d_hr_ d_hM_ => ?_)⟩), (fun d_hs5_ d_h4_ d_M127_ _ d_hF131_ d_r126_ d_hs133_ d_h129_ d_hr_ d_hM_ => ?_)⟩
    · skip
      have fr := x7free c_hs23_
      have yce26_ := eT c_e26_
      have gf := x12free d_hs23_ hR.1.2.2.2.2.1 (by omega) (by omega)
      have yde26_ := eT d_e26_
      omega
    · skip
      have fr := x7free c_hs23_
      have yce26_ := eT c_e26_
      have gf := x12free d_hs23_ hR.1.2.2.2.2.1 (by omega) (by omega)
      have yde26_ := eT d_e26_
      refine ⟨sameE hR hD.2.1 c_hF41_ c_hM_ d_hF95_ d_hM_, i32e ?_⟩
      have e := err_r c_hs43_ (by first | decide | simp | (dsimp only; omega))
      rw [c_hr_, d_hr_, e, d_h93_]
      decide
    · skip
      have fr := x7free c_hs23_
      have yce26_ := eT c_e26_
      have gf := x12free d_hs23_ hR.1.2.2.2.2.1 (by omega) (by omega)
      omega
    · skip
      have fr := x7free c_hs23_
      have yce26_ := eT c_e26_
      omega
    · skip
      have fr := x7free c_hs23_
      have yce26_ := eT c_e26_
      omega
    · skip
      have fr := x7free c_hs23_
      have yce26_ := eT c_e26_
      omega
  ·
    refine xE_SP_X12_walker h2 ⟨(fun d_hs5_ d_h4_ => ⟨(fun d_hs11_ d_h10_ => ⟨(fun d_hs17_ d_h16_ d_r19_ d_hs23_ d_h22_ => ⟨(fun d_h24_ d_z25_ d_e26_ d_h28_ => ⟨(fun d_h29_ d_r30_ d_hs34_ d_h33_ d_z35_ d_h36_ d_j39_ d_h40_ d_M37_ d_hM38_ d_z44_ d_h45_ d_j48_ d_h49_ d_M46_ d_hM47_ d_z53_ d_h54_ d_j57_ d_h58_ d_M55_ d_hM56_ d_z62_ d_h63_ d_j66_ d_h67_ d_M64_ d_hM65_ d_z71_ d_h72_ d_j75_ d_h76_ d_M73_ d_hM74_ d_z80_ d_e81_ d_h82_ d_h83_ d_z84_ d_h85_ d_M86_ d_hM87_ d_hr_ d_hM_ => ?_), (fun d_h29_ d_M91_ _ d_hF95_ d_r90_ d_hs97_ d_h93_ d_hr_ d_hM_ => ?_)⟩), (fun d_h24_ d_M100_ _ d_hF104_ d_r99_ d_hs106_ d_h102_ d_hr_ d_hM_ => ?_)⟩), (fun d_hs17_ d_h16_ d_M109_ _ d_hF113_ d_r108_ d_hs115_ d_h111_ d_hr_ d_hM_ => ?_)⟩), (fun d_hs11_ d_h10_ d_M118_ _ d_hF122_ d_r117_ d_hs124_ d_h120_ d_hr_ d_hM_ => ?_)⟩), (fun d_hs5_ d_h4_ d_M127_ _ d_hF131_ d_r126_ d_hs133_ d_h129_ d_hr_ d_hM_ => ?_)⟩
    · skip
      have fr := x7free c_hs23_
      have gf := x12free d_hs23_ hR.1.2.2.2.2.1 (by omega) (by omega)
      have yde26_ := eT d_e26_
      omega
    · skip
      have fr := x7free c_hs23_
      have gf := x12free d_hs23_ hR.1.2.2.2.2.1 (by omega) (by omega)
      have yde26_ := eT d_e26_
      omega
    · skip
      have fr := x7free c_hs23_
      have gf := x12free d_hs23_ hR.1.2.2.2.2.1 (by omega) (by omega)
      refine ⟨sameE hR hD.2.1 c_hF50_ c_hM_ d_hF104_ d_hM_, i32e ?_⟩
      have e := err_r c_hs52_ (by first | decide | simp | (dsimp only; omega))
      rw [c_hr_, d_hr_, e, d_h102_]
      decide
    · skip
      have fr := x7free c_hs23_
      omega
    · skip
      have fr := x7free c_hs23_
      omega
    · skip
      have fr := x7free c_hs23_
      omega
  ·
    refine xE_SP_X12_walker h2 ⟨(fun d_hs5_ d_h4_ => ⟨(fun d_hs11_ d_h10_ => ⟨(fun d_hs17_ d_h16_ d_r19_ d_hs23_ d_h22_ => ⟨(fun d_h24_ d_z25_ d_e26_ d_h28_ => ⟨(fun d_h29_ d_r30_ d_hs34_ d_h33_ d_z35_ d_h36_ d_j39_ d_h40_ d_M37_ d_hM38_ d_z44_ d_h45_ d_j48_ d_h49_ d_M46_ d_hM47_ d_z53_ d_h54_ d_j57_ d_h58_ d_M55_ d_hM56_ d_z62_ d_h63_ d_j66_ d_h67_ d_M64_ d_hM65_ d_z71_ d_h72_ d_j75_ d_h76_ d_M73_ d_hM74_ d_z80_ d_e81_ d_h82_ d_h83_ d_z84_ d_h85_ d_M86_ d_hM87_ d_hr_ d_hM_ => ?_), (fun d_h29_ d_M91_ _ d_hF95_ d_r90_ d_hs97_ d_h93_ d_hr_ d_hM_ => ?_)⟩), (fun d_h24_ d_M100_ _ d_hF104_ d_r99_ d_hs106_ d_h102_ d_hr_ d_hM_ => ?_)⟩), (fun d_hs17_ d_h16_ d_M109_ _ d_hF113_ d_r108_ d_hs115_ d_h111_ d_hr_ d_hM_ => ?_)⟩), (fun d_hs11_ d_h10_ d_M118_ _ d_hF122_ d_r117_ d_hs124_ d_h120_ d_hr_ d_hM_ => ?_)⟩), (fun d_hs5_ d_h4_ d_M127_ _ d_hF131_ d_r126_ d_hs133_ d_h129_ d_hr_ d_hM_ => ?_)⟩
    · skip
      have gf := x12free d_hs23_ hR.1.2.2.2.2.1 (by omega) (by omega)
      have yde26_ := eT d_e26_
      omega
    · skip
      have gf := x12free d_hs23_ hR.1.2.2.2.2.1 (by omega) (by omega)
      have yde26_ := eT d_e26_
      omega
    · skip
      have gf := x12free d_hs23_ hR.1.2.2.2.2.1 (by omega) (by omega)
      omega
    · skip
      refine ⟨sameE hR hD.2.1 c_hF59_ c_hM_ d_hF113_ d_hM_, i32e ?_⟩
      have e := err_r c_hs61_ (by first | decide | simp | (dsimp only; omega))
      rw [c_hr_, d_hr_, e, d_h111_]
      decide
    · skip
      refine ⟨sameE hR hD.2.1 c_hF59_ c_hM_ d_hF122_ d_hM_, i32e ?_⟩
      have e := err_r c_hs61_ (by first | decide | simp | (dsimp only; omega))
      rw [c_hr_, d_hr_, e, d_h120_]
      decide
    · skip
      refine ⟨sameE hR hD.2.1 c_hF59_ c_hM_ d_hF131_ d_hM_, i32e ?_⟩
      have e := err_r c_hs61_ (by first | decide | simp | (dsimp only; omega))
      rw [c_hr_, d_hr_, e, d_h129_]
      decide
  ·
    refine xE_SP_X12_walker h2 ⟨(fun d_hs5_ d_h4_ => ⟨(fun d_hs11_ d_h10_ => ⟨(fun d_hs17_ d_h16_ d_r19_ d_hs23_ d_h22_ => ⟨(fun d_h24_ d_z25_ d_e26_ d_h28_ => ⟨(fun d_h29_ d_r30_ d_hs34_ d_h33_ d_z35_ d_h36_ d_j39_ d_h40_ d_M37_ d_hM38_ d_z44_ d_h45_ d_j48_ d_h49_ d_M46_ d_hM47_ d_z53_ d_h54_ d_j57_ d_h58_ d_M55_ d_hM56_ d_z62_ d_h63_ d_j66_ d_h67_ d_M64_ d_hM65_ d_z71_ d_h72_ d_j75_ d_h76_ d_M73_ d_hM74_ d_z80_ d_e81_ d_h82_ d_h83_ d_z84_ d_h85_ d_M86_ d_hM87_ d_hr_ d_hM_ => ?_), (fun d_h29_ d_M91_ _ d_hF95_ d_r90_ d_hs97_ d_h93_ d_hr_ d_hM_ => ?_)⟩), (fun d_h24_ d_M100_ _ d_hF104_ d_r99_ d_hs106_ d_h102_ d_hr_ d_hM_ => ?_)⟩), (fun d_hs17_ d_h16_ d_M109_ _ d_hF113_ d_r108_ d_hs115_ d_h111_ d_hr_ d_hM_ => ?_)⟩), (fun d_hs11_ d_h10_ d_M118_ _ d_hF122_ d_r117_ d_hs124_ d_h120_ d_hr_ d_hM_ => ?_)⟩), (fun d_hs5_ d_h4_ d_M127_ _ d_hF131_ d_r126_ d_hs133_ d_h129_ d_hr_ d_hM_ => ?_)⟩
    · skip
      have gf := x12free d_hs23_ hR.1.2.2.2.2.1 (by omega) (by omega)
      have yde26_ := eT d_e26_
      omega
    · skip
      have gf := x12free d_hs23_ hR.1.2.2.2.2.1 (by omega) (by omega)
      have yde26_ := eT d_e26_
      omega
    · skip
      have gf := x12free d_hs23_ hR.1.2.2.2.2.1 (by omega) (by omega)
      omega
    · skip
      refine ⟨sameE hR hD.2.1 c_hF68_ c_hM_ d_hF113_ d_hM_, i32e ?_⟩
      have e := err_r c_hs70_ (by first | decide | simp | (dsimp only; omega))
      rw [c_hr_, d_hr_, e, d_h111_]
      decide
    · skip
      refine ⟨sameE hR hD.2.1 c_hF68_ c_hM_ d_hF122_ d_hM_, i32e ?_⟩
      have e := err_r c_hs70_ (by first | decide | simp | (dsimp only; omega))
      rw [c_hr_, d_hr_, e, d_h120_]
      decide
    · skip
      refine ⟨sameE hR hD.2.1 c_hF68_ c_hM_ d_hF131_ d_hM_, i32e ?_⟩
      have e := err_r c_hs70_ (by first | decide | simp | (dsimp only; omega))
      rw [c_hr_, d_hr_, e, d_h129_]
      decide
  ·
    refine xE_SP_X12_walker h2 ⟨(fun d_hs5_ d_h4_ => ⟨(fun d_hs11_ d_h10_ => ⟨(fun d_hs17_ d_h16_ d_r19_ d_hs23_ d_h22_ => ⟨(fun d_h24_ d_z25_ d_e26_ d_h28_ => ⟨(fun d_h29_ d_r30_ d_hs34_ d_h33_ d_z35_ d_h36_ d_j39_ d_h40_ d_M37_ d_hM38_ d_z44_ d_h45_ d_j48_ d_h49_ d_M46_ d_hM47_ d_z53_ d_h54_ d_j57_ d_h58_ d_M55_ d_hM56_ d_z62_ d_h63_ d_j66_ d_h67_ d_M64_ d_hM65_ d_z71_ d_h72_ d_j75_ d_h76_ d_M73_ d_hM74_ d_z80_ d_e81_ d_h82_ d_h83_ d_z84_ d_h85_ d_M86_ d_hM87_ d_hr_ d_hM_ => ?_), (fun d_h29_ d_M91_ _ d_hF95_ d_r90_ d_hs97_ d_h93_ d_hr_ d_hM_ => ?_)⟩), (fun d_h24_ d_M100_ _ d_hF104_ d_r99_ d_hs106_ d_h102_ d_hr_ d_hM_ => ?_)⟩), (fun d_hs17_ d_h16_ d_M109_ _ d_hF113_ d_r108_ d_hs115_ d_h111_ d_hr_ d_hM_ => ?_)⟩), (fun d_hs11_ d_h10_ d_M118_ _ d_hF122_ d_r117_ d_hs124_ d_h120_ d_hr_ d_hM_ => ?_)⟩), (fun d_hs5_ d_h4_ d_M127_ _ d_hF131_ d_r126_ d_hs133_ d_h129_ d_hr_ d_hM_ => ?_)⟩
    · skip
      have gf := x12free d_hs23_ hR.1.2.2.2.2.1 (by omega) (by omega)
      have yde26_ := eT d_e26_
      omega
    · skip
      have gf := x12free d_hs23_ hR.1.2.2.2.2.1 (by omega) (by omega)
      have yde26_ := eT d_e26_
      omega
    · skip
      have gf := x12free d_hs23_ hR.1.2.2.2.2.1 (by omega) (by omega)
      omega
    · skip
      refine ⟨sameE hR hD.2.1 c_hF77_ c_hM_ d_hF113_ d_hM_, i32e ?_⟩
      have e := err_r c_hs79_ (by first | decide | simp | (dsimp only; omega))
      rw [c_hr_, d_hr_, e, d_h111_]
      decide
    · skip
      refine ⟨sameE hR hD.2.1 c_hF77_ c_hM_ d_hF122_ d_hM_, i32e ?_⟩
      have e := err_r c_hs79_ (by first | decide | simp | (dsimp only; omega))
      rw [c_hr_, d_hr_, e, d_h120_]
      decide
    · skip
      refine ⟨sameE hR hD.2.1 c_hF77_ c_hM_ d_hF131_ d_hM_, i32e ?_⟩
      have e := err_r c_hs79_ (by first | decide | simp | (dsimp only; omega))
      rw [c_hr_, d_hr_, e, d_h129_]
      decide
end
section
/-! lessons', tape's and waiting numbers' places of the model's row are left as they are -/
def kr (M M' : mM) : Prop := ∀ j : Nat, 252 ≤ j → j < 345 → M'.1 (50, 0, 0) j = M.1 (50, 0, 0) j
theorem kr.refl {M : mM} : kr M M := fun _ _ _ => rfl
theorem kr.trans {M M1 M2 : mM} (h : kr M M1) (h2 : kr M1 M2) : kr M M2 := fun j hj hn => (h2 j hj hn).trans (h j hj hn)
theorem kr_up {M M' : mM} {i : Nat} {v : Int32} (he : M' = up M (50, 0, 0) i v) (hi : i < 252 ∨ 345 ≤ i) : kr M M' := fun j hj hn => by
  rw [he]
  exact up_ne (fun q => by have := q.2; omega)
theorem kr_upo {M M' : mM} {c : rf} {i : Nat} {v : Int32} (he : M' = up M c i v) (hc : ((50, 0, 0) : rf) ≠ c) : kr M M' := fun j _ _ => by rw [he, up_other _ _ hc]
theorem kr_FR {S : rf → Nat → Prop} {M M' : mM} (h : FR S M M') (hs : ∀ j : Nat, ¬ S (50, 0, 0) j) : kr M M' := fun j _ _ => h _ j (hs j)
theorem FSP_X12_become {v u : Int32} {Mz : mM} {r_ : Int32} {M_ : mM} (h : SP_X12_become v u Mz r_ M_) (hv : v.toInt < 252 ∨ 345 ≤ v.toInt) : kr Mz M_ := by
  unfold SP_X12_become at h
  rcases h with ⟨j3_, h4_, z1_, e2_, j7_, h8_, M5_, hM6_, hr_, hM_⟩
  rw [hM_]; exact kr_up hM6_ (by omega)
theorem FSP_X12_thingGoes {v : Int32} {Mz : mM} {M_ : mM} (h : SP_X12_thingGoes v Mz M_) (hv : 0 ≤ v.toInt ∧ v.toInt ≤ 39) : kr Mz M_ := by
  refine xE_SP_X12_thingGoes h (fun r1_ hs5_ h4_ z6_ h7_ j10_ h11_ z8_ e9_ r12_ hs16_ h15_ z17_ h18_ j21_ h22_ z19_ e20_ h23_ r24_ hs28_ h27_ z29_ h30_ j33_ h34_ z31_ e32_ h35_ => ⟨(fun h36_ hM_ => ?_), (fun h36_ => ⟨(fun h37_ hM_ => ?_), (fun h37_ => ⟨(fun h38_ hM_ => ?_), (fun h38_ z39_ e40_ z41_ h42_ => ⟨(fun h43_ r44_ hs48_ h47_ z49_ h50_ j53_ h54_ z51_ e52_ h55_ r56_ hs60_ h59_ => ⟨(fun h61_ r62_ hs66_ h65_ z67_ h68_ r69_ hs73_ h72_ z74_ h75_ j78_ h79_ z76_ e77_ h80_ z81_ h82_ z83_ h85_ h84_ j88_ h89_ M86_ hM87_ hM_ => ?_), (fun h61_ r92_ hs96_ h95_ => ⟨(fun h97_ r98_ hs102_ h101_ z103_ h104_ r105_ hs109_ h108_ z110_ h111_ j114_ h115_ z112_ e113_ h116_ z117_ h118_ z119_ h121_ h120_ j124_ h125_ M122_ hM123_ hM_ => ?_), (fun h97_ r128_ hs132_ h131_ z133_ h134_ j137_ h138_ M135_ hM136_ hM_ => ?_)⟩)⟩), (fun h43_ hM_ => ?_)⟩)⟩)⟩)⟩)
  · rw [hM_]
    exact kr.refl
  · rw [hM_]
    exact kr.refl
  · rw [hM_]
    exact kr.refl
  · rw [hM_]
    exact kr_up hM87_ (by omega)
  · rw [hM_]
    exact kr_up hM123_ (by omega)
  · rw [hM_]
    exact kr_up hM136_ (by omega)
  · rw [hM_]
    exact kr.refl
theorem FST_X12_tenth_12 {Mz : mM} {v1_12 : Int32} {M_12 : mM} {v1_12y : Int32} {M_12y : mM} (h : ST_X12_tenth_12 Mz v1_12 M_12 v1_12y M_12y) : kr M_12 M_12y := by
  refine xE_ST_X12_tenth_12 h (fun hv0_12 _ hF_12 z10_ e11_ h12_ h13_ M28_ _ hF32_ hs34_ z35_ h36_ hq_v1_12y hM_ => ?_)
  · rw [hM_]
    exact (FSP_X12_thingGoes hs34_ (by omega))
theorem FST_X12_goesOn_22 {Mz : mM} {r1_ : Int32} {v3_22 : Int32} {M_22 : mM} {v3_22y : Int32} {M_22y : mM} {v : Int32} (h : ST_X12_goesOn_22 Mz r1_ v3_22 M_22 v3_22y M_22y) (h4_ : r1_.toInt = 180 + 9 * v.toInt) (hv : 0 ≤ v.toInt ∧ v.toInt ≤ 7) : kr M_22 M_22y := by
  refine xE_ST_X12_goesOn_22 h (fun hv0_22 _ hF_22 h13_ z14_ h15_ j18_ h19_ z16_ e17_ h20_ z21_ h22_ j25_ h26_ z23_ e24_ h27_ r28_ hs32_ h31_ h33_ r49_ hs53_ h52_ h54_ z55_ h56_ j59_ h60_ M57_ hM58_ z63_ h64_ hq_v3_22y hM_ => ?_)
  · rw [hM_]
    exact kr_up hM58_ (by omega)
theorem FSP_X12_more {v : Int32} {u : Int32} {Mz : mM} {M_ : mM} (h : SP_X12_more v u Mz M_) (hv : 494 ≤ v.toInt ∧ v.toInt ≤ 3566) : kr Mz M_ := by
  refine xE_SP_X12_more h (fun j3_ h4_ z1_ e2_ z5_ h6_ z7_ h8_ j11_ h12_ M9_ hM10_ hM_ => ?_)
  · rw [hM_]
    exact kr_up hM10_ (by omega)
theorem FST_X12_goesOn_22b {Mz : mM} {r1_ : Int32} {v3_22 : Int32} {M_22 : mM} {v3_22y : Int32} {M_22y : mM} {v : Int32} (h : ST_X12_goesOn_22b Mz r1_ v3_22 M_22 v3_22y M_22y) (h4_ : r1_.toInt = 180 + 9 * v.toInt) (hv : 0 ≤ v.toInt ∧ v.toInt ≤ 7) : kr M_22 M_22y := by
  refine xE_ST_X12_goesOn_22b h (fun hv0_22 _ hF_22 h93_ z94_ h95_ j98_ h99_ z96_ e97_ h100_ z101_ h102_ j105_ h106_ z103_ e104_ h107_ r108_ hs112_ h111_ h113_ r129_ hs133_ h132_ h134_ z135_ h136_ j139_ h140_ M137_ hM138_ z143_ h144_ hq_v3_22y hM_ => ?_)
  · rw [hM_]
    exact kr_up hM138_ (by omega)
theorem FSP_X12_goesOn {v : Int32} {Mz : mM} {M_ : mM} (h : SP_X12_goesOn v Mz M_) (hv : 0 ≤ v.toInt ∧ v.toInt ≤ 7) : kr Mz M_ := by
  refine xE_SP_X12_goesOn h (fun r1_ hs5_ h4_ r6_ hs10_ h9_ => ⟨(fun h11_ v3_22 hv0_22 M_22 hL_22 _ hF_22 => ⟨(fun h13_ hM_ => ?_), (fun h13_ z14_ h15_ j18_ h19_ z16_ e17_ h20_ z21_ h22_ j25_ h26_ z23_ e24_ h27_ r28_ hs32_ h31_ => ⟨(fun h33_ z34_ h35_ j38_ h39_ z36_ e37_ z40_ h41_ j44_ h45_ M42_ hM43_ h48_ hM_ => ?_), (fun h33_ r49_ hs53_ h52_ h54_ z65_ h66_ j69_ h70_ z67_ e68_ z71_ h72_ j75_ h76_ M73_ hM74_ h79_ _ r80_ hs84_ h83_ M85_ _ hF89_ hs91_ hM_ => ?_)⟩)⟩), (fun h11_ v3_22 hv0_22 M_22 hL_22 _ hF_22 => ⟨(fun h93_ hM_ => ?_), (fun h93_ z94_ h95_ j98_ h99_ z96_ e97_ h100_ z101_ h102_ j105_ h106_ z103_ e104_ h107_ r108_ hs112_ h111_ => ⟨(fun h113_ z114_ h115_ j118_ h119_ z116_ e117_ z120_ h121_ j124_ h125_ M122_ hM123_ h128_ hM_ => ?_), (fun h113_ r129_ hs133_ h132_ h134_ z145_ h146_ j149_ h150_ z147_ e148_ z151_ h152_ j155_ h156_ M153_ hM154_ h159_ _ r160_ hs164_ h163_ M165_ _ hF169_ hs171_ hM_ => ?_)⟩)⟩)⟩)
  · rw [hM_]
    have l0_ := rind hL_22 (fun z_ => kr Mz z_.2) kr.refl (fun x_ z_ h1_ h2_ => kr.trans h1_ ((FST_X12_goesOn_22 (v := v) h2_ (by omega) (by omega))))
    exact show kr Mz M_22 from l0_
  · rw [hM_]
    have l0_ := rind hL_22 (fun z_ => kr Mz z_.2) kr.refl (fun x_ z_ h1_ h2_ => kr.trans h1_ ((FST_X12_goesOn_22 (v := v) h2_ (by omega) (by omega))))
    exact kr.trans (show kr Mz M_22 from l0_) (kr_up hM43_ (by omega))
  · rw [hM_]
    have l0_ := rind hL_22 (fun z_ => kr Mz z_.2) kr.refl (fun x_ z_ h1_ h2_ => kr.trans h1_ ((FST_X12_goesOn_22 (v := v) h2_ (by omega) (by omega))))
    exact kr.trans (kr.trans (show kr Mz M_22 from l0_) (kr_up hM74_ (by omega))) ((FSP_X12_more hs91_ (by omega)))
  · rw [hM_]
    have l0_ := rind hL_22 (fun z_ => kr Mz z_.2) kr.refl (fun x_ z_ h1_ h2_ => kr.trans h1_ ((FST_X12_goesOn_22b (v := v) h2_ (by omega) (by omega))))
    exact show kr Mz M_22 from l0_
  · rw [hM_]
    have l0_ := rind hL_22 (fun z_ => kr Mz z_.2) kr.refl (fun x_ z_ h1_ h2_ => kr.trans h1_ ((FST_X12_goesOn_22b (v := v) h2_ (by omega) (by omega))))
    exact kr.trans (show kr Mz M_22 from l0_) (kr_up hM123_ (by omega))
  · rw [hM_]
    have l0_ := rind hL_22 (fun z_ => kr Mz z_.2) kr.refl (fun x_ z_ h1_ h2_ => kr.trans h1_ ((FST_X12_goesOn_22b (v := v) h2_ (by omega) (by omega))))
    exact kr.trans (kr.trans (show kr Mz M_22 from l0_) (kr_up hM154_ (by omega))) ((FSP_X12_more hs171_ (by omega)))
theorem FST_X12_clicks_55 {v : Int32} {Mz : mM} {z8_ : Int32} {v4_35 : Int32} {r34_ : Int32} {v6_55 : Int32} {M_55 : mM} {v6_55y : Int32} {M_55y : mM} (h : ST_X12_clicks_55 v Mz z8_ v4_35 r34_ v6_55 M_55 v6_55y M_55y) (hv0_35 : 0 ≤ v4_35.toInt) (hv1_35 : v4_35.toInt ≤ 8) (h33_ : v4_35.toInt < 8) (hv : 0 ≤ v.toInt ∧ v.toInt ≤ 7) : kr M_55 M_55y := by
  refine xE_ST_X12_clicks_55 h (fun hv0_55 _ hF_55 h43_ r68_ hs72_ h71_ r73_ hs77_ h76_ M78_ _ hF82_ hs84_ z85_ h86_ hq_v6_55y hM_ => ?_)
  · rw [hM_]
    exact (FSP_X12_more hs84_ (by omega))
theorem FST_X12_clicks_35 {v : Int32} {Mz : mM} {z8_ : Int32} {v4_35 : Int32} {v3_35 : Int32} {M_35 : mM} {v4_35y : Int32} {v3_35y : Int32} {M_35y : mM} (h : ST_X12_clicks_35 v Mz z8_ v4_35 v3_35 M_35 v4_35y v3_35y M_35y) (h12_ : 0 ≤ z8_.toInt ∧ z8_.toInt ≤ 191) (hv : 0 ≤ v.toInt ∧ v.toInt ≤ 7) : kr M_35 M_35y := by
  refine xE_ST_X12_clicks_35 h (fun hv0_35 hv1_35 _ hF_35 h33_ M35_ _ hF39_ r34_ hs41_ h37_ v6_55 hv0_55 M_55 hL_55 _ hF_55 h43_ => ⟨(fun h44_ z45_ h46_ hq_v4_35y hq_v3_35y hM_ => ?_), (fun h44_ r47_ hs51_ h50_ r52_ hs56_ h55_ M57_ _ hF61_ hs63_ z64_ h65_ z66_ h67_ hq_v4_35y hq_v3_35y hM_ => ?_)⟩)
  · rw [hM_]
    have l0_ := rind hL_55 (fun z_ => kr M35_ z_.2) kr.refl (fun x_ z_ h1_ h2_ => kr.trans h1_ ((FST_X12_clicks_55 h2_ (by omega) (by omega) (by omega) (by omega))))
    exact kr.trans (kr_FR hF39_ (by intro j q; simp [S_c_X12_heardFrom] at q)) (show kr M35_ M_55 from l0_)
  · rw [hM_]
    have l0_ := rind hL_55 (fun z_ => kr M35_ z_.2) kr.refl (fun x_ z_ h1_ h2_ => kr.trans h1_ ((FST_X12_clicks_55 h2_ (by omega) (by omega) (by omega) (by omega))))
    exact kr.trans (kr.trans (kr_FR hF39_ (by intro j q; simp [S_c_X12_heardFrom] at q)) (show kr M35_ M_55 from l0_)) ((FSP_X12_more hs63_ (by omega)))
theorem FSP_X12_clicks {v : Int32} {Mz : mM} {r_ : Int32} {M_ : mM} (h : SP_X12_clicks v Mz r_ M_) (hv : 0 ≤ v.toInt ∧ v.toInt ≤ 7) : kr Mz M_ := by
  refine xE_SP_X12_clicks h (fun r1_ hs5_ h4_ z6_ h7_ j10_ h11_ z8_ e9_ h12_ r13_ hs17_ h16_ z18_ h19_ j22_ h23_ z20_ e21_ z24_ h25_ j28_ h29_ M26_ hM27_ v4_35 hv0_35 hv1_35 v3_35 M_35 hL_35 _ hF_35 h33_ hr_ hM_ => ?_)
  · rw [hM_]
    have l0_ := rind hL_35 (fun z_ => kr M26_ z_.2.2) kr.refl (fun x_ z_ h1_ h2_ => kr.trans h1_ ((FST_X12_clicks_35 h2_ (by omega) (by omega))))
    exact kr.trans (kr_up hM27_ (by omega)) (show kr M26_ M_35 from l0_)
theorem FSP_X12_walkerGoes {v : Int32} {Mz : mM} {M_ : mM} (h : SP_X12_walkerGoes v Mz M_) (hv : 0 ≤ v.toInt ∧ v.toInt ≤ 7) : kr Mz M_ := by
  refine xE_SP_X12_walkerGoes h (fun r1_ hs5_ h4_ z6_ h7_ j10_ h11_ z8_ e9_ z12_ h13_ j16_ h17_ z14_ e15_ => ⟨(fun h18_ => ⟨(fun h19_ M21_ _ hF25_ r20_ hs27_ => ⟨(fun h28_ z29_ h30_ z31_ h32_ j35_ h36_ z33_ e34_ h37_ => ⟨(fun h38_ => ⟨(fun h39_ z40_ h41_ z42_ h44_ h43_ j47_ h48_ M45_ hM46_ hM_ => ?_), (fun h39_ z51_ h52_ z53_ h55_ h54_ j58_ h59_ M56_ hM57_ hM_ => ?_)⟩), (fun h38_ z62_ h63_ z64_ h66_ h65_ j69_ h70_ M67_ hM68_ hM_ => ?_)⟩), (fun h28_ M73_ _ hF77_ hs79_ hM_ => ?_)⟩), (fun h19_ z80_ e81_ z82_ h83_ => ⟨(fun h84_ M86_ _ hF90_ r85_ hs92_ => ⟨(fun h93_ z94_ h95_ z96_ h97_ j100_ h101_ z98_ e99_ h102_ => ⟨(fun h103_ => ⟨(fun h104_ z105_ h106_ z107_ h109_ h108_ j112_ h113_ M110_ hM111_ hM_ => ?_), (fun h104_ z116_ h117_ z118_ h120_ h119_ j123_ h124_ M121_ hM122_ hM_ => ?_)⟩), (fun h103_ z127_ h128_ z129_ h131_ h130_ j134_ h135_ M132_ hM133_ hM_ => ?_)⟩), (fun h93_ M138_ _ hF142_ hs144_ hM_ => ?_)⟩), (fun h84_ r145_ hs149_ h148_ r150_ hs154_ h153_ => ⟨(fun h155_ M157_ _ hF161_ r156_ hs163_ => ⟨(fun h164_ z165_ h166_ z167_ h168_ j171_ h172_ z169_ e170_ h173_ => ⟨(fun h174_ => ⟨(fun h175_ z176_ h177_ z178_ h180_ h179_ j183_ h184_ M181_ hM182_ hM_ => ?_), (fun h175_ z187_ h188_ z189_ h191_ h190_ j194_ h195_ M192_ hM193_ hM_ => ?_)⟩), (fun h174_ z198_ h199_ z200_ h202_ h201_ j205_ h206_ M203_ hM204_ hM_ => ?_)⟩), (fun h164_ M209_ _ hF213_ hs215_ hM_ => ?_)⟩), (fun h155_ M217_ _ hF221_ r216_ hs223_ M225_ _ hF229_ r224_ hs231_ => ⟨(fun h232_ z233_ h234_ z235_ h236_ j239_ h240_ z237_ e238_ h241_ => ⟨(fun h242_ => ⟨(fun h243_ z244_ h245_ z246_ h248_ h247_ j251_ h252_ M249_ hM250_ hM_ => ?_), (fun h243_ z255_ h256_ z257_ h259_ h258_ j262_ h263_ M260_ hM261_ hM_ => ?_)⟩), (fun h242_ z266_ h267_ z268_ h270_ h269_ j273_ h274_ M271_ hM272_ hM_ => ?_)⟩), (fun h232_ M277_ _ hF281_ hs283_ hM_ => ?_)⟩)⟩)⟩)⟩), (fun h18_ hM_ => ?_)⟩)
  · rw [hM_]
    exact kr.trans (kr_FR hF25_ (by intro j q; simp [S_c_X12_habitOf] at q)) (kr_up hM46_ (by omega))
  · rw [hM_]
    exact kr.trans (kr_FR hF25_ (by intro j q; simp [S_c_X12_habitOf] at q)) (kr_up hM57_ (by omega))
  · rw [hM_]
    exact kr.trans (kr_FR hF25_ (by intro j q; simp [S_c_X12_habitOf] at q)) (kr_up hM68_ (by omega))
  · rw [hM_]
    exact kr.trans (kr_FR hF25_ (by intro j q; simp [S_c_X12_habitOf] at q)) ((FSP_X12_goesOn hs79_ (by omega)))
  · rw [hM_]
    exact kr.trans (kr_FR hF90_ (by intro j q; simp [S_c_X12_habitOf] at q)) (kr_up hM111_ (by omega))
  · rw [hM_]
    exact kr.trans (kr_FR hF90_ (by intro j q; simp [S_c_X12_habitOf] at q)) (kr_up hM122_ (by omega))
  · rw [hM_]
    exact kr.trans (kr_FR hF90_ (by intro j q; simp [S_c_X12_habitOf] at q)) (kr_up hM133_ (by omega))
  · rw [hM_]
    exact kr.trans (kr_FR hF90_ (by intro j q; simp [S_c_X12_habitOf] at q)) ((FSP_X12_goesOn hs144_ (by omega)))
  · rw [hM_]
    exact kr.trans (kr_FR hF161_ (by intro j q; simp [S_c_X12_habitOf] at q)) (kr_up hM182_ (by omega))
  · rw [hM_]
    exact kr.trans (kr_FR hF161_ (by intro j q; simp [S_c_X12_habitOf] at q)) (kr_up hM193_ (by omega))
  · rw [hM_]
    exact kr.trans (kr_FR hF161_ (by intro j q; simp [S_c_X12_habitOf] at q)) (kr_up hM204_ (by omega))
  · rw [hM_]
    exact kr.trans (kr_FR hF161_ (by intro j q; simp [S_c_X12_habitOf] at q)) ((FSP_X12_goesOn hs215_ (by omega)))
  · rw [hM_]
    exact kr.trans (kr.trans ((FSP_X12_clicks hs223_ (by omega))) (kr_FR hF229_ (by intro j q; simp [S_c_X12_habitOf] at q))) (kr_up hM250_ (by omega))
  · rw [hM_]
    exact kr.trans (kr.trans ((FSP_X12_clicks hs223_ (by omega))) (kr_FR hF229_ (by intro j q; simp [S_c_X12_habitOf] at q))) (kr_up hM261_ (by omega))
  · rw [hM_]
    exact kr.trans (kr.trans ((FSP_X12_clicks hs223_ (by omega))) (kr_FR hF229_ (by intro j q; simp [S_c_X12_habitOf] at q))) (kr_up hM272_ (by omega))
  · rw [hM_]
    exact kr.trans (kr.trans ((FSP_X12_clicks hs223_ (by omega))) (kr_FR hF229_ (by intro j q; simp [S_c_X12_habitOf] at q))) ((FSP_X12_goesOn hs283_ (by omega)))
  · rw [hM_]
    exact kr.refl
theorem FST_X12_tenth_35 {Mz : mM} {v1_35 : Int32} {M_35 : mM} {v1_35y : Int32} {M_35y : mM} (h : ST_X12_tenth_35 Mz v1_35 M_35 v1_35y M_35y) : kr M_35 M_35y := by
  refine xE_ST_X12_tenth_35 h (fun hv0_35 _ hF_35 z15_ e16_ h17_ h18_ M19_ _ hF23_ hs25_ z26_ h27_ hq_v1_35y hM_ => ?_)
  · rw [hM_]
    exact (FSP_X12_walkerGoes hs25_ (by omega))
theorem FSP_X12_tenth {Mz : mM} {M_ : mM} (h : SP_X12_tenth Mz M_) : kr Mz M_ := by
  refine xE_SP_X12_tenth h (fun z1_ e2_ z3_ h4_ M5_ hM6_ v1_12 hv0_12 M_12 hL_12 _ hF_12 z10_ e11_ h12_ h13_ v1_35 hv0_35 M_35 hL_35 _ hF_35 z15_ e16_ h17_ h18_ hM_ => ?_)
  · rw [hM_]
    have l0_ := rind hL_12 (fun z_ => kr M5_ z_.2) kr.refl (fun x_ z_ h1_ h2_ => kr.trans h1_ ((FST_X12_tenth_12 h2_)))
    have l1_ := rind hL_35 (fun z_ => kr M_12 z_.2) kr.refl (fun x_ z_ h1_ h2_ => kr.trans h1_ ((FST_X12_tenth_35 h2_)))
    exact kr.trans (kr.trans (kr_up hM6_ (by omega)) (show kr M5_ M_12 from l0_)) (show kr M_12 M_35 from l1_)
end
section
/-! tenths -/
def TNR (x y : Int32 × mM) : Prop := x.1.toInt = y.1.toInt ∧ RW 0 x.2.1 (y.2.1 (50, 0, 0)) ∧ (y.2.1 (12, 0, 0) 7).toInt = -1
theorem tenths_loop {v : Int32} {C D : mM} {z t : Int32 × mM} (hR : RW 0 C.1 (D.1 (50, 0, 0))) (hu : (D.1 (12, 0, 0) 7).toInt = -1)
    (hc : RCH (fun x y : Int32 × mM => ST_X11_tenths_39 v C x.1 x.2 y.1 y.2) ((0 : Int32), C) z) (hd : RCH (fun x y : Int32 × mM => ST_X12_tenths_40 v D x.1 x.2 y.1 y.2) ((0 : Int32), D) t) (fc : v.toInt ≤ z.1.toInt) (fd : v.toInt ≤ t.1.toInt) : TNR z t := by
  refine lockE TNR hc hd ⟨rfl, hR, hu⟩ ?_ ?_ ?_
  · intro x z y t r s1 s2
    obtain ⟨r1, r2, r3⟩ := r
    (try dsimp only at s1 s2)
    refine xE_ST_X11_tenths_39 s1 (fun c_hv0_39 _ c_hF_39 c_h13_ c_M16_ _ c_hF20_ c_hs22_ c_z23_ c_h24_ c_hq_v2_39y c_hM_ => ?_)
    refine xE_ST_X12_tenths_40 s2 (fun d_hv0_40 d_hI_40 d_hF_40 d_h13_ d_M16_ d_hI19_ d_hF20_ d_hs22_ d_z23_ d_h24_ d_hq_v2_40y d_hM_ => ?_)
    have tb := tenth_both c_hs22_ d_hs22_ r2.1 d_hI_40 r3
    obtain ⟨t1, t2, t3⟩ := tb
    have k1 := eT c_hq_v2_39y
    have k2 := eT d_hq_v2_40y
    have kf := FSP_X12_tenth d_hs22_
    have kt := KSP_X12_tenth d_hs22_
    refine ⟨by omega, ?_, ?_⟩
    · rw [c_hM_, d_hM_]
      refine RW_of r2 d_hI_40.2.1 t1 (fun c k hc => c_hF20_ c k (fun q => by simp only [S_c_X10_passTenth, or_false] at q; omega)) (fun j hj => ?_)
      rcases hj with rfl | rfl | rfl | hj
      · exact kt 3 (by omega) (by first | decide | simp | (dsimp only; omega))
      · exact kt 4 (by omega) (by first | decide | simp | (dsimp only; omega))
      · exact kt 5 (by omega) (by first | decide | simp | (dsimp only; omega))
      · exact kf j hj.1 hj.2
    · rw [d_hM_]; exact t3
  · intro y y' r s2
    obtain ⟨r1, -⟩ := r
    (try dsimp only at s2)
    refine xE_ST_X12_tenths_40 s2 (fun d_hv0_40 _ d_hF_40 d_h13_ d_M16_ _ d_hF20_ d_hs22_ d_z23_ d_h24_ d_hq_v2_40y d_hM_ => ?_)
    omega
  · intro x x' r s1
    obtain ⟨r1, -⟩ := r
    (try dsimp only at s1)
    refine xE_ST_X11_tenths_39 s1 (fun c_hv0_39 _ c_hF_39 c_h13_ c_M16_ _ c_hF20_ c_hs22_ c_z23_ c_h24_ c_hq_v2_39y c_hM_ => ?_)
    omega
theorem cb_24 {v : Int32} {M M1 D D2 : mM} {r1 r2 : Int32} (h1 : SP_X11_tenths v M r1 M1) (h2 : SP_X12_tenths v D r2 D2) (hR : RW 0 M.1 (D.1 (50, 0, 0))) (hD : InvD D) (hu : (D.1 (12, 0, 0) 7).toInt = -1) : RW 0 M1.1 (D2.1 (50, 0, 0)) ∧ r1 = r2 := by
  have q0 := il_0
  have q1 := il_1
  have n0 := hR.1.1.1
  refine xE_SP_X11_tenths h1 ⟨(fun c_hs5_ c_h4_ c_z7_ c_e8_ c_z9_ c_h10_ => ⟨(fun c_h11_ c_v2_39 c_hv0_39 c_M_39 c_hL_39 _ c_hF_39 c_h13_ c_z14_ c_e15_ c_hr_ c_hM_ => ?_), (fun c_h11_ c_M26_ _ c_hF30_ c_r25_ c_hs32_ c_hr_ c_hM_ => ?_)⟩), (fun c_hs5_ c_h4_ c_M35_ _ c_hF39_ c_r34_ c_hs41_ c_hr_ c_hM_ => ?_)⟩
  ·
    refine xE_SP_X12_tenths h2 ⟨(fun d_hs5_ d_h4_ d_z7_ d_e8_ d_z9_ d_h10_ => ⟨(fun d_h11_ d_v2_40 d_hv0_40 d_M_40 d_hL_40 _ d_hF_40 d_h13_ d_z14_ d_e15_ d_hr_ d_hM_ => ?_), (fun d_h11_ d_M26_ _ d_hF30_ d_r25_ d_hs32_ d_h28_ d_hr_ d_hM_ => ?_)⟩), (fun d_hs5_ d_h4_ d_M35_ _ d_hF39_ d_r34_ d_hs41_ d_h37_ d_hr_ d_hM_ => ?_)⟩
    · skip
      have z9 : c_z9_ = d_z9_ := by rw [c_h10_, d_h10_, c_e8_, d_e8_, n0]
      rw [z9] at c_h11_
      have L := tenths_loop (z := (c_v2_39, c_M_39)) (t := (d_v2_40, d_M_40)) hR hu c_hL_39 d_hL_40 c_h13_ d_h13_
      obtain ⟨l1, l2, l3⟩ := L
      rw [c_hM_, d_hM_, c_hr_, d_hr_, c_e15_, d_e15_]
      exact ⟨l2, l2.1.1.1⟩
    · skip
      have z9 : c_z9_ = d_z9_ := by rw [c_h10_, d_h10_, c_e8_, d_e8_, n0]
      rw [z9] at c_h11_
      omega
    · skip
      omega
  ·
    refine xE_SP_X12_tenths h2 ⟨(fun d_hs5_ d_h4_ d_z7_ d_e8_ d_z9_ d_h10_ => ⟨(fun d_h11_ d_v2_40 d_hv0_40 d_M_40 d_hL_40 _ d_hF_40 d_h13_ d_z14_ d_e15_ d_hr_ d_hM_ => ?_), (fun d_h11_ d_M26_ _ d_hF30_ d_r25_ d_hs32_ d_h28_ d_hr_ d_hM_ => ?_)⟩), (fun d_hs5_ d_h4_ d_M35_ _ d_hF39_ d_r34_ d_hs41_ d_h37_ d_hr_ d_hM_ => ?_)⟩
    · skip
      have z9 : c_z9_ = d_z9_ := by rw [c_h10_, d_h10_, c_e8_, d_e8_, n0]
      rw [z9] at c_h11_
      omega
    · skip
      have z9 : c_z9_ = d_z9_ := by rw [c_h10_, d_h10_, c_e8_, d_e8_, n0]
      rw [z9] at c_h11_
      refine ⟨sameE hR hD.2.1 c_hF30_ c_hM_ d_hF30_ d_hM_, i32e ?_⟩
      have e := err_r c_hs32_ (by first | decide | simp | (dsimp only; omega))
      rw [c_hr_, d_hr_, e, d_h28_]
      decide
    · skip
      omega
  ·
    refine xE_SP_X12_tenths h2 ⟨(fun d_hs5_ d_h4_ d_z7_ d_e8_ d_z9_ d_h10_ => ⟨(fun d_h11_ d_v2_40 d_hv0_40 d_M_40 d_hL_40 _ d_hF_40 d_h13_ d_z14_ d_e15_ d_hr_ d_hM_ => ?_), (fun d_h11_ d_M26_ _ d_hF30_ d_r25_ d_hs32_ d_h28_ d_hr_ d_hM_ => ?_)⟩), (fun d_hs5_ d_h4_ d_M35_ _ d_hF39_ d_r34_ d_hs41_ d_h37_ d_hr_ d_hM_ => ?_)⟩
    · skip
      omega
    · skip
      omega
    · skip
      refine ⟨sameE hR hD.2.1 c_hF39_ c_hM_ d_hF39_ d_hM_, i32e ?_⟩
      have e := err_r c_hs41_ (by first | decide | simp | (dsimp only; omega))
      rw [c_hr_, d_hr_, e, d_h37_]
      decide
/-! kind and air: by the first places' relation of the memories behind them -/
theorem cb_4 {v u t : Int32} {M M1 D D2 : mM} {r2 : Int32} (hF : FR (S_c_X11_kind) M M1) (h2 : SP_X12_kind v u t D r2 D2) (hR : RW 0 M.1 (D.1 (50, 0, 0))) (hD : InvD D) (hL : LWR 0 M1.1 (D2.1 (50, 0, 0))) : RW 0 M1.1 (D2.1 (50, 0, 0)) := by
  refine RW_air hR hD.2.1 hL (fun c k a b h3 h4 h5 => hF c k (fun q => by unfold wR at a; simp only [S_c_X11_kind, or_false] at q; omega)) (fun j hj => ?_)
  rcases nnD_kind h2 with g | ⟨g0, g⟩
  · exact g.2.2 j
  · unfold KINB at g0
    rcases g with ⟨-, -, g⟩ | ⟨-, -, g⟩
    · rw [g, up_row, updN (by omega)]
    · rw [g, up_row, updN (by omega)]
theorem cb_7 {v u : Int32} {M M1 D D2 : mM} {r2 : Int32} (hF : FR (S_c_X11_air) M M1) (h2 : SP_X12_air v u D r2 D2) (hR : RW 0 M.1 (D.1 (50, 0, 0))) (hD : InvD D) (hL : LWR 0 M1.1 (D2.1 (50, 0, 0))) : RW 0 M1.1 (D2.1 (50, 0, 0)) := by
  refine RW_air hR hD.2.1 hL (fun c k a b h3 h4 h5 => hF c k (fun q => by unfold wR at a; simp only [S_c_X11_air, or_false] at q; omega)) (fun j hj => ?_)
  rcases nnD_air h2 with g | ⟨g0, -, g⟩
  · exact g.2.2 j
  · unfold AIRB at g0
    rw [g, up_row, updN (by omega)]
end
