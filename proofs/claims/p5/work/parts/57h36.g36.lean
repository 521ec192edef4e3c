/-! a world takes all from another one -/
theorem RW_row {b : Nat} {q : rf → Nat → Int32} {n n2 : Nat → Int32} (h : RW b q n) (hN : NW5 n) (hn : ∀ j, j < 3567 → n2 j = n j) : RW b q n2 := by
  obtain ⟨⟨hL, hT, hW, hX, hO, hM⟩, hE, hA, hY⟩ := h
  have th := nTh_b hN
  have nw := nWa_b hN
  have nb := n345_b hN
  exact ⟨⟨LWR_keep hL (fun _ _ _ => rfl) (fun j hj => hn j (by omega)), THR_keep hT th.2 (fun _ _ _ => rfl) (fun j hj => hn j (by omega)), WAR_keep hW nw.2 (fun _ _ _ _ => rfl) rfl (fun j hj => hn j (by omega)),
    TXR_keep hX (TXz hN) (fun _ _ _ _ _ => rfl) (fun j h1 h2 => hn j (by omega)), OCC_keep hO th.2 nw.2 (fun _ => rfl) (fun j hj => hn j (by omega)) (fun j hj => hn j (by omega)), MIR_keep hM th.2 nw.2 (fun j hj => hn j (by omega)) (fun w h1 h2 => ⟨fun k hk => hn _ (by omega), fun c hc => hn _ (by omega)⟩)⟩,
    LER_keep hE nb.1.2 (fun _ _ _ => rfl) (fun j hj => hn j (by omega)), TAR_keep hA nb.2.1.2 (fun _ => rfl) (fun j hj => hn j (by omega)), WTR_keep hY nb.2.2.2 (fun _ => rfl) (fun j hj => hn j (by omega))⟩
theorem x7take {b b2 : Nat} {M M1 : mM} (h : SP_X7_takeFrom b b2 M M1) : M1.1 (7, b, 0) 5 = M.1 (7, b2, 0) 5 ∧ (∀ k, k < 192 → M1.1 (35, b, 0) k = M.1 (35, b2, 0) k) ∧ ∀ k, k < 40 → M1.1 (36, b, 0) k = M.1 (36, b2, 0) k ∧ M1.1 (37, b, 0) k = M.1 (37, b2, 0) k ∧ M1.1 (38, b, 0) k = M.1 (38, b2, 0) k ∧ M1.1 (39, b, 0) k = M.1 (39, b2, 0) k := by
  have n192 : (192 : Int32).toNatClampNeg = 192 := rfl
  have n40 : (40 : Int32).toNatClampNeg = 40 := rfl
  unfold SP_X7_takeFrom at h
  rcases h with ⟨M1_, hM2_, M5_, hM6_, M9_, hM10_, M13_, hM14_, M17_, hM18_, z21_, e22_, M23_, hM24_, hM_⟩
  rw [hM_]
  refine ⟨?_, fun k hk => ?_, fun k hk => ⟨?_, ?_, ?_, ?_⟩⟩
  · rw [zupE hM24_ rfl rfl, e22_, zcpR hM18_ (by simp), zcpR hM14_ (by simp), zcpR hM10_ (by simp), zcpR hM6_ (by simp), zcpR hM2_ (by simp)]
  · rw [zupR hM24_ (by simp), zcpR hM18_ (by simp), zcpR hM14_ (by simp), zcpR hM10_ (by simp), zcpR hM6_ (by simp), cp_at hM2_ (by omega)]
  · rw [zupR hM24_ (by simp), zcpR hM18_ (by simp), zcpR hM14_ (by simp), zcpR hM10_ (by simp), cp_at hM6_ (by omega), zcpR hM2_ (by simp)]
  · rw [zupR hM24_ (by simp), zcpR hM18_ (by simp), zcpR hM14_ (by simp), cp_at hM10_ (by omega), zcpR hM6_ (by simp), zcpR hM2_ (by simp)]
  · rw [zupR hM24_ (by simp), zcpR hM18_ (by simp), cp_at hM14_ (by omega), zcpR hM10_ (by simp), zcpR hM6_ (by simp), zcpR hM2_ (by simp)]
  · rw [zupR hM24_ (by simp), cp_at hM18_ (by omega), zcpR hM14_ (by simp), zcpR hM10_ (by simp), zcpR hM6_ (by simp), zcpR hM2_ (by simp)]
theorem x1take {b w b2 w2 : Nat} {M M1 : mM} (h : SP_X1_takeFrom b w b2 w2 M M1) : M1.1 (1, b, w) 2 = M.1 (1, b2, w2) 2 ∧ ∀ k, k < 48 → M1.1 (24, b, w) k = M.1 (24, b2, w2) k := by
  have n48 : (48 : Int32).toNatClampNeg = 48 := rfl
  unfold SP_X1_takeFrom at h
  rcases h with ⟨z1_, e2_, M3_, hM4_, M7_, hM8_, hM_⟩
  rw [hM_]
  refine ⟨?_, fun k hk => ?_⟩
  · rw [zcpR hM8_ (by simp), zupE hM4_ rfl rfl, e2_]
  · rw [cp_at hM8_ (by omega), zupR hM4_ (by simp)]
theorem x2takeT {b b2 : Nat} {M M1 : mM} (h : SP_X2_takeFrom b b2 M M1) (hb : ¬ b = b2) : ∀ u, u < 3 → M1.1 (1, b, u) 2 = M.1 (1, b2, u) 2 ∧ ∀ k, k < 48 → M1.1 (24, b, u) k = M.1 (24, b2, u) k := by
  unfold SP_X2_takeFrom at h
  rcases h with ⟨z1_, e2_, M3_, hM4_, z7_, e8_, M9_, hM10_, z13_, e14_, M15_, hM16_, M19_, hM20_, M23_, hM24_, v2_54, hv0_54, hv1_54, M_54, hL_54, -, hF_54, h28_, hM_⟩
  have pre : ∀ (c : rf) (k : Nat), c.1 = 1 ∨ c.1 = 24 → M23_.1 c k = M.1 c k := fun c k hc => by
    rw [zcpR hM24_ (by dsimp only; omega), zcpR hM20_ (by dsimp only; omega), zupR hM16_ (by dsimp only; omega), zupR hM10_ (by dsimp only; omega), zupR hM4_ (by dsimp only; omega)]
  have g := rind hL_54 (fun z => 0 ≤ z.1.toInt ∧ (∀ (c : rf) (k : Nat), c.2.1 = b2 → z.2.1 c k = M23_.1 c k) ∧ ∀ u : Nat, (u : Int) < z.1.toInt → z.2.1 (1, b, u) 2 = M.1 (1, b2, u) 2 ∧ ∀ k, k < 48 → z.2.1 (24, b, u) k = M.1 (24, b2, u) k) ⟨by dsimp only; have := il_0; omega, fun _ _ _ => rfl, fun u hu => by dsimp only at hu; have := il_0; omega⟩ (fun x z p st => by
    (try dsimp only at p st ⊢)
    obtain ⟨p1, p2, p3⟩ := p
    unfold ST_X2_takeFrom_54 at st
    rcases st with ⟨k_hv0_54, k_hv1_54, -, k_hF_54, k_h28_, k_j29_, k_h30_, k_h31_, k_h32_, k_j33_, k_h34_, k_h35_, k_h36_, k_M37_, -, k_hF41_, k_hs43_, k_z44_, k_h45_, k_hq_v2_54y, k_hM_⟩
    have e := eT k_hq_v2_54y
    have tk := x1take k_hs43_
    have fr := k_hF41_
    rw [k_hM_]
    refine ⟨by omega, fun c k hc => ?_, fun u hu => ?_⟩
    · rw [fr c k (fun q => by simp only [S_c_X1_takeFrom, or_false] at q; omega)]; exact p2 c k hc
    · by_cases e2 : (u : Int) = x.1.toInt
      · obtain rfl : u = k_j29_ := by omega
        obtain rfl : k_j33_ = u := by omega
        refine ⟨by rw [tk.1, p2 _ _ rfl]; exact pre _ _ (by simp), fun k hk => by rw [tk.2 k hk, p2 _ _ rfl]; exact pre _ _ (by simp)⟩
      · have g := p3 u (by omega)
        refine ⟨by rw [fr _ _ (fun q => by simp only [S_c_X1_takeFrom, or_false] at q; omega)]; exact g.1, fun k hk => by rw [fr _ _ (fun q => by simp only [S_c_X1_takeFrom, or_false] at q; omega)]; exact g.2 k hk⟩)
  (try dsimp only at g)
  obtain ⟨g1, g2, g3⟩ := g
  rw [hM_]
  exact fun u hu => g3 u (by omega)
theorem x3takeT {b b2 : Nat} {M M1 : mM} (h : SP_X3_takeFrom b b2 M M1) : ∀ k, k < 7 → M1.1 (30, b, 0) k = M.1 (30, b2, 0) k ∧ M1.1 (31, b, 0) k = M.1 (31, b2, 0) k ∧ M1.1 (32, b, 0) k = M.1 (32, b2, 0) k := by
  have n7 : (7 : Int32).toNatClampNeg = 7 := rfl
  unfold SP_X3_takeFrom at h
  rcases h with ⟨M1_, hM2_, M5_, hM6_, M9_, hM10_, z13_, e14_, M15_, hM16_, hM_⟩
  rw [hM_]
  intro k hk
  refine ⟨?_, ?_, ?_⟩
  · rw [zupR hM16_ (by simp), zcpR hM10_ (by simp), zcpR hM6_ (by simp), cp_at hM2_ (by omega)]
  · rw [zupR hM16_ (by simp), zcpR hM10_ (by simp), cp_at hM6_ (by omega), zcpR hM2_ (by simp)]
  · rw [zupR hM16_ (by simp), cp_at hM10_ (by omega), zcpR hM6_ (by simp), zcpR hM2_ (by simp)]
theorem x5takeT {b b2 w : Nat} {M M1 : mM} (h : SP_X5_takeFrom b w b2 w M M1) (hb : ¬ b = b2) (hs : (M.1 (5, b2, w) 1).toInt ≤ ((rl w : Nat) : Int)) : ∀ i : Nat, (i : Int) < (M.1 (5, b2, w) 1).toInt → M1.1 (33, b, w) i = M.1 (33, b2, w) i := by
  have q0 := il_0
  unfold SP_X5_takeFrom at h
  rcases h with ⟨z1_, e2_, z3_, h4_, z5_, h6_, M7_, hM8_, v2_18, hv0_18, M_18, hL_18, -, hF_18, z13_, e14_, h15_, h16_, hM_⟩
  have y := eT e2_
  have c7 : ∀ (c : rf) (k : Nat), ¬ c = (5, b, w) → M7_.1 c k = M.1 c k := fun c k hc => zupN hM8_ (fun z => hc z.1)
  have nb : ∀ r : Nat, ¬ ((r, b2, w) : rf) = (r, b, w) := fun r z => hb (congrArg (fun c : rf => c.2.1) z).symm
  have g := rind hL_18 (fun z => 0 ≤ z.1.toInt ∧ (∀ (c : rf) (k : Nat), ¬ c = (33, b, w) → z.2.1 c k = M7_.1 c k) ∧ ∀ i : Nat, (i : Int) < z.1.toInt → z.2.1 (33, b, w) i = M.1 (33, b2, w) i) ⟨by dsimp only; omega, fun _ _ _ => rfl, fun i hi => by dsimp only at hi; omega⟩ (fun x z p st => by
    (try dsimp only at p st ⊢)
    obtain ⟨p1, p2, p3⟩ := p
    unfold ST_X5_takeFrom_18 at st
    rcases st with ⟨k_hv0_18, -, k_hF_18, k_z13_, k_e14_, k_h15_, k_h16_, k_r17_, k_hs21_, k_j24_, k_h25_, k_M22_, k_hM23_, k_z29_, k_h30_, k_hq_v2_18y, k_hM_⟩
    have e := eT k_hq_v2_18y
    have y2 := eT k_e14_
    rw [p2 _ _ (cne (by omega)), zupE hM8_ rfl rfl] at y2
    have gt : k_r17_ = x.2.1 (33, b2, w) x.1.toInt.toNat := by
      unfold SP_X5_get at k_hs21_
      rcases k_hs21_ with (⟨m_h1_, m_hr_⟩ | ⟨m_h1_, m_z2_, m_e3_, (⟨m_h4_, m_hr_⟩ | ⟨m_h4_, m_z5_, m_h6_, (⟨m_h7_, m_hr_⟩ | ⟨m_h7_, m_j10_, m_h11_, m_z8_, m_e9_, m_hr_⟩)⟩)⟩)
      · omega
      · have := eT m_e3_
        rw [p2 _ _ (cne (by omega)), c7 _ _ (nb 5)] at this
        omega
      · omega
      · rw [m_hr_, m_e9_, show m_j10_ = x.1.toInt.toNat by omega]
    rw [k_hM_]
    refine ⟨by omega, fun c k hc => ?_, fun i hi => ?_⟩
    · rw [zupN k_hM23_ (fun z => hc z.1)]; exact p2 c k hc
    · by_cases e2 : (i : Int) = x.1.toInt
      · rw [zupE k_hM23_ rfl (by omega), gt, p2 _ _ (nb 33), c7 _ _ (cne (by omega)), show x.1.toInt.toNat = i by omega]
      · rw [zupN k_hM23_ (fun z => by have := z.2; omega)]; exact p3 i (by omega))
  (try dsimp only at g)
  obtain ⟨g1, g2, g3⟩ := g
  have y3 := eT e14_
  rw [g2 _ _ (cne (by omega)), zupE hM8_ rfl rfl] at y3
  rw [hM_]
  exact fun i hi => g3 i (by omega)
theorem x9take {b b2 w : Nat} {M M1 : mM} (h : SP_X9_takeFrom b w b2 w M M1) (hb : ¬ b = b2) : (∀ k, k < 9 → M1.1 (9, b, w) k = M.1 (9, b2, w) k) ∧ ∀ k, k < 192 → M1.1 (40, b, w) k = M.1 (40, b2, w) k ∧ M1.1 (41, b, w) k = M.1 (41, b2, w) k := by
  have n192 : (192 : Int32).toNatClampNeg = 192 := rfl
  have nb : ∀ (r k j : Nat), ¬ (((r, b2, w) : rf) = (r, b, w) ∧ k = j) := fun r k j z => hb (congrArg (fun c : rf => c.2.1) z.1).symm
  unfold SP_X9_takeFrom at h
  rcases h with ⟨z1_, e2_, M3_, hM4_, z7_, e8_, M9_, hM10_, z13_, e14_, M15_, hM16_, z19_, e20_, M21_, hM22_, z25_, e26_, M27_, hM28_, z31_, e32_, M33_, hM34_, z37_, e38_, h39_, M40_, hM41_, z44_, e45_, M46_, hM47_, z50_, e51_, M52_, hM53_, M56_, hM57_, M60_, hM61_, hM_⟩
  rw [hM_]
  refine ⟨fun k hk => ?_, fun k hk => ⟨?_, ?_⟩⟩
  · rw [zcpR hM61_ (by simp), zcpR hM57_ (by simp)]
    rcases (show k = 0 ∨ k = 1 ∨ k = 2 ∨ k = 3 ∨ k = 4 ∨ k = 5 ∨ k = 6 ∨ k = 7 ∨ k = 8 by omega) with rfl | rfl | rfl | rfl | rfl | rfl | rfl | rfl | rfl
    · rw [zupN hM53_ (kne (by omega)), zupN hM47_ (kne (by omega)), zupN hM41_ (kne (by omega)), zupN hM34_ (kne (by omega)), zupN hM28_ (kne (by omega)), zupN hM22_ (kne (by omega)), zupN hM16_ (kne (by omega)), zupN hM10_ (kne (by omega)), zupE hM4_ rfl rfl, e2_]
    · rw [zupN hM53_ (kne (by omega)), zupN hM47_ (kne (by omega)), zupN hM41_ (kne (by omega)), zupN hM34_ (kne (by omega)), zupN hM28_ (kne (by omega)), zupN hM22_ (kne (by omega)), zupN hM16_ (kne (by omega)), zupE hM10_ rfl rfl, e8_, zupN hM4_ (nb 9 _ _)]
    · rw [zupN hM53_ (kne (by omega)), zupN hM47_ (kne (by omega)), zupN hM41_ (kne (by omega)), zupN hM34_ (kne (by omega)), zupN hM28_ (kne (by omega)), zupN hM22_ (kne (by omega)), zupE hM16_ rfl rfl, e14_, zupN hM10_ (nb 9 _ _), zupN hM4_ (nb 9 _ _)]
    · rw [zupN hM53_ (kne (by omega)), zupN hM47_ (kne (by omega)), zupN hM41_ (kne (by omega)), zupN hM34_ (kne (by omega)), zupN hM28_ (kne (by omega)), zupE hM22_ rfl rfl, e20_, zupN hM16_ (nb 9 _ _), zupN hM10_ (nb 9 _ _), zupN hM4_ (nb 9 _ _)]
    · rw [zupN hM53_ (kne (by omega)), zupN hM47_ (kne (by omega)), zupN hM41_ (kne (by omega)), zupN hM34_ (kne (by omega)), zupE hM28_ rfl rfl, e26_, zupN hM22_ (nb 9 _ _), zupN hM16_ (nb 9 _ _), zupN hM10_ (nb 9 _ _), zupN hM4_ (nb 9 _ _)]
    · rw [zupN hM53_ (kne (by omega)), zupN hM47_ (kne (by omega)), zupN hM41_ (kne (by omega)), zupE hM34_ rfl rfl, e32_, zupN hM28_ (nb 9 _ _), zupN hM22_ (nb 9 _ _), zupN hM16_ (nb 9 _ _), zupN hM10_ (nb 9 _ _), zupN hM4_ (nb 9 _ _)]
    · rw [zupN hM53_ (kne (by omega)), zupN hM47_ (kne (by omega)), zupE hM41_ rfl rfl, e38_, zupN hM34_ (nb 9 _ _), zupN hM28_ (nb 9 _ _), zupN hM22_ (nb 9 _ _), zupN hM16_ (nb 9 _ _), zupN hM10_ (nb 9 _ _), zupN hM4_ (nb 9 _ _)]
    · rw [zupN hM53_ (kne (by omega)), zupE hM47_ rfl rfl, e45_, zupN hM41_ (nb 9 _ _), zupN hM34_ (nb 9 _ _), zupN hM28_ (nb 9 _ _), zupN hM22_ (nb 9 _ _), zupN hM16_ (nb 9 _ _), zupN hM10_ (nb 9 _ _), zupN hM4_ (nb 9 _ _)]
    · rw [zupE hM53_ rfl rfl, e51_, zupN hM47_ (nb 9 _ _), zupN hM41_ (nb 9 _ _), zupN hM34_ (nb 9 _ _), zupN hM28_ (nb 9 _ _), zupN hM22_ (nb 9 _ _), zupN hM16_ (nb 9 _ _), zupN hM10_ (nb 9 _ _), zupN hM4_ (nb 9 _ _)]
  · rw [zcpR hM61_ (by simp), cp_at hM57_ (by omega), zupR hM53_ (by simp), zupR hM47_ (by simp), zupR hM41_ (by simp), zupR hM34_ (by simp), zupR hM28_ (by simp), zupR hM22_ (by simp), zupR hM16_ (by simp), zupR hM10_ (by simp), zupR hM4_ (by simp)]
  · rw [cp_at hM61_ (by omega), zcpR hM57_ (by simp), zupR hM53_ (by simp), zupR hM47_ (by simp), zupR hM41_ (by simp), zupR hM34_ (by simp), zupR hM28_ (by simp), zupR hM22_ (by simp), zupR hM16_ (by simp), zupR hM10_ (by simp), zupR hM4_ (by simp)]
