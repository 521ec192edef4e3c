section
/-! a world takes all from another one -/
theorem RW_row {b : Nat} {q : rf → Nat → Int32} {n n2 : Nat → Int32} (h : RW b q n) (hN : NW5 n) (hn : ∀ j, j < 3567 → n2 j = n j) : RW b q n2 := by
  obtain ⟨⟨hL, hT, hW, hX, hO, hM⟩, hE, hA, hY⟩ := h
  have th := nTh_b hN
  have nw := nWa_b hN
  have nb := n345_b hN
  exact ⟨⟨LWR_keep hL (fun _ _ _ => rfl) (fun j hj => hn j (by omega)), THR_keep hT th.2 (fun _ _ _ => rfl) (fun j hj => hn j (by omega)), WAR_keep hW nw.2 (fun _ _ _ _ => rfl) rfl (fun j hj => hn j (by omega)),
    TXR_keep hX (TXz hN) (fun _ _ _ _ _ => rfl) (fun j h1 h2 => hn j (by omega)), OCC_keep hO th.2 nw.2 (fun _ => rfl) (fun j hj => hn j (by omega)) (fun j hj => hn j (by omega)), MIR_keep hM th.2 nw.2 (fun j hj => hn j (by omega)) (fun w h1 h2 => ⟨fun k hk => hn _ (by omega), fun c hc => hn _ (by omega)⟩)⟩,
    LER_keep hE nb.1.2 (fun _ _ _ => rfl) (fun j hj => hn j (by omega)), TAR_keep hA nb.2.1.2 (fun _ => rfl) (fun j hj => hn j (by omega)), WTR_keep hY nb.2.2.2 (fun _ => rfl) (fun j hj => hn j (by omega))⟩
theorem x7take {b b2 : Nat} {M M1 : mM} (h : SP_X7_takeFrom b b2 M M1) : M1.1 (7, b, 0) 5 = M.1 (7, b2, 0) 5 ∧ (∀ k, k < 192 → M1.1 (35, b, 0) k = M.1 (35, b2, 0) k) ∧ ∀ k, k < 40 → M1.1 (36, b, 0) k = M.1 (36, b2, 0) k ∧ M1.1 (37, b, 0) k = M.1 (37, b2, 0) k ∧ M1.1 (38, b, 0) k = M.1 (38, b2, 0) k ∧ M1.1 (39, b, 0) k = M.1 (39, b2, 0) k := by
  have n192 : (192 : Int32).toNatClampNeg = 192 := rfl
  have n40 : (40 : Int32).toNatClampNeg = 40 := rfl
  refine xE_SP_X7_takeFrom h (fun M1_ hM2_ M5_ hM6_ M9_ hM10_ M13_ hM14_ M17_ hM18_ z21_ e22_ M23_ hM24_ hM_ => ?_)
  rw [hM_]
  refine ⟨?_, fun k hk => ?_, fun k hk => ⟨?_, ?_, ?_, ?_⟩⟩
  · rw [zupE hM24_ rfl rfl, e22_, zcpR hM18_ (by simp), zcpR hM14_ (by simp), zcpR hM10_ (by simp), zcpR hM6_ (by simp), zcpR hM2_ (by simp)]
  · rw [zupR hM24_ (by simp), zcpR hM18_ (by simp), zcpR hM14_ (by simp), zcpR hM10_ (by simp), zcpR hM6_ (by simp), cp_at hM2_ (by omega)]
  · rw [zupR hM24_ (by simp), zcpR hM18_ (by simp), zcpR hM14_ (by simp), zcpR hM10_ (by simp), cp_at hM6_ (by omega), zcpR hM2_ (by simp)]
  · rw [zupR hM24_ (by simp), zcpR hM18_ (by simp), zcpR hM14_ (by simp), cp_at hM10_ (by omega), zcpR hM6_ (by simp), zcpR hM2_ (by simp)]
  · rw [zupR hM24_ (by simp), zcpR hM18_ (by simp), cp_at hM14_ (by omega), zcpR hM10_ (by simp), zcpR hM6_ (by simp), zcpR hM2_ (by simp)]
  · rw [zupR hM24_ (by simp), cp_at hM18_ (by omega), zcpR hM14_ (by simp), zcpR hM10_ (by simp), zcpR hM6_ (by simp), zcpR hM2_ (by simp)]
theorem x1take {b w b2 w2 : Nat} {M M1 : mM} (h : SP_X1_takeFrom b w b2 w2 M M1) : M1.1 (1, b, w) 2 = M.1 (1, b2, w2) 2 ∧ ∀ k, k < 48 → M1.1 (24, b, w) k = M.1 (24, b2, w2) k := by
  have n48 : (48 : Int32).toNatClampNeg = 48 := rfl
  refine xE_SP_X1_takeFrom h (fun z1_ e2_ M3_ hM4_ M7_ hM8_ hM_ => ?_)
  rw [hM_]
  refine ⟨?_, fun k hk => ?_⟩
  · rw [zcpR hM8_ (by simp), zupE hM4_ rfl rfl, e2_]
  · rw [cp_at hM8_ (by omega), zupR hM4_ (by simp)]
theorem x2takeT {b b2 : Nat} {M M1 : mM} (h : SP_X2_takeFrom b b2 M M1) (hb : ¬ b = b2) : ∀ u, u < 3 → M1.1 (1, b, u) 2 = M.1 (1, b2, u) 2 ∧ ∀ k, k < 48 → M1.1 (24, b, u) k = M.1 (24, b2, u) k := by
  refine xE_SP_X2_takeFrom h (fun z1_ e2_ M3_ hM4_ z7_ e8_ M9_ hM10_ z13_ e14_ M15_ hM16_ M19_ hM20_ M23_ hM24_ v2_54 hv0_54 hv1_54 M_54 hL_54 _ hF_54 h28_ hM_ => ?_)
  have pre : ∀ (c : rf) (k : Nat), c.1 = 1 ∨ c.1 = 24 → M23_.1 c k = M.1 c k := fun c k hc => by
    rw [zcpR hM24_ (by dsimp only; omega), zcpR hM20_ (by dsimp only; omega), zupR hM16_ (by dsimp only; omega), zupR hM10_ (by dsimp only; omega), zupR hM4_ (by dsimp only; omega)]
  have g := rind hL_54 (fun z => 0 ≤ z.1.toInt ∧ (∀ (c : rf) (k : Nat), c.2.1 = b2 → z.2.1 c k = M23_.1 c k) ∧ ∀ u : Nat, (u : Int) < z.1.toInt → z.2.1 (1, b, u) 2 = M.1 (1, b2, u) 2 ∧ ∀ k, k < 48 → z.2.1 (24, b, u) k = M.1 (24, b2, u) k) ⟨by dsimp only; have := il_0; omega, fun _ _ _ => rfl, fun u hu => by dsimp only at hu; have := il_0; omega⟩ (fun x z p st => by
    (try dsimp only at p st ⊢)
    obtain ⟨p1, p2, p3⟩ := p
    refine xE_ST_X2_takeFrom_54 st (fun k_hv0_54 k_hv1_54 _ k_hF_54 k_h28_ k_j29_ k_h30_ k_h31_ k_h32_ k_j33_ k_h34_ k_h35_ k_h36_ k_M37_ _ k_hF41_ k_hs43_ k_z44_ k_h45_ k_hq_v2_54y k_hM_ => ?_)
    have e := eT k_hq_v2_54y
    have tk := x1take k_hs43_
    have fr := k_hF41_
    rw [k_hM_]
    refine ⟨by omega, fun c k hc => ?_, fun u hu => ?_⟩
    · rw [fr c k (fun q => by simp only [S_c_X1_takeFrom, or_false] at q; omega)]; exact p2 c k hc
    · by_cases e2 : (u : Int) = x.1.toInt
      · obtain rfl : u = k_j29_ := by omega
        obtain rfl : k_j33_ = u := by omega
        refine ⟨by rw [tk.1, p2 _ _ rfl]; exact pre _ _ (by simp), fun k hk => by rw [tk.2 k hk, p2 _ _ rfl]; exact pre _ _ (by simp)⟩
      · have g := p3 u (by omega)
        refine ⟨by rw [fr _ _ (fun q => by simp only [S_c_X1_takeFrom, or_false] at q; omega)]; exact g.1, fun k hk => by rw [fr _ _ (fun q => by simp only [S_c_X1_takeFrom, or_false] at q; omega)]; exact g.2 k hk⟩)
  (try dsimp only at g)
  obtain ⟨g1, g2, g3⟩ := g
  rw [hM_]
  exact fun u hu => g3 u (by omega)
theorem x3takeT {b b2 : Nat} {M M1 : mM} (h : SP_X3_takeFrom b b2 M M1) : ∀ k, k < 7 → M1.1 (30, b, 0) k = M.1 (30, b2, 0) k ∧ M1.1 (31, b, 0) k = M.1 (31, b2, 0) k ∧ M1.1 (32, b, 0) k = M.1 (32, b2, 0) k := by
  have n7 : (7 : Int32).toNatClampNeg = 7 := rfl
  refine xE_SP_X3_takeFrom h (fun M1_ hM2_ M5_ hM6_ M9_ hM10_ z13_ e14_ M15_ hM16_ hM_ => ?_)
  rw [hM_]
  intro k hk
  refine ⟨?_, ?_, ?_⟩
  · rw [zupR hM16_ (by simp), zcpR hM10_ (by simp), zcpR hM6_ (by simp), cp_at hM2_ (by omega)]
  · rw [zupR hM16_ (by simp), zcpR hM10_ (by simp), cp_at hM6_ (by omega), zcpR hM2_ (by simp)]
  · rw [zupR hM16_ (by simp), cp_at hM10_ (by omega), zcpR hM6_ (by simp), zcpR hM2_ (by simp)]
theorem x5takeT {b b2 w : Nat} {M M1 : mM} (h : SP_X5_takeFrom b w b2 w M M1) (hb : ¬ b = b2) (hs : (M.1 (5, b2, w) 1).toInt ≤ ((rl w : Nat) : Int)) : ∀ i : Nat, (i : Int) < (M.1 (5, b2, w) 1).toInt → M1.1 (33, b, w) i = M.1 (33, b2, w) i := by
  have q0 := il_0
  refine xE_SP_X5_takeFrom h (fun z1_ e2_ z3_ h4_ z5_ h6_ M7_ hM8_ v2_18 hv0_18 M_18 hL_18 _ hF_18 z13_ e14_ h15_ h16_ hM_ => ?_)
  have y := eT e2_
  have c7 : ∀ (c : rf) (k : Nat), ¬ c = (5, b, w) → M7_.1 c k = M.1 c k := fun c k hc => zupN hM8_ (fun z => hc z.1)
  have nb : ∀ r : Nat, ¬ ((r, b2, w) : rf) = (r, b, w) := fun r z => hb (congrArg (fun c : rf => c.2.1) z).symm
  have g := rind hL_18 (fun z => 0 ≤ z.1.toInt ∧ (∀ (c : rf) (k : Nat), ¬ c = (33, b, w) → z.2.1 c k = M7_.1 c k) ∧ ∀ i : Nat, (i : Int) < z.1.toInt → z.2.1 (33, b, w) i = M.1 (33, b2, w) i) ⟨by dsimp only; omega, fun _ _ _ => rfl, fun i hi => by dsimp only at hi; omega⟩ (fun x z p st => by
    (try dsimp only at p st ⊢)
    obtain ⟨p1, p2, p3⟩ := p
    refine xE_ST_X5_takeFrom_18 st (fun k_hv0_18 _ k_hF_18 k_z13_ k_e14_ k_h15_ k_h16_ k_r17_ k_hs21_ k_j24_ k_h25_ k_M22_ k_hM23_ k_z29_ k_h30_ k_hq_v2_18y k_hM_ => ?_)
    have e := eT k_hq_v2_18y
    have y2 := eT k_e14_
    rw [p2 _ _ (cne (by omega)), zupE hM8_ rfl rfl] at y2
    have gt : k_r17_ = x.2.1 (33, b2, w) x.1.toInt.toNat := by
      refine xE_SP_X5_get k_hs21_ ⟨(fun m_h1_ m_hr_ => ?_), (fun m_h1_ m_z2_ m_e3_ => ⟨(fun m_h4_ m_hr_ => ?_), (fun m_h4_ m_z5_ m_h6_ => ⟨(fun m_h7_ m_hr_ => ?_), (fun m_h7_ m_j10_ m_h11_ m_z8_ m_e9_ m_hr_ => ?_)⟩)⟩)⟩
      · omega
      · have := eT m_e3_
        rw [p2 _ _ (cne (by omega)), c7 _ _ (nb 5)] at this
        omega
      · omega
      · rw [m_hr_, m_e9_, show m_j10_ = x.1.toInt.toNat by omega]
    rw [k_hM_]
    refine ⟨by omega, fun c k hc => ?_, fun i hi => ?_⟩
    · rw [zupN k_hM23_ (fun z => hc z.1)]; exact p2 c k hc
    · by_cases e2 : (i : Int) = x.1.toInt
      · rw [zupE k_hM23_ rfl (by omega), gt, p2 _ _ (nb 33), c7 _ _ (cne (by omega)), show x.1.toInt.toNat = i by omega]
      · rw [zupN k_hM23_ (fun z => by have := z.2; omega)]; exact p3 i (by omega))
  (try dsimp only at g)
  obtain ⟨g1, g2, g3⟩ := g
  have y3 := eT e14_
  rw [g2 _ _ (cne (by omega)), zupE hM8_ rfl rfl] at y3
  rw [hM_]
  exact fun i hi => g3 i (by omega)
theorem x9take {b b2 w : Nat} {M M1 : mM} (h : SP_X9_takeFrom b w b2 w M M1) (hb : ¬ b = b2) : (∀ k, k < 9 → M1.1 (9, b, w) k = M.1 (9, b2, w) k) ∧ ∀ k, k < 192 → M1.1 (40, b, w) k = M.1 (40, b2, w) k ∧ M1.1 (41, b, w) k = M.1 (41, b2, w) k := by
  have n192 : (192 : Int32).toNatClampNeg = 192 := rfl
  have nb : ∀ (r k j : Nat), ¬ (((r, b2, w) : rf) = (r, b, w) ∧ k = j) := fun r k j z => hb (congrArg (fun c : rf => c.2.1) z.1).symm
  refine xE_SP_X9_takeFrom h (fun z1_ e2_ M3_ hM4_ z7_ e8_ M9_ hM10_ z13_ e14_ M15_ hM16_ z19_ e20_ M21_ hM22_ z25_ e26_ M27_ hM28_ z31_ e32_ M33_ hM34_ z37_ e38_ h39_ M40_ hM41_ z44_ e45_ M46_ hM47_ z50_ e51_ M52_ hM53_ M56_ hM57_ M60_ hM61_ hM_ => ?_)
  rw [hM_]
  refine ⟨fun k hk => ?_, fun k hk => ⟨?_, ?_⟩⟩
  · rw [zcpR hM61_ (by simp), zcpR hM57_ (by simp)]
    rcases (show k = 0 ∨ k = 1 ∨ k = 2 ∨ k = 3 ∨ k = 4 ∨ k = 5 ∨ k = 6 ∨ k = 7 ∨ k = 8 by omega) with rfl | rfl | rfl | rfl | rfl | rfl | rfl | rfl | rfl
    · rw [zupN hM53_ (kne (by omega)), zupN hM47_ (kne (by omega)), zupN hM41_ (kne (by omega)), zupN hM34_ (kne (by omega)), zupN hM28_ (kne (by omega)), zupN hM22_ (kne (by omega)), zupN hM16_ (kne (by omega)), zupN hM10_ (kne (by omega)), zupE hM4_ rfl rfl, e2_]
    · rw [zupN hM53_ (kne (by omega)), zupN hM47_ (kne (by omega)), zupN hM41_ (kne (by omega)), zupN hM34_ (kne (by omega)), zupN hM28_ (kne (by omega)), zupN hM22_ (kne (by omega)), zupN hM16_ (kne (by omega)), zupE hM10_ rfl rfl, e8_, zupN hM4_ (nb 9 _ _)]
    · rw [zupN hM53_ (kne (by omega)), zupN hM47_ (kne (by omega)), zupN hM41_ (kne (by omega)), zupN hM34_ (kne (by omega)), zupN hM28_ (kne (by omega)), zupN hM22_ (kne (by omega)), zupE hM16_ rfl rfl, e14_, zupN hM10_ (nb 9 _ _), zupN hM4_ (nb 9 _ _)]
    · rw [zupN hM53_ (kne (by omega)), zupN hM47_ (kne (by omega)), zupN hM41_ (kne (by omega)), zupN hM34_ (kne (by omega)), zupN hM28_ (kne (by omega)), zupE hM22_ rfl rfl, e20_, zupN hM16_ (nb 9 _ _), zupN hM10_ (nb 9 _ _), zupN hM4_ (nb 9 _ _)]
    · rw [zupN hM53_ (kne (by omega)), zupN hM47_ (kne (by omega)), zupN hM41_ (kne (by omega)), zupN hM34_ (kne (by omega)), zupE hM28_ rfl rfl, e26_, zupN hM22_ (nb 9 _ _), zupN hM16_ (nb 9 _ _), zupN hM10_ (nb 9 _ _), zupN hM4_ (nb 9 _ _)]
    · rw [zupN hM53_ (kne (by omega)), zupN hM47_ (kne (by omega)), zupN hM41_ (kne (by omega)), zupE hM34_ rfl rfl, e32_, zupN hM28_ (nb 9 _ _), zupN hM22_ (nb 9 _ _), zupN hM16_ (nb 9 _ _), zupN hM10_ (nb 9 _ _), zupN hM4_ (nb 9 _ _)]
    · rw [zupN hM53_ (kne (by omega)), zupN hM47_ (kne (by omega)), zupE hM41_ rfl rfl, e38_, zupN hM34_ (nb 9 _ _), zupN hM28_ (nb 9 _ _), zupN hM22_ (nb 9 _ _), zupN hM16_ (nb 9 _ _), zupN hM10_ (nb 9 _ _), zupN hM4_ (nb 9 _ _)]
    · rw [zupN hM53_ (kne (by omega)), zupE hM47_ rfl rfl, e45_, zupN hM41_ (nb 9 _ _), zupN hM34_ (nb 9 _ _), zupN hM28_ (nb 9 _ _), zupN hM22_ (nb 9 _ _), zupN hM16_ (nb 9 _ _), zupN hM10_ (nb 9 _ _), zupN hM4_ (nb 9 _ _)]
    · rw [zupE hM53_ rfl rfl, e51_, zupN hM47_ (nb 9 _ _), zupN hM41_ (nb 9 _ _), zupN hM34_ (nb 9 _ _), zupN hM28_ (nb 9 _ _), zupN hM22_ (nb 9 _ _), zupN hM16_ (nb 9 _ _), zupN hM10_ (nb 9 _ _), zupN hM4_ (nb 9 _ _)]
  · rw [zcpR hM61_ (by simp), cp_at hM57_ (by omega), zupR hM53_ (by simp), zupR hM47_ (by simp), zupR hM41_ (by simp), zupR hM34_ (by simp), zupR hM28_ (by simp), zupR hM22_ (by simp), zupR hM16_ (by simp), zupR hM10_ (by simp), zupR hM4_ (by simp)]
  · rw [cp_at hM61_ (by omega), zcpR hM57_ (by simp), zupR hM53_ (by simp), zupR hM47_ (by simp), zupR hM41_ (by simp), zupR hM34_ (by simp), zupR hM28_ (by simp), zupR hM22_ (by simp), zupR hM16_ (by simp), zupR hM10_ (by simp), zupR hM4_ (by simp)]
end
section
theorem OCC_b2 {b b2 : Nat} {q q2 : rf → Nat → Int32} {n : Nat → Int32} (h : OCC b2 q n) (hN : NW5 n) (hq : ∀ k, k < 192 → q2 (35, b, 0) k = q (35, b2, 0) k) : OCC b q2 n := by
  have th := nTh_b hN
  have nw := nWa_b hN
  have eo : ∀ k, k < 192 → occ b q2 k = occ b2 q k := fun k hk => by unfold occ; rw [hq k hk]
  obtain ⟨h1, h2, h3⟩ := h
  refine ⟨fun t a c => ?_, fun w a => ?_, fun c hc => ?_⟩
  · have z := ((hN.1 (21 + 4 * t)).2.2.2.2.2.2.1 (by omega) (by omega)).2.1 (by omega)
    have e : tcl n t = (n (21 + 4 * t)).toInt := rfl
    rw [eo _ (by omega)]; exact h1 t a c
  · have z := ((hN.1 (181 + 9 * w)).2.2.2.2.2.2.2 (by omega) (by omega)).2.1 (by omega)
    have e : wcl n w = (n (181 + 9 * w)).toInt := rfl
    rw [eo _ (by omega)]; exact h2 w a
  · rw [eo c hc]; exact h3 c hc
theorem RW_take {b b2 : Nat} {M M1 : mM} {n : Nat → Int32} (h : RW b2 M.1 n) (hN : NW5 n) (ht : SP_X10_takeFrom b b2 M M1) (hb : ¬ b = b2) (h0 : (M.1 (5, b2, 0) 1).toInt = (n 4).toInt) (h1 : (M.1 (5, b2, 1) 1).toInt = (n 5).toInt) : RW b M1.1 n := by
  have hl0 : rl 0 = 48 := rfl
  have hl1 : rl 1 = 24 := rfl
  have q0 := il_0
  have rn : nWa n = (n 2).toInt := rfl
  have th := nTh_b hN
  have nw := nWa_b hN
  have nb := n345_b hN
  have X := x10take ht hb (by omega) (by omega)
  obtain ⟨X1, X2, X3, X4, X5⟩ := X
  obtain ⟨⟨hL, hT, hW, hXt, hO, hM⟩, hE, hA, hY⟩ := h
  have e10 := eT hW.1
  have ne : ∀ (r w : Nat), ¬ ((r, b2, w) : rf) = (r, b, w) := fun r w z => hb (congrArg (fun c : rf => c.2.1) z).symm
  refine xE_SP_X10_takeFrom ht (fun M1_ _ hF5_ hs7_ M8_ _ hF12_ hs14_ M15_ _ hF19_ hs21_ M22_ _ hF26_ hs28_ M29_ _ hF33_ hs35_ z36_ e37_ M38_ hM39_ z42_ e43_ M44_ hM45_ v2_73 hv0_73 M_73 hL_73 _ hF_73 z49_ e50_ => ⟨(fun h51_ hM_ => ?_), (fun h51_ h52_ hM_ => ?_)⟩)
  all_goals
    have g7 : ∀ (c : rf) (k : Nat), ¬ (c.2.1 = b ∧ (c.1 = 35 ∨ c.1 = 36 ∨ c.1 = 37 ∨ c.1 = 38 ∨ c.1 = 39 ∨ c.1 = 7)) → M1_.1 c k = M.1 c k := fun c k hc => hF5_ c k (fun q => by simp only [S_c_X7_takeFrom, or_false] at q; omega)
    have g2 : ∀ (c : rf) (k : Nat), ¬ (c.2.1 = b ∧ (c.1 = 2 ∨ c.1 = 26 ∨ c.1 = 27 ∨ c.1 = 1 ∨ c.1 = 24)) → M8_.1 c k = M1_.1 c k := fun c k hc => hF12_ c k (fun q => by simp only [S_c_X2_takeFrom, or_false] at q; omega)
    have g3 : ∀ (c : rf) (k : Nat), ¬ (c.2.1 = b ∧ (c.1 = 3 ∨ c.1 = 30 ∨ c.1 = 31 ∨ c.1 = 32)) → M15_.1 c k = M8_.1 c k := fun c k hc => hF19_ c k (fun q => by simp only [S_c_X3_takeFrom, or_false] at q; omega)
    have g5 : ∀ (c : rf) (k : Nat), ¬ ((c.1 = 5 ∨ c.1 = 33) ∧ c.2.1 = b ∧ c.2.2 = 0) → M22_.1 c k = M15_.1 c k := fun c k hc => hF26_ c k (fun q => by simp only [S_c_X5_takeFrom, or_false] at q; omega)
    have g6 : ∀ (c : rf) (k : Nat), ¬ ((c.1 = 5 ∨ c.1 = 33) ∧ c.2.1 = b ∧ c.2.2 = 1) → M29_.1 c k = M22_.1 c k := fun c k hc => hF33_ c k (fun q => by simp only [S_c_X5_takeFrom, or_false] at q; omega)
    have g8 : ∀ (c : rf) (k : Nat), ¬ c = (10, b, 0) → M44_.1 c k = M29_.1 c k := fun c k hc => by rw [zupN hM45_ (fun z => hc z.1), zupN hM39_ (fun z => hc z.1)]
    -- what stands in the other world all the time
    have s29 : ∀ (r w k : Nat), M29_.1 (r, b2, w) k = M.1 (r, b2, w) k := fun r w k => by rw [g6 _ _ (fun z => by have := z.2.1; dsimp only at this; omega), g5 _ _ (fun z => by have := z.2.1; dsimp only at this; omega), g3 _ _ (fun z => by have := z.1; dsimp only at this; omega), g2 _ _ (fun z => by have := z.1; dsimp only at this; omega), g7 _ _ (fun z => by have := z.1; dsimp only at this; omega)]
    have s44 : ∀ (r w k : Nat), M44_.1 (r, b2, w) k = M.1 (r, b2, w) k := fun r w k => by rw [g8 _ _ (fun z => hb (congrArg (fun c : rf => c.2.1) z).symm), s29]
    have a := x9loop hL_73
    have L := rind hL_73 (fun z => 0 ≤ z.1.toInt ∧ (∀ (r w k : Nat), z.2.1 (r, b2, w) k = M44_.1 (r, b2, w) k) ∧ ∀ w : Nat, (w : Int) < z.1.toInt → (∀ k, k < 9 → z.2.1 (9, b, w) k = M.1 (9, b2, w) k) ∧ ∀ k, k < 192 → z.2.1 (40, b, w) k = M.1 (40, b2, w) k ∧ z.2.1 (41, b, w) k = M.1 (41, b2, w) k) ⟨by dsimp only; omega, fun _ _ _ => rfl, fun w hw => by dsimp only at hw; omega⟩ (fun x z p st => by
      (try dsimp only at p st ⊢)
      obtain ⟨p1, p2, p3⟩ := p
      refine xE_ST_X10_takeFrom_73 st (fun k_hv0_73 _ k_hF_73 k_z49_ k_e50_ k_h51_ k_h52_ k_j53_ k_h54_ k_h55_ k_j56_ k_h57_ k_h58_ k_M59_ _ k_hF63_ k_hs65_ k_z66_ k_h67_ k_hq_v2_73y k_hM_ => ?_)
      have e := eT k_hq_v2_73y
      obtain rfl : k_j53_ = k_j56_ := by omega
      have tk := x9take k_hs65_ hb
      rw [k_hM_]
      refine ⟨by omega, fun r w k => ?_, fun w hw => ?_⟩
      · rw [k_hF63_ _ _ (fun q => by simp only [S_c_X9_takeFrom, or_false] at q; omega)]; exact p2 r w k
      · by_cases e2 : (w : Int) = x.1.toInt
        · obtain rfl : w = k_j53_ := by omega
          exact ⟨fun k hk => by rw [tk.1 k hk, p2, s44], fun k hk => ⟨by rw [(tk.2 k hk).1, p2, s44], by rw [(tk.2 k hk).2, p2, s44]⟩⟩
        · have g := p3 w (by omega)
          exact ⟨fun k hk => by rw [k_hF63_ _ _ (fun q => by simp only [S_c_X9_takeFrom, or_false] at q; omega)]; exact g.1 k hk, fun k hk => ⟨by rw [k_hF63_ _ _ (fun q => by simp only [S_c_X9_takeFrom, or_false] at q; omega)]; exact (g.2 k hk).1, by rw [k_hF63_ _ _ (fun q => by simp only [S_c_X9_takeFrom, or_false] at q; omega)]; exact (g.2 k hk).2⟩⟩)
    (try dsimp only at L)
    obtain ⟨L1, L2, L3⟩ := L
    have t7 := x7take hs7_
    have tt := x2takeT hs14_ hb
    have t3 := x3takeT hs21_
    have c50 : M15_.1 (5, b2, 0) 1 = M.1 (5, b2, 0) 1 := by rw [g3 _ _ (by simp), g2 _ _ (by simp), g7 _ _ (by simp)]
    have c51 : M22_.1 (5, b2, 1) 1 = M.1 (5, b2, 1) 1 := by rw [g5 _ _ (by simp), g3 _ _ (by simp), g2 _ _ (by simp), g7 _ _ (by simp)]
    have t5 := x5takeT hs28_ hb (by rw [c50]; omega)
    have t6 := x5takeT hs35_ hb (by rw [c51]; omega)
    rw [c50] at t5
    rw [c51] at t6
    have f10 : M_73.1 (10, b, 0) 6 = M.1 (10, b2, 0) 6 := by rw [a _ _ (by simp), zupN hM45_ (by simp), zupE hM39_ rfl rfl, e37_, s29]
    have y49 := eT e50_
    rw [f10] at y49
    have F : ∀ (c : rf) (k : Nat), ¬ (c.1 = 9 ∨ c.1 = 40 ∨ c.1 = 41) → ¬ c.1 = 10 → M_73.1 c k = M29_.1 c k := fun c k h1 h2 => by rw [a c k h1, g8 c k (fun z => h2 (by rw [z]))]
    have F7 : ∀ (c : rf) (k : Nat), (c.1 = 35 ∨ c.1 = 36 ∨ c.1 = 37 ∨ c.1 = 38 ∨ c.1 = 39 ∨ c.1 = 7) → M_73.1 c k = M1_.1 c k := fun c k hc => by rw [F c k (by omega) (by omega), g6 _ _ (by omega), g5 _ _ (by omega), g3 _ _ (by omega), g2 _ _ (by omega)]
    have FT : ∀ (c : rf) (k : Nat), (c.1 = 1 ∨ c.1 = 24) → M_73.1 c k = M8_.1 c k := fun c k hc => by rw [F c k (by omega) (by omega), g6 _ _ (by omega), g5 _ _ (by omega), g3 _ _ (by omega)]
    have F3 : ∀ (c : rf) (k : Nat), (c.1 = 30 ∨ c.1 = 31 ∨ c.1 = 32) → M_73.1 c k = M15_.1 c k := fun c k hc => by rw [F c k (by omega) (by omega), g6 _ _ (by omega), g5 _ _ (by omega)]
    rw [hM_] at X1 X2 X3 X4 X5 ⊢
    refine ⟨⟨⟨X1.trans hL.1, fun k hk => (X4 k (by omega)).trans (hL.2.1 k hk), fun k hk => ⟨(X5 k hk).1.trans (hL.2.2 k hk).1, (X5 k hk).2.trans (hL.2.2 k hk).2⟩⟩, ⟨?_, fun t ht => ?_⟩, ⟨f10.trans hW.1, fun w hw => ?_⟩, fun u hu => ?_, OCC_b2 hO hN (fun k hk => ?_), hM⟩, fun l hl => ?_, fun i hi => ?_, fun i hi => ?_⟩
    · rw [F7 _ _ (by simp), t7.1]; exact hT.1
    · have g := t7.2.2 t (by omega)
      rw [F7 _ _ (by simp), F7 (37, b, 0) _ (by simp), F7 (38, b, 0) _ (by simp), F7 (39, b, 0) _ (by simp), g.1, g.2.1, g.2.2.1, g.2.2.2]
      exact hT.2 t ht
    · have g := L3 w (by omega)
      exact ⟨fun k hk => (g.1 k hk).trans ((hW.2 w hw).1 k hk), fun c hc => ⟨(g.2 c hc).1.trans ((hW.2 w hw).2 c hc).1, (g.2 c hc).2.trans ((hW.2 w hw).2 c hc).2⟩⟩
    · have g := tt u hu
      have z := TXz hN u hu
      have m1 : ∀ (c : rf) (k : Nat), c.1 = 1 ∨ c.1 = 24 → M1_.1 c k = M.1 c k := fun c k hc => g7 c k (by omega)
      rw [FT _ _ (by simp), g.1, m1 _ _ (by simp)]
      refine ⟨(hXt u hu).1, fun i hi => ?_⟩
      rw [FT _ _ (by simp), g.2 i (by omega), m1 _ _ (by simp)]
      exact (hXt u hu).2 i hi
    · rw [F7 _ _ (by simp), t7.2.1 k hk]
    · have g := t3 l (by omega)
      have m8 : ∀ (r k : Nat), r = 30 ∨ r = 31 ∨ r = 32 → M8_.1 (r, b2, 0) k = M.1 (r, b2, 0) k := fun r k hr => by rw [g2 _ _ (by dsimp only; omega), g7 _ _ (by dsimp only; omega)]
      rw [F3 _ _ (by simp), F3 (31, b, 0) _ (by simp), F3 (32, b, 0) _ (by simp), g.1, g.2.1, g.2.2, m8 _ _ (by simp), m8 _ _ (by simp), m8 _ _ (by simp)]
      exact hE l hl
    · rw [F _ _ (by simp) (by simp), g6 _ _ (by simp), t5 i (by omega), g3 _ _ (by simp), g2 _ _ (by simp), g7 _ _ (by simp)]
      exact hA i hi
    · rw [F _ _ (by simp) (by simp), t6 i (by omega), g5 _ _ (by simp), g3 _ _ (by simp), g2 _ _ (by simp), g7 _ _ (by simp)]
      exact hY i hi
end
section
/-! image, restore -/
theorem cb_35 {M M1 D D2 : mM} {r1 r2 : Int32} (h1 : SP_X11_image M r1 M1) (h2 : SP_X12_image D r2 D2) (hR : RW 0 M.1 (D.1 (50, 0, 0))) (hD : InvD D) (h4 : M.1 (5, 0, 0) 1 = D.1 (50, 0, 0) 4) (h5 : M.1 (5, 0, 1) 1 = D.1 (50, 0, 0) 5) (h8 : M.1 (11, 0, 0) 8 = D.1 (12, 0, 0) 3) : RW 0 M1.1 (D2.1 (50, 0, 0)) ∧ RW 1 M1.1 (D2.1 (51, 0, 0)) ∧ r1 = r2 := by
  have hN : NW5 (D.1 (50, 0, 0)) := hD.2.1
  refine xE_SP_X11_image h1 (fun c_M1_ _ c_hF5_ c_hs7_ c_z8_ c_e9_ c_z10_ c_h11_ c_M12_ c_hM13_ c_z16_ c_e17_ c_hr_ c_hM_ => ?_)
  refine xE_SP_X12_image h2 (fun d_M1_ _ d_hF5_ d_hs7_ d_z9_ d_e10_ d_z11_ d_h12_ d_M13_ d_hM14_ d_z17_ d_e18_ d_hr_ d_hM_ => ?_)
  have tk := RW_take (b := 1) hR hN c_hs7_ (by omega) (by rw [h4]) (by rw [h5])
  have e50 : D2.1 (50, 0, 0) = D.1 (50, 0, 0) := funext fun k => by rw [d_hM_, zupR d_hM14_ (by simp)]; exact d_hF5_ _ _ (fun q => by simp only [S_c_copy_50_51, or_false] at q; omega)
  have c51 := cpy51 d_hs7_
  have up1 : ∀ (c : rf) (k : Nat), wR c.1 → M1.1 c k = c_M1_.1 c k := fun c k a => by rw [c_hM_, zupR c_hM13_ (fun z => by unfold wR at a; omega)]
  have m50 : ∀ k, d_M1_.1 (50, 0, 0) k = D.1 (50, 0, 0) k := fun k => d_hF5_ _ _ (fun q => by simp only [S_c_copy_50_51, or_false] at q; omega)
  refine ⟨?_, ?_, ?_⟩
  · rw [e50]
    exact RW_same hR hN (fun c k a b => by rw [up1 c k a]; exact c_hF5_ c k (fun q => by simp only [S_c_X10_takeFrom, or_false] at q; omega))
  · refine RW_row (RW_same tk hN (fun c k a _ => up1 c k a)) hN (fun j hj => ?_)
    rw [d_hM_, zupR d_hM14_ (by simp), c51 j hj, m50]
  · have w1 : c_M1_.1 (11, 0, 0) 8 = M.1 (11, 0, 0) 8 := c_hF5_ _ _ (fun q => by simp only [S_c_X10_takeFrom, or_false] at q; omega)
    have w2 : d_M1_.1 (12, 0, 0) 3 = D.1 (12, 0, 0) 3 := d_hF5_ _ _ (fun q => by simp only [S_c_copy_50_51, or_false] at q; omega)
    rw [c_hr_, c_e17_, c_hM13_, up_same, c_h11_, c_e9_, w1, d_hr_, d_e18_, d_hM14_, up_same, d_h12_, d_e10_, w2, h8]
theorem cb_36 {M M1 D D2 : mM} {r1 r2 : Int32} (h1 : SP_X11_restore M r1 M1) (h2 : SP_X12_restore D r2 D2) (hR : RW 0 M.1 (D.1 (50, 0, 0))) (hD : InvD D) (h8 : M.1 (11, 0, 0) 8 = D.1 (12, 0, 0) 3) (hI : ¬ (D.1 (12, 0, 0) 3).toInt = 0 → RW 1 M.1 (D.1 (51, 0, 0)) ∧ M.1 (5, 1, 0) 1 = D.1 (51, 0, 0) 4 ∧ M.1 (5, 1, 1) 1 = D.1 (51, 0, 0) 5) : RW 0 M1.1 (D2.1 (50, 0, 0)) ∧ (¬ (D.1 (12, 0, 0) 3).toInt = 0 → RW 1 M1.1 (D2.1 (51, 0, 0))) ∧ r1 = r2 := by
  have hN : NW5 (D.1 (50, 0, 0)) := hD.2.1
  have hN1 : NW5 (D.1 (51, 0, 0)) := hD.2.2.1
  have e8 := eT h8
  refine xE_SP_X11_restore h1 (fun c_z1_ c_e2_ => ⟨(fun c_h3_ c_M4_ _ c_hF8_ c_hs10_ c_z11_ c_e12_ c_hr_ c_hM_ => ?_), (fun c_h3_ c_M14_ _ c_hF18_ c_r13_ c_hs20_ c_hr_ c_hM_ => ?_)⟩)
  · have y1 := eT c_e2_
    refine xE_SP_X12_restore h2 (fun d_z1_ d_e2_ => ⟨(fun d_h3_ d_M4_ _ d_hF8_ d_hs10_ d_z12_ d_e13_ d_hr_ d_hM_ => ?_), (fun d_h3_ d_M15_ _ d_hF19_ d_r14_ d_hs21_ d_h17_ d_hr_ d_hM_ => ?_)⟩)
    · have y2 := eT d_e2_
      obtain ⟨i1, i2, i3⟩ := hI (by omega)
      have tk := RW_take (b := 0) i1 hN1 c_hs10_ (by omega) (by rw [i2]) (by rw [i3])
      have c50 := cpy50 d_hs10_
      have m51 : ∀ k, d_M4_.1 (51, 0, 0) k = D.1 (51, 0, 0) k := fun k => d_hF8_ _ _ (fun q => by simp only [S_c_copy_51_50, or_false] at q; omega)
      have e51 : D2.1 (51, 0, 0) = D.1 (51, 0, 0) := funext fun k => by rw [d_hM_]; exact m51 k
      have R0 : RW 0 M1.1 (D2.1 (50, 0, 0)) := by
        rw [c_hM_, d_hM_]
        exact RW_row tk hN1 (fun j hj => by rw [c50 j hj, m51])
      refine ⟨R0, fun _ => ?_, ?_⟩
      · rw [e51, c_hM_]
        exact RW_same i1 hN1 (fun c k a b => c_hF8_ c k (fun q => by simp only [S_c_X10_takeFrom, or_false] at q; omega))
      · rw [c_hr_, c_e12_, d_hr_, d_e13_]
        rw [c_hM_, d_hM_] at R0
        exact R0.1.1.1
    · have y2 := eT d_e2_
      omega
  · have y1 := eT c_e2_
    refine xE_SP_X12_restore h2 (fun d_z1_ d_e2_ => ⟨(fun d_h3_ d_M4_ _ d_hF8_ d_hs10_ d_z12_ d_e13_ d_hr_ d_hM_ => ?_), (fun d_h3_ d_M15_ _ d_hF19_ d_r14_ d_hs21_ d_h17_ d_hr_ d_hM_ => ?_)⟩)
    · have y2 := eT d_e2_
      omega
    · refine ⟨sameE hR hN c_hF18_ c_hM_ d_hF19_ d_hM_, fun q => ?_, i32e ?_⟩
      · have y2 := eT d_e2_
        omega
      · have e := err_r c_hs20_ (by first | decide | simp | (dsimp only; omega))
        rw [c_hr_, d_hr_, e, d_h17_]
        decide
end
