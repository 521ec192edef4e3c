/-! learn(): the rows tried on both sides -/
theorem bt_1w : ∀ k, k < 32 → bt 1 k = decide (k = 0) := by decide +kernel
theorem b_extL {x y : Int32} (h : ∀ i, i < 32 → bt x i = bt y i) : x = y := Int32.toBitVec_inj.mp (BitVec.eq_of_getLsbD_eq (fun i hi => h i hi))
theorem bit_eqC {u : Int32} {n : Nat} (hn : n < 7) : (u &&& ((1 : Int32) <<< (nI n &&& 31))).toInt = 0 ↔ bt u n = false := by
  constructor
  · intro h
    have h0 : u &&& ((1 : Int32) <<< (nI n &&& 31)) = 0 := Int32.toInt_inj.mp h
    have h1 : bt (u &&& ((1 : Int32) <<< (nI n &&& 31))) n = false := by rw [h0]; exact b_0 n
    rw [b_and, b_shl n (by omega) 1 (by omega), Nat.sub_self, bt_1w 0 (by omega)] at h1
    simpa using h1
  · intro h
    have h0 : u &&& ((1 : Int32) <<< (nI n &&& 31)) = 0 := b_extL (fun i hi => by
      rw [b_0, b_and, b_shl n (by omega) 1 hi, bt_1w (i - n) (by omega)]
      by_cases q : i = n
      · subst q; simp [h]
      · rcases Nat.lt_or_ge i n with q2 | q2
        · simp [Nat.not_le.mpr q2]
        · have q3 : ¬ i - n = 0 := by omega
          simp [q3])
    rw [h0]; rfl
theorem bit_eqD {u : Int32} {n : Nat} (hn : n < 7) : ((u >>> (nI n &&& 31)) &&& 1).toInt = 0 ↔ bt u n = false := by
  constructor
  · intro h
    have h0 : (u >>> (nI n &&& 31)) &&& 1 = 0 := Int32.toInt_inj.mp h
    have h1 : bt ((u >>> (nI n &&& 31)) &&& 1) 0 = false := by rw [h0]; exact b_0 0
    rw [b_and, b_sshr n (by omega) u (by omega), if_pos (by omega), bt_1w 0 (by omega)] at h1
    simpa using h1
  · intro h
    have h0 : (u >>> (nI n &&& 31)) &&& 1 = 0 := b_extL (fun i hi => by
      rw [b_0, b_and, bt_1w i hi]
      by_cases q : i = 0
      · subst q
        rw [b_sshr n (by omega) u (by omega), if_pos (by omega)]
        simp [h]
      · simp [q])
    rw [h0]; rfl
theorem bit_eq {u l : Int32} (hl : 0 ≤ l.toInt ∧ l.toInt ≤ 6) : (u &&& ((1 : Int32) <<< (l &&& 31))).toInt = 0 ↔ ((u >>> (l &&& 31)) &&& 1).toInt = 0 := by
  obtain ⟨n, hn⟩ : ∃ n : Nat, l.toInt = (n : Int) := ⟨l.toInt.toNat, by omega⟩
  have hn7 : n < 7 := by omega
  have e : l = nI n := nI_of_toInt hn
  subst e
  exact (bit_eqC hn7).trans (bit_eqD hn7).symm
theorem x5takeL {M M1 : mM} (h : SP_X5_takeFrom 0 3 0 2 M M1) (hs : 0 ≤ (M.1 (5, 0, 2) 1).toInt ∧ (M.1 (5, 0, 2) 1).toInt ≤ 7) : M1.1 (5, 0, 3) 1 = M.1 (5, 0, 2) 1 ∧ (∀ i : Nat, (i : Int) < (M.1 (5, 0, 2) 1).toInt → M1.1 (33, 0, 3) i = M.1 (33, 0, 2) i) ∧ ∀ (c : rf) (k : Nat), ¬ c = (5, 0, 3) → ¬ c = (33, 0, 3) → M1.1 c k = M.1 c k := by
  have q0 := il_0
  have r3 : rl 3 = 7 := rfl
  have r2 : rl 2 = 7 := rfl
  refine xE_SP_X5_takeFrom h (fun z1_ e2_ z3_ h4_ z5_ h6_ M7_ hM8_ v2_18 hv0_18 M_18 hL_18 _ hF_18 z13_ e14_ h15_ h16_ hM_ => ?_)
  have y := eT e2_
  have c7 : ∀ (c : rf) (k : Nat), ¬ c = (5, 0, 3) → M7_.1 c k = M.1 c k := fun c k hc => zupN hM8_ (fun z => hc z.1)
  have nb : ∀ r : Nat, ¬ ((r, 0, 2) : rf) = (r, 0, 3) := fun r z => absurd (congrArg (fun c : rf => c.2.2) z) (show ¬ (2 : Nat) = 3 by omega)
  have g := rind hL_18 (fun z => 0 ≤ z.1.toInt ∧ (∀ (c : rf) (k : Nat), ¬ c = (33, 0, 3) → z.2.1 c k = M7_.1 c k) ∧ ∀ i : Nat, (i : Int) < z.1.toInt → z.2.1 (33, 0, 3) i = M.1 (33, 0, 2) i) ⟨by dsimp only; omega, fun _ _ _ => rfl, fun i hi => by dsimp only at hi; omega⟩ (fun x z p st => by
    (try dsimp only at p st ⊢)
    obtain ⟨p1, p2, p3⟩ := p
    refine xE_ST_X5_takeFrom_18 st (fun k_hv0_18 _ k_hF_18 k_z13_ k_e14_ k_h15_ k_h16_ k_r17_ k_hs21_ k_j24_ k_h25_ k_M22_ k_hM23_ k_z29_ k_h30_ k_hq_v2_18y k_hM_ => ?_)
    have e := eT k_hq_v2_18y
    have y2 := eT k_e14_
    rw [p2 _ _ (cne (by omega)), zupE hM8_ rfl rfl] at y2
    have gt : k_r17_ = x.2.1 (33, 0, 2) x.1.toInt.toNat := by
      refine xE_SP_X5_get k_hs21_ ⟨(fun m_h1_ m_hr_ => ?_), (fun m_h1_ m_z2_ m_e3_ => ⟨(fun m_h4_ m_hr_ => ?_), (fun m_h4_ m_z5_ m_h6_ => ⟨(fun m_h7_ m_hr_ => ?_), (fun m_h7_ m_j10_ m_h11_ m_z8_ m_e9_ m_hr_ => ?_)⟩)⟩)⟩
      · omega
      · have := eT m_e3_
        rw [p2 _ _ (cne (by omega)), c7 _ _ (nb 5)] at this
        omega
      · omega
      · rw [m_hr_, m_e9_, show m_j10_ = x.1.toInt.toNat by omega]
    rw [k_hM_]
    refine ⟨by omega, fun c k hc => ?_, fun i hi => ?_⟩
    · rw [zupN k_hM23_ (fun z => hc z.1)]; exact p2 c k hc
    · by_cases e2 : (i : Int) = x.1.toInt
      · rw [zupE k_hM23_ rfl (by omega), gt, p2 _ _ (nb 33), c7 _ _ (cne (by omega)), show x.1.toInt.toNat = i by omega]
      · rw [zupN k_hM23_ (fun z => by have := z.2; omega)]; exact p3 i (by omega))
  (try dsimp only at g)
  obtain ⟨g1, g2, g3⟩ := g
  have y3 := eT e14_
  rw [g2 _ _ (cne (by omega)), zupE hM8_ rfl rfl] at y3
  rw [hM_]
  refine ⟨?_, fun i hi => g3 i (by omega), fun c k n1 n2 => by rw [g2 _ _ n2]; exact c7 _ _ n1⟩
  rw [g2 _ _ (cne (by omega)), zupE hM8_ rfl rfl]
  exact i32e (by omega)
theorem cp62_56 {v z : Int32} {M0 M M1 : mM} (h : RCH (fun x_ y_ => ST_X12_tryRows_56 v M0 x_.1 x_.2 y_.1 y_.2) ((0 : Int32), M) (z, M1)) : (∀ (c : rf) (k : Nat), ¬ c = (63, 0, 0) → M1.1 c k = M.1 c k) ∧ ∀ i : Nat, (i : Int) < z.toInt → M1.1 (63, 0, 0) i = M.1 (62, 0, 0) i := by
  have q0 := il_0
  have g := rind h (fun z => 0 ≤ z.1.toInt ∧ (∀ (c : rf) (k : Nat), ¬ c = (63, 0, 0) → z.2.1 c k = M.1 c k) ∧ ∀ i : Nat, (i : Int) < z.1.toInt → z.2.1 (63, 0, 0) i = M.1 (62, 0, 0) i) ⟨by dsimp only; omega, fun _ _ _ => rfl, fun i hi => by dsimp only at hi; omega⟩ (fun x z p st => by
    (try dsimp only at p st ⊢)
    obtain ⟨p1, p2, p3⟩ := p
    refine xE_ST_X12_tryRows_56 st (fun k_hv0_56 _ k_hF_56 k_h159_ k_j162_ k_h163_ k_z160_ k_e161_ k_j166_ k_h167_ k_M164_ k_hM165_ k_z170_ k_h171_ k_hq_v6_56y k_hM_ => ?_)
    have e := eT k_hq_v6_56y
    rw [k_hM_]
    refine ⟨by omega, fun c k hc => ?_, fun i hi => ?_⟩
    · rw [zupN k_hM165_ (fun z => hc z.1)]; exact p2 c k hc
    · by_cases e2 : (i : Int) = x.1.toInt
      · rw [zupE k_hM165_ rfl (by omega), k_e161_, p2 _ _ (cne (by omega)), show k_j162_ = i by omega]
      · rw [zupN k_hM165_ (fun z => by have := z.2; omega)]; exact p3 i (by omega))
  (try dsimp only at g)
  exact g.2
theorem cp62_56b {v z : Int32} {M0 M M1 : mM} (h : RCH (fun x_ y_ => ST_X12_tryRows_56b v M0 x_.1 x_.2 y_.1 y_.2) ((0 : Int32), M) (z, M1)) : (∀ (c : rf) (k : Nat), ¬ c = (63, 0, 0) → M1.1 c k = M.1 c k) ∧ ∀ i : Nat, (i : Int) < z.toInt → M1.1 (63, 0, 0) i = M.1 (62, 0, 0) i := by
  have q0 := il_0
  have g := rind h (fun z => 0 ≤ z.1.toInt ∧ (∀ (c : rf) (k : Nat), ¬ c = (63, 0, 0) → z.2.1 c k = M.1 c k) ∧ ∀ i : Nat, (i : Int) < z.1.toInt → z.2.1 (63, 0, 0) i = M.1 (62, 0, 0) i) ⟨by dsimp only; omega, fun _ _ _ => rfl, fun i hi => by dsimp only at hi; omega⟩ (fun x z p st => by
    (try dsimp only at p st ⊢)
    obtain ⟨p1, p2, p3⟩ := p
    refine xE_ST_X12_tryRows_56b st (fun k_hv0_56 _ k_hF_56 k_h184_ k_j187_ k_h188_ k_z185_ k_e186_ k_j191_ k_h192_ k_M189_ k_hM190_ k_z195_ k_h196_ k_hq_v6_56y k_hM_ => ?_)
    have e := eT k_hq_v6_56y
    rw [k_hM_]
    refine ⟨by omega, fun c k hc => ?_, fun i hi => ?_⟩
    · rw [zupN k_hM190_ (fun z => hc z.1)]; exact p2 c k hc
    · by_cases e2 : (i : Int) = x.1.toInt
      · rw [zupE k_hM190_ rfl (by omega), k_e186_, p2 _ _ (cne (by omega)), show k_j187_ = i by omega]
      · rw [zupN k_hM190_ (fun z => by have := z.2; omega)]; exact p3 i (by omega))
  (try dsimp only at g)
  exact g.2
theorem cp62_56c {v z : Int32} {M0 M M1 : mM} (h : RCH (fun x_ y_ => ST_X12_tryRows_56c v M0 x_.1 x_.2 y_.1 y_.2) ((0 : Int32), M) (z, M1)) : (∀ (c : rf) (k : Nat), ¬ c = (63, 0, 0) → M1.1 c k = M.1 c k) ∧ ∀ i : Nat, (i : Int) < z.toInt → M1.1 (63, 0, 0) i = M.1 (62, 0, 0) i := by
  have q0 := il_0
  have g := rind h (fun z => 0 ≤ z.1.toInt ∧ (∀ (c : rf) (k : Nat), ¬ c = (63, 0, 0) → z.2.1 c k = M.1 c k) ∧ ∀ i : Nat, (i : Int) < z.1.toInt → z.2.1 (63, 0, 0) i = M.1 (62, 0, 0) i) ⟨by dsimp only; omega, fun _ _ _ => rfl, fun i hi => by dsimp only at hi; omega⟩ (fun x z p st => by
    (try dsimp only at p st ⊢)
    obtain ⟨p1, p2, p3⟩ := p
    refine xE_ST_X12_tryRows_56c st (fun k_hv0_56 _ k_hF_56 k_h212_ k_j215_ k_h216_ k_z213_ k_e214_ k_j219_ k_h220_ k_M217_ k_hM218_ k_z223_ k_h224_ k_hq_v6_56y k_hM_ => ?_)
    have e := eT k_hq_v6_56y
    rw [k_hM_]
    refine ⟨by omega, fun c k hc => ?_, fun i hi => ?_⟩
    · rw [zupN k_hM218_ (fun z => hc z.1)]; exact p2 c k hc
    · by_cases e2 : (i : Int) = x.1.toInt
      · rw [zupE k_hM218_ rfl (by omega), k_e214_, p2 _ _ (cne (by omega)), show k_j215_ = i by omega]
      · rw [zupN k_hM218_ (fun z => by have := z.2; omega)]; exact p3 i (by omega))
  (try dsimp only at g)
  exact g.2
theorem x3better {v r : Int32} {M : mM} (h : SP_X3_isBetter 0 v M r) : (¬ r.toInt = 0 ∧ (v.toInt < (M.1 (3, 0, 0) 7).toInt ∨ (v.toInt = (M.1 (3, 0, 0) 7).toInt ∧ (M.1 (5, 0, 2) 1).toInt < (M.1 (5, 0, 3) 1).toInt))) ∨ (r.toInt = 0 ∧ ¬ (v.toInt < (M.1 (3, 0, 0) 7).toInt ∨ (v.toInt = (M.1 (3, 0, 0) 7).toInt ∧ (M.1 (5, 0, 2) 1).toInt < (M.1 (5, 0, 3) 1).toInt))) := by
  have q0 := il_0
  have q1 := il_1
  refine xE_SP_X3_isBetter h (fun z1_ e2_ => ⟨(fun h3_ hr_ => ?_), (fun h3_ => ⟨(fun h6_ hr_ => ?_), (fun h6_ z7_ e8_ z9_ e10_ => ⟨(fun h11_ hr_ => ?_), (fun h11_ hr_ => ?_)⟩)⟩)⟩)
  · have a := eT e2_
    have b := eT hr_
    omega
  · have a := eT e2_
    have b := eT hr_
    omega
  · have a := eT e2_
    have b := eT hr_
    have c := eT e8_
    have d := eT e10_
    omega
  · have a := eT e2_
    have b := eT hr_
    have c := eT e8_
    have d := eT e10_
    omega
def LBC (t : Int32) (M : mM) : Prop := (M.1 (3, 0, 0) 8).toInt = 0 ∨ t.toInt < (M.1 (3, 0, 0) 7).toInt ∨ (t.toInt = (M.1 (3, 0, 0) 7).toInt ∧ (M.1 (5, 0, 2) 1).toInt < (M.1 (5, 0, 3) 1).toInt)
def LBD (v q : Int32) (M : mM) : Prop := (M.1 (12, 0, 0) 22).toInt < 0 ∨ q.toInt < (M.1 (12, 0, 0) 23).toInt ∨ (q.toInt = (M.1 (12, 0, 0) 23).toInt ∧ v.toInt < (M.1 (12, 0, 0) 22).toInt)
theorem tryC_goal {N m : Nat} {QR : Nat → Int32 → Int32 → Int32 → mM → mM → Prop} {v u t : Int32} {M M1 : mM} (h : SP_X3_tryRows N m QR 0 v u t M M1) (hg : (M.1 (3, 0, 0) 6 &&& (v ^^^ ((-1) : Int32))).toInt = 0) (hs : 0 ≤ (M.1 (5, 0, 2) 1).toInt ∧ (M.1 (5, 0, 2) 1).toInt ≤ 7) :
    (LBC t M ∧ ¬ (M1.1 (3, 0, 0) 8).toInt = 0 ∧ M1.1 (3, 0, 0) 7 = t ∧ M1.1 (5, 0, 3) 1 = M.1 (5, 0, 2) 1 ∧ (∀ i : Nat, (i : Int) < (M.1 (5, 0, 2) 1).toInt → M1.1 (33, 0, 3) i = M.1 (33, 0, 2) i) ∧ M1.1 (5, 0, 2) 1 = M.1 (5, 0, 2) 1 ∧ ∀ i : Nat, M1.1 (33, 0, 2) i = M.1 (33, 0, 2) i) ∨ (¬ LBC t M ∧ M1 = M) := by
  have q0 := il_0
  have q1 := il_1
  have nf : ∀ {z5 z3 z1 : Int32}, z1 = M.1 (3, 0, 0) 6 → z3 = v ^^^ ((-1) : Int32) → z5 = z1 &&& z3 → ¬ z5.toInt = 0 → False := fun e1 e3 e5 n => n (by rw [e5, e1, e3]; exact hg)
  have fin : ∀ {A B C : mM}, A = up M (3, 0, 0) 8 1 → B = up A (3, 0, 0) 7 t → SP_X5_takeFrom 0 3 0 2 B C → ¬ (C.1 (3, 0, 0) 8).toInt = 0 ∧ C.1 (3, 0, 0) 7 = t ∧ C.1 (5, 0, 3) 1 = M.1 (5, 0, 2) 1 ∧ (∀ i : Nat, (i : Int) < (M.1 (5, 0, 2) 1).toInt → C.1 (33, 0, 3) i = M.1 (33, 0, 2) i) ∧ C.1 (5, 0, 2) 1 = M.1 (5, 0, 2) 1 ∧ ∀ i : Nat, C.1 (33, 0, 2) i = M.1 (33, 0, 2) i := fun {A B C} hA hB hC => by
    have bb : ∀ (r w k : Nat), ¬ r = 3 → B.1 (r, 0, w) k = M.1 (r, 0, w) k := fun r w k hr => by rw [zupN hB (fun z => cne hr z.1), zupN hA (fun z => cne hr z.1)]
    have T := x5takeL hC (by rw [bb 5 2 1 (by omega)]; exact hs)
    rw [bb 5 2 1 (by omega)] at T
    obtain ⟨t1, t2, t3⟩ := T
    have nn : ∀ r : Nat, ¬ ((r, 0, 2) : rf) = (r, 0, 3) := fun r z => absurd (congrArg (fun c : rf => c.2.2) z) (show ¬ (2 : Nat) = 3 by omega)
    refine ⟨?_, ?_, t1, fun i hi => by rw [t2 i hi, bb 33 2 i (by omega)], ?_, fun i => ?_⟩
    · rw [t3 _ _ (cne (by omega)) (cne (by omega)), zupN hB (fun z => absurd z.2 (by omega)), zupE hA rfl rfl]; omega
    · rw [t3 _ _ (cne (by omega)) (cne (by omega)), zupE hB rfl rfl]
    · rw [t3 _ _ (nn 5) (cne (by omega)), bb 5 2 1 (by omega)]
    · rw [t3 _ _ (cne (by omega)) (nn 33), bb 33 2 i (by omega)]
  refine xE_SP_X3_tryRows h (fun z1_ e2_ z3_ h4_ z5_ h6_ => ⟨(fun h7_ r8_ hs12_ h11_ => ⟨(fun h13_ hM_ => ?_), (fun h13_ z14_ e15_ h16_ => ⟨(fun h17_ v4_77 hv0_77 M_77 hL_77 _ hF_77 z19_ e20_ => ⟨(fun h21_ hM_ => ?_), (fun h21_ h22_ hM_ => ?_)⟩), (fun h17_ z81_ e82_ => ⟨(fun h83_ v4_77 hv0_77 M_77 hL_77 _ hF_77 z85_ e86_ => ⟨(fun h87_ hM_ => ?_), (fun h87_ h88_ hM_ => ?_)⟩), (fun h83_ hM_ => ?_)⟩)⟩)⟩), (fun h7_ z147_ e148_ h149_ => ⟨(fun h150_ M151_ hM152_ M156_ hM157_ _ M161_ _ hF165_ hs167_ hM_ => ?_), (fun h150_ r169_ hs173_ h172_ => ⟨(fun h174_ hM_ => ?_), (fun h174_ M175_ hM176_ M180_ hM181_ _ M185_ _ hF189_ hs191_ hM_ => ?_)⟩)⟩)⟩)
  · exact (nf e2_ h4_ h6_ h7_).elim
  · exact (nf e2_ h4_ h6_ h7_).elim
  · exact (nf e2_ h4_ h6_ h7_).elim
  · exact (nf e2_ h4_ h6_ h7_).elim
  · exact (nf e2_ h4_ h6_ h7_).elim
  · exact (nf e2_ h4_ h6_ h7_).elim
  · have a := eT e148_
    rw [hM_]
    exact Or.inl ⟨Or.inl (by omega), fin hM152_ hM157_ hs167_⟩
  · have a := eT e148_
    have b := x3better hs173_
    refine Or.inr ⟨?_, hM_⟩
    unfold LBC
    omega
  · have a := eT e148_
    have b := x3better hs173_
    rw [hM_]
    refine Or.inl ⟨?_, fin hM176_ hM181_ hs191_⟩
    unfold LBC
    omega
theorem tryD_goal {N m : Nat} {QD : Int32 → Int32 → Int32 → Int32 → Int32 → mM → mM → Prop} {v u t s q : Int32} {M M1 : mM} (h : SP_X12_tryRows N m QD v u t s q M M1) (hg : (s &&& (t ^^^ ((-1) : Int32))).toInt = 0) :
    (LBD v q M ∧ M1.1 (12, 0, 0) 22 = v ∧ M1.1 (12, 0, 0) 23 = q ∧ (∀ i : Nat, M1.1 (62, 0, 0) i = M.1 (62, 0, 0) i) ∧ ∀ i : Nat, (i : Int) < v.toInt → M1.1 (63, 0, 0) i = M.1 (62, 0, 0) i) ∨ (¬ LBD v q M ∧ M1 = M) := by
  have fin : ∀ {A B C : mM} {z : Int32}, A = up M (12, 0, 0) 22 v → B = up A (12, 0, 0) 23 q → v.toInt ≤ z.toInt → ((∀ (c : rf) (k : Nat), ¬ c = (63, 0, 0) → C.1 c k = B.1 c k) ∧ ∀ i : Nat, (i : Int) < z.toInt → C.1 (63, 0, 0) i = B.1 (62, 0, 0) i) → C.1 (12, 0, 0) 22 = v ∧ C.1 (12, 0, 0) 23 = q ∧ (∀ i : Nat, C.1 (62, 0, 0) i = M.1 (62, 0, 0) i) ∧ ∀ i : Nat, (i : Int) < v.toInt → C.1 (63, 0, 0) i = M.1 (62, 0, 0) i := fun {A B C z} hA hB hz hC => by
    have bb : ∀ k : Nat, B.1 (62, 0, 0) k = M.1 (62, 0, 0) k := fun k => by rw [zupN hB (fun z => cne (by omega) z.1), zupN hA (fun z => cne (by omega) z.1)]
    refine ⟨?_, ?_, fun i => ?_, fun i hi => ?_⟩
    · rw [hC.1 _ _ (cne (by omega)), zupN hB (fun z => absurd z.2 (by omega)), zupE hA rfl rfl]
    · rw [hC.1 _ _ (cne (by omega)), zupE hB rfl rfl]
    · rw [hC.1 _ _ (cne (by omega)), bb]
    · rw [hC.2 i (by omega), bb]
  refine xE_SP_X12_tryRows h (fun z1_ h2_ z3_ h4_ => ⟨(fun h5_ v6_86 hv0_86 M_86 hL_86 _ hF_86 z7_ e8_ h9_ h10_ hM_ => ?_), (fun h5_ z146_ e147_ h148_ => ⟨(fun h149_ M150_ hM151_ M154_ hM155_ v6_56 hv0_56 M_56 hL_56 _ hF_56 h159_ hM_ => ?_), (fun h149_ z172_ e173_ => ⟨(fun h174_ M175_ hM176_ M179_ hM180_ v6_56 hv0_56 M_56 hL_56 _ hF_56 h184_ hM_ => ?_), (fun h174_ => ⟨(fun h199_ hM_ => ?_), (fun h199_ => ⟨(fun h202_ hM_ => ?_), (fun h202_ M203_ hM204_ M207_ hM208_ v6_56 hv0_56 M_56 hL_56 _ hF_56 h212_ hM_ => ?_)⟩)⟩)⟩)⟩)⟩)
  · exact absurd (by rw [h4_, h2_]; exact hg) h5_
  · have a := eT e147_
    rw [hM_]
    refine Or.inl ⟨?_, fin hM151_ hM155_ h159_ (cp62_56 hL_56)⟩
    unfold LBD
    omega
  · have a := eT e147_
    have b := eT e173_
    rw [hM_]
    refine Or.inl ⟨?_, fin hM176_ hM180_ h184_ (cp62_56b hL_56)⟩
    unfold LBD
    omega
  · have a := eT e147_
    have b := eT e173_
    refine Or.inr ⟨?_, hM_⟩
    unfold LBD
    omega
  · have a := eT e147_
    have b := eT e173_
    refine Or.inr ⟨?_, hM_⟩
    unfold LBD
    omega
  · have a := eT e147_
    have b := eT e173_
    rw [hM_]
    refine Or.inl ⟨?_, fin hM204_ hM208_ h212_ (cp62_56c hL_56)⟩
    unfold LBD
    omega
/-- the best on both sides; the path; what the search reads -/
def LRN (C D : mM) : Prop := ((C.1 (3, 0, 0) 8).toInt = 0 ∧ (D.1 (12, 0, 0) 22).toInt < 0) ∨ (¬ (C.1 (3, 0, 0) 8).toInt = 0 ∧ 0 ≤ (D.1 (12, 0, 0) 22).toInt ∧ (D.1 (12, 0, 0) 22).toInt ≤ 7 ∧ C.1 (3, 0, 0) 7 = D.1 (12, 0, 0) 23 ∧ C.1 (5, 0, 3) 1 = D.1 (12, 0, 0) 22 ∧ ∀ i : Nat, (i : Int) < (D.1 (12, 0, 0) 22).toInt → C.1 (33, 0, 3) i = D.1 (63, 0, 0) i)
def LRP (k : Int) (C D : mM) : Prop := (C.1 (5, 0, 2) 1).toInt = k ∧ ∀ i : Nat, (i : Int) < k → C.1 (33, 0, 2) i = D.1 (62, 0, 0) i
def LRL (s : Int32) (C D : mM) : Prop := C.1 (3, 0, 0) 6 = s ∧ C.1 (3, 0, 0) 3 = D.1 (50, 0, 0) 3 ∧ LER 0 C.1 (D.1 (50, 0, 0))
theorem LRL_fr {s : Int32} {C C2 D D2 : mM} (h : LRL s C D) (hc : ∀ (c : rf) (k : Nat), (c.1 = 3 ∧ (k = 6 ∨ k = 3)) ∨ c.1 = 30 ∨ c.1 = 31 ∨ c.1 = 32 → C2.1 c k = C.1 c k) (hd : ∀ k, D2.1 (50, 0, 0) k = D.1 (50, 0, 0) k) : LRL s C2 D2 := by
  obtain ⟨h1, h2, h3⟩ := h
  refine ⟨by rw [hc (3, 0, 0) 6 (Or.inl ⟨rfl, Or.inl rfl⟩)]; exact h1, by rw [hc (3, 0, 0) 3 (Or.inl ⟨rfl, Or.inr rfl⟩), hd]; exact h2, fun l hl => ?_⟩
  rw [hd] at hl
  have a := h3 l hl
  rw [hc (30, 0, 0) l (Or.inr (Or.inl rfl)), hc (31, 0, 0) l (Or.inr (Or.inr (Or.inl rfl))), hc (32, 0, 0) l (Or.inr (Or.inr (Or.inr rfl))), hd, hd, hd]
  exact a
theorem LRN_fr {C C2 D D2 : mM} (h : LRN C D) (h7 : C2.1 (3, 0, 0) 7 = C.1 (3, 0, 0) 7) (h8 : C2.1 (3, 0, 0) 8 = C.1 (3, 0, 0) 8) (h5 : C2.1 (5, 0, 3) 1 = C.1 (5, 0, 3) 1) (h33 : ∀ i : Nat, C2.1 (33, 0, 3) i = C.1 (33, 0, 3) i) (d22 : D2.1 (12, 0, 0) 22 = D.1 (12, 0, 0) 22) (d23 : D2.1 (12, 0, 0) 23 = D.1 (12, 0, 0) 23) (d63 : ∀ i : Nat, D2.1 (63, 0, 0) i = D.1 (63, 0, 0) i) : LRN C2 D2 := by
  unfold LRN at h ⊢
  rw [h7, h8, h5, d22, d23]
  rcases h with h | ⟨a, b, c, d, f, g⟩
  · exact Or.inl h
  · exact Or.inr ⟨a, b, c, d, f, fun i hi => by rw [h33, d63]; exact g i hi⟩
def LRQ (QR : Nat → Int32 → Int32 → Int32 → mM → mM → Prop) (QD : Int32 → Int32 → Int32 → Int32 → Int32 → mM → mM → Prop) (k : Int) : Prop := ∀ (v u t s dep : Int32) (C C2 D D2 : mM), QR 0 v u t C C2 → QD dep u v s t D D2 → dep.toInt = k → LRL s C D → LRP k C D → LRN C D → (¬ (C.1 (3, 0, 0) 8).toInt = 0 → t.toInt ≤ (C.1 (3, 0, 0) 7).toInt) → LRP k C2 D2 ∧ LRN C2 D2
def LNO (QR : Nat → Int32 → Int32 → Int32 → mM → mM → Prop) : Prop := ∀ (v u t : Int32) (C C2 : mM), QR 0 v u t C C2 → ¬ (C.1 (3, 0, 0) 8).toInt = 0 → (C.1 (3, 0, 0) 7).toInt < t.toInt → C2 = C
theorem learn_no {N m : Nat} {QR : Nat → Int32 → Int32 → Int32 → mM → mM → Prop} : LNO (SP_X3_tryRows N m QR) := by
  intro v u t C C2 h h8 h7
  refine xE_SP_X3_tryRows h (fun z1_ e2_ z3_ h4_ z5_ h6_ => ⟨(fun h7_ r8_ hs12_ h11_ => ⟨(fun h13_ hM_ => ?_), (fun h13_ z14_ e15_ h16_ => ⟨(fun h17_ v4_77 hv0_77 M_77 hL_77 _ hF_77 z19_ e20_ => ⟨(fun h21_ hM_ => ?_), (fun h21_ h22_ hM_ => ?_)⟩), (fun h17_ z81_ e82_ => ⟨(fun h83_ v4_77 hv0_77 M_77 hL_77 _ hF_77 z85_ e86_ => ⟨(fun h87_ hM_ => ?_), (fun h87_ h88_ hM_ => ?_)⟩), (fun h83_ hM_ => ?_)⟩)⟩)⟩), (fun h7_ z147_ e148_ h149_ => ⟨(fun h150_ M151_ hM152_ M156_ hM157_ _ M161_ _ hF165_ hs167_ hM_ => ?_), (fun h150_ r169_ hs173_ h172_ => ⟨(fun h174_ hM_ => ?_), (fun h174_ M175_ hM176_ M180_ hM181_ _ M185_ _ hF189_ hs191_ hM_ => ?_)⟩)⟩)⟩)
  · exact hM_
  · exact absurd h17_ (by rw [e15_]; exact h8)
  · exact absurd h17_ (by rw [e15_]; exact h8)
  · exact absurd h83_ (by rw [e82_]; omega)
  · exact absurd h83_ (by rw [e82_]; omega)
  · exact hM_
  · exact absurd h150_ (by rw [e148_]; exact h8)
  · exact hM_
  · have b := x3better hs173_
    omega
theorem learn_goal {N m N2 m2 : Nat} {QR : Nat → Int32 → Int32 → Int32 → mM → mM → Prop} {QD : Int32 → Int32 → Int32 → Int32 → Int32 → mM → mM → Prop} {v u t s dep : Int32} {C C2 D D2 : mM} {k : Int} (h1 : SP_X3_tryRows N m QR 0 v u t C C2) (h2 : SP_X12_tryRows N2 m2 QD dep u v s t D D2) (hk : dep.toInt = k) (h07 : 0 ≤ k ∧ k ≤ 7) (hL : LRL s C D) (hP : LRP k C D) (hN : LRN C D) (hg : (s &&& (v ^^^ ((-1) : Int32))).toInt = 0) : LRP k C2 D2 ∧ LRN C2 D2 := by
  obtain ⟨p1, p2⟩ := hP
  have a := tryC_goal h1 (by rw [hL.1]; exact hg) (by omega)
  have b := tryD_goal h2 hg
  have cond : LBC t C ↔ LBD dep t D := by
    unfold LBC LBD
    rcases hN with ⟨n1, n2⟩ | ⟨n1, n2, n3, n4, n5, n6⟩
    · omega
    · have a4 := eT n4
      have a5 := eT n5
      omega
  rcases a with ⟨a1, a2, a3, a4, a5, a6, a7⟩ | ⟨a1, a2⟩
  · rcases b with ⟨b1, b2, b3, b4, b5⟩ | ⟨b1, b2⟩
    · refine ⟨⟨by rw [a6]; exact p1, fun i hi => by rw [a7, b4]; exact p2 i hi⟩, Or.inr ⟨a2, by rw [b2]; omega, by rw [b2]; omega, by rw [a3, b3], by rw [a4, b2]; exact i32e (by omega), fun i hi => ?_⟩⟩
      rw [b2] at hi
      rw [a5 i (by omega), b5 i hi]
      exact p2 i (by omega)
    · exact absurd (cond.mp a1) b1
  · rcases b with ⟨b1, b2, b3, b4, b5⟩ | ⟨b1, b2⟩
    · exact absurd (cond.mpr b1) a1
    · rw [a2, b2]; exact ⟨⟨p1, p2⟩, hN⟩
theorem learn_row {m : Nat} {QR : Nat → Int32 → Int32 → Int32 → mM → mM → Prop} {QD : Int32 → Int32 → Int32 → Int32 → Int32 → mM → mM → Prop} {v u t s dep i i2 j j2 : Int32} {C0 D0 A A2 B B2 : mM} (hA : 1 ≤ m → LRQ QR QD (8 - (m : Int))) (hB : LNO QR) (hm : m ≤ 7) (hk : dep.toInt = 7 - (m : Int)) (h1 : ST_X3_tryRows_77 m QR 0 v u t C0 i A i2 A2) (h2 : ST_X12_tryRows_86 m QD dep u v s t D0 j B j2 B2) (hij : i.toInt = j.toInt) (hL : LRL s A B) (hP : LRP (7 - (m : Int)) A B) (hN : LRN A B) : i2.toInt = j2.toInt ∧ LRL s A2 B2 ∧ LRP (7 - (m : Int)) A2 B2 ∧ LRN A2 B2 := by
  rw [← i32e hij] at h2
  have hL0 := hL
  obtain ⟨l1, l2, l3⟩ := hL
  have key : ∀ {j5 : Nat}, ((j5 : Int) = i.toInt) → 0 ≤ i.toInt → i.toInt < (B.1 (50, 0, 0) 3).toInt → A.1 (30, 0, 0) j5 = B.1 (50, 0, 0) (252 + 3 * j5) ∧ A.1 (31, 0, 0) j5 = B.1 (50, 0, 0) (253 + 3 * j5) ∧ A.1 (32, 0, 0) j5 = B.1 (50, 0, 0) (254 + 3 * j5) := fun {j5} a b c => l3 j5 (by omega)
  refine xE_ST_X3_tryRows_77 h1 (fun a_hv0_77 _ a_hF_77 a_z19_ a_e20_ a_h21_ a_h22_ a_z23_ a_h24_ a_z25_ a_h26_ => ⟨(fun a_h27_ a_z28_ a_h29_ a_hq_v4_77y a_hM_ => ?_), (fun a_h27_ a_j32_ a_h33_ a_z30_ a_e31_ a_z34_ a_h35_ a_z36_ a_h37_ => ⟨(fun a_h38_ a_z39_ a_h40_ a_hq_v4_77y a_hM_ => ?_), (fun a_h38_ a_M41_ _ a_hF45_ a_hs47_ a_h43_ a_j50_ a_h51_ a_z48_ a_e49_ a_z52_ a_h53_ a_z54_ a_h55_ a_z56_ a_h57_ a_j60_ a_h61_ a_z58_ a_e59_ a_z62_ a_h63_ a_M64_ _ a_hF68_ a_hs70_ a_h66_ a_M71_ _ a_hF75_ a_hs77_ a_z79_ a_h80_ a_hq_v4_77y a_hM_ => ?_)⟩)⟩)
  · have ea := eT a_hq_v4_77y
    refine xE_ST_X12_tryRows_86 h2 (fun b_hv0_86 _ b_hF_86 b_z7_ b_e8_ b_h9_ b_h10_ b_z11_ b_h12_ b_z13_ b_h14_ => ⟨(fun b_h15_ b_z16_ b_h17_ b_hq_v6_86y b_hM_ => ?_), (fun b_h15_ b_z18_ b_h19_ b_z20_ b_h21_ b_z22_ b_h23_ b_j26_ b_h27_ b_z24_ b_e25_ b_z28_ b_h29_ b_z30_ b_h31_ => ⟨(fun b_h32_ b_z33_ b_h34_ b_hq_v6_86y b_hM_ => ?_), (fun b_h32_ b_z35_ b_e36_ b_h37_ => ⟨(fun b_h38_ b_h40_ b_j43_ b_h44_ b_M41_ b_hM42_ b_z47_ b_h48_ b_z49_ b_h50_ b_z51_ b_h52_ b_z53_ b_h54_ b_z55_ b_h56_ b_j59_ b_h60_ b_z57_ b_e58_ b_z61_ b_h62_ b_z63_ b_h64_ b_z65_ b_h66_ b_z67_ b_h68_ b_j71_ b_h72_ b_z69_ b_e70_ b_z73_ b_h74_ _ b_M75_ _ b_hF79_ b_hs81_ b_z82_ b_h83_ b_hq_v6_86y b_hM_ => ?_), (fun b_h38_ b_z84_ b_h85_ b_z86_ b_h87_ b_z88_ b_h89_ b_j92_ b_h93_ b_z90_ b_e91_ b_z94_ b_h95_ b_z96_ b_e97_ => ⟨(fun b_h98_ b_z99_ b_h100_ b_hq_v6_86y b_hM_ => ?_), (fun b_h98_ b_h102_ b_j105_ b_h106_ b_M103_ b_hM104_ b_z109_ b_h110_ b_z111_ b_h112_ b_z113_ b_h114_ b_z115_ b_h116_ b_z117_ b_h118_ b_j121_ b_h122_ b_z119_ b_e120_ b_z123_ b_h124_ b_z125_ b_h126_ b_z127_ b_h128_ b_z129_ b_h130_ b_j133_ b_h134_ b_z131_ b_e132_ b_z135_ b_h136_ _ b_M137_ _ b_hF141_ b_hs143_ b_z144_ b_h145_ b_hq_v6_86y b_hM_ => ?_)⟩)⟩)⟩)⟩)
    · have eb := eT b_hq_v6_86y
      rw [a_hM_, b_hM_]
      exact ⟨by omega, hL0, hP, hN⟩
    · have bq := bit_eq (u := u) (l := i) ⟨a_hv0_77, by omega⟩
      rw [← a_h24_, ← a_h26_, ← b_h12_, ← b_h14_] at bq
      exact absurd (bq.mpr b_h15_) a_h27_
    · have bq := bit_eq (u := u) (l := i) ⟨a_hv0_77, by omega⟩
      rw [← a_h24_, ← a_h26_, ← b_h12_, ← b_h14_] at bq
      exact absurd (bq.mpr b_h15_) a_h27_
    · have bq := bit_eq (u := u) (l := i) ⟨a_hv0_77, by omega⟩
      rw [← a_h24_, ← a_h26_, ← b_h12_, ← b_h14_] at bq
      exact absurd (bq.mpr b_h15_) a_h27_
    · have bq := bit_eq (u := u) (l := i) ⟨a_hv0_77, by omega⟩
      rw [← a_h24_, ← a_h26_, ← b_h12_, ← b_h14_] at bq
      exact absurd (bq.mpr b_h15_) a_h27_
  · have ea := eT a_hq_v4_77y
    refine xE_ST_X12_tryRows_86 h2 (fun b_hv0_86 _ b_hF_86 b_z7_ b_e8_ b_h9_ b_h10_ b_z11_ b_h12_ b_z13_ b_h14_ => ⟨(fun b_h15_ b_z16_ b_h17_ b_hq_v6_86y b_hM_ => ?_), (fun b_h15_ b_z18_ b_h19_ b_z20_ b_h21_ b_z22_ b_h23_ b_j26_ b_h27_ b_z24_ b_e25_ b_z28_ b_h29_ b_z30_ b_h31_ => ⟨(fun b_h32_ b_z33_ b_h34_ b_hq_v6_86y b_hM_ => ?_), (fun b_h32_ b_z35_ b_e36_ b_h37_ => ⟨(fun b_h38_ b_h40_ b_j43_ b_h44_ b_M41_ b_hM42_ b_z47_ b_h48_ b_z49_ b_h50_ b_z51_ b_h52_ b_z53_ b_h54_ b_z55_ b_h56_ b_j59_ b_h60_ b_z57_ b_e58_ b_z61_ b_h62_ b_z63_ b_h64_ b_z65_ b_h66_ b_z67_ b_h68_ b_j71_ b_h72_ b_z69_ b_e70_ b_z73_ b_h74_ _ b_M75_ _ b_hF79_ b_hs81_ b_z82_ b_h83_ b_hq_v6_86y b_hM_ => ?_), (fun b_h38_ b_z84_ b_h85_ b_z86_ b_h87_ b_z88_ b_h89_ b_j92_ b_h93_ b_z90_ b_e91_ b_z94_ b_h95_ b_z96_ b_e97_ => ⟨(fun b_h98_ b_z99_ b_h100_ b_hq_v6_86y b_hM_ => ?_), (fun b_h98_ b_h102_ b_j105_ b_h106_ b_M103_ b_hM104_ b_z109_ b_h110_ b_z111_ b_h112_ b_z113_ b_h114_ b_z115_ b_h116_ b_z117_ b_h118_ b_j121_ b_h122_ b_z119_ b_e120_ b_z123_ b_h124_ b_z125_ b_h126_ b_z127_ b_h128_ b_z129_ b_h130_ b_j133_ b_h134_ b_z131_ b_e132_ b_z135_ b_h136_ _ b_M137_ _ b_hF141_ b_hs143_ b_z144_ b_h145_ b_hq_v6_86y b_hM_ => ?_)⟩)⟩)⟩)⟩)
    · have bq := bit_eq (u := u) (l := i) ⟨a_hv0_77, by omega⟩
      rw [← a_h24_, ← a_h26_, ← b_h12_, ← b_h14_] at bq
      exact absurd (bq.mp a_h27_) b_h15_
    · have eb := eT b_hq_v6_86y
      rw [a_hM_, b_hM_]
      exact ⟨by omega, hL0, hP, hN⟩
    · have kq := (key a_h33_ a_hv0_77 (by have := eT b_e8_; omega)).2.1
      have e36 : a_z36_ = b_z30_ := by rw [a_h37_, b_h31_, a_e31_, b_e25_, a_h35_, b_h29_, kq, show 253 + 3 * a_j32_ = b_j26_ by omega]
      exact absurd (by rw [e36]; exact b_h32_) a_h38_
    · have kq := (key a_h33_ a_hv0_77 (by have := eT b_e8_; omega)).2.1
      have e36 : a_z36_ = b_z30_ := by rw [a_h37_, b_h31_, a_e31_, b_e25_, a_h35_, b_h29_, kq, show 253 + 3 * a_j32_ = b_j26_ by omega]
      exact absurd (by rw [e36]; exact b_h32_) a_h38_
    · have kq := (key a_h33_ a_hv0_77 (by have := eT b_e8_; omega)).2.1
      have e36 : a_z36_ = b_z30_ := by rw [a_h37_, b_h31_, a_e31_, b_e25_, a_h35_, b_h29_, kq, show 253 + 3 * a_j32_ = b_j26_ by omega]
      exact absurd (by rw [e36]; exact b_h32_) a_h38_
  · have ea := eT a_hq_v4_77y
    have kq := fun q => key a_h33_ a_hv0_77 q
    have hP0 := hP
    obtain ⟨p1, p2⟩ := hP
    have add : (∀ (r w k : Nat), ¬ r = 5 → ¬ r = 33 → a_M41_.1 (r, 0, w) k = A.1 (r, 0, w) k) ∧ a_M41_.1 (5, 0, 3) 1 = A.1 (5, 0, 3) 1 ∧ (∀ k, a_M41_.1 (33, 0, 3) k = A.1 (33, 0, 3) k) ∧ (a_M41_.1 (5, 0, 2) 1).toInt = 8 - (m : Int) ∧ (∀ k : Nat, (k : Int) < 7 - (m : Int) → a_M41_.1 (33, 0, 2) k = A.1 (33, 0, 2) k) ∧ a_M41_.1 (33, 0, 2) (7 - (m : Int)).toNat = i := by
      have nn : ∀ r : Nat, ¬ ((r, 0, 3) : rf) = (r, 0, 2) := fun r z => absurd (congrArg (fun c : rf => c.2.2) z) (show ¬ (3 : Nat) = 2 by omega)
      refine xE_SP_X5_add2 a_hs47_ (fun c_z1_ c_e2_ c_h3_ c_h4_ c_h7_ c_j12_ c_h13_ c_M10_ c_hM11_ c_z17_ c_e18_ c_h19_ c_z20_ c_h21_ c_M22_ c_hM23_ c_hM_ => ?_)
      rw [c_hM_]
      refine ⟨fun r w k n5 n33 => ?_, ?_, fun k => ?_, ?_, fun k hk2 => ?_, ?_⟩
      · rw [zupN c_hM23_ (fun z => cne n5 z.1), zupN c_hM11_ (fun z => cne n33 z.1)]
      · rw [zupN c_hM23_ (fun z => nn 5 z.1), zupN c_hM11_ (fun z => cne (by omega) z.1)]
      · rw [zupN c_hM23_ (fun z => cne (by omega) z.1), zupN c_hM11_ (fun z => nn 33 z.1)]
      · rw [zupE c_hM23_ rfl rfl]; omega
      · rw [zupN c_hM23_ (fun z => cne (by omega) z.1), zupN c_hM11_ (fun z => by have := z.2; omega)]
      · rw [zupN c_hM23_ (fun z => cne (by omega) z.1), zupE c_hM11_ rfl (by omega)]
    obtain ⟨d1, d2, d3, d4, d5, d6⟩ := add
    have drop : (∀ (r w k : Nat), ¬ r = 5 → a_M71_.1 (r, 0, w) k = a_M64_.1 (r, 0, w) k) ∧ a_M71_.1 (5, 0, 3) 1 = a_M64_.1 (5, 0, 3) 1 ∧ (a_M71_.1 (5, 0, 2) 1).toInt = 7 - (m : Int) := by
      have nn : ∀ r : Nat, ¬ ((r, 0, 3) : rf) = (r, 0, 2) := fun r z => absurd (congrArg (fun c : rf => c.2.2) z) (show ¬ (3 : Nat) = 2 by omega)
      refine xE_SP_X5_drop2 a_hs77_ (fun c_z1_ c_e2_ c_h3_ c_h4_ c_z7_ c_h8_ c_M9_ c_hM10_ c_hM_ => ?_)
      rw [c_hM_]
      refine ⟨fun r w k n5 => ?_, ?_, ?_⟩
      · rw [zupN c_hM10_ (fun z => cne n5 z.1)]
      · rw [zupN c_hM10_ (fun z => nn 5 z.1)]
      · rw [zupE c_hM10_ rfl rfl]; omega
    obtain ⟨f1, f2, f3⟩ := drop
    refine xE_ST_X12_tryRows_86 h2 (fun b_hv0_86 _ b_hF_86 b_z7_ b_e8_ b_h9_ b_h10_ b_z11_ b_h12_ b_z13_ b_h14_ => ⟨(fun b_h15_ b_z16_ b_h17_ b_hq_v6_86y b_hM_ => ?_), (fun b_h15_ b_z18_ b_h19_ b_z20_ b_h21_ b_z22_ b_h23_ b_j26_ b_h27_ b_z24_ b_e25_ b_z28_ b_h29_ b_z30_ b_h31_ => ⟨(fun b_h32_ b_z33_ b_h34_ b_hq_v6_86y b_hM_ => ?_), (fun b_h32_ b_z35_ b_e36_ b_h37_ => ⟨(fun b_h38_ b_h40_ b_j43_ b_h44_ b_M41_ b_hM42_ b_z47_ b_h48_ b_z49_ b_h50_ b_z51_ b_h52_ b_z53_ b_h54_ b_z55_ b_h56_ b_j59_ b_h60_ b_z57_ b_e58_ b_z61_ b_h62_ b_z63_ b_h64_ b_z65_ b_h66_ b_z67_ b_h68_ b_j71_ b_h72_ b_z69_ b_e70_ b_z73_ b_h74_ _ b_M75_ _ b_hF79_ b_hs81_ b_z82_ b_h83_ b_hq_v6_86y b_hM_ => ?_), (fun b_h38_ b_z84_ b_h85_ b_z86_ b_h87_ b_z88_ b_h89_ b_j92_ b_h93_ b_z90_ b_e91_ b_z94_ b_h95_ b_z96_ b_e97_ => ⟨(fun b_h98_ b_z99_ b_h100_ b_hq_v6_86y b_hM_ => ?_), (fun b_h98_ b_h102_ b_j105_ b_h106_ b_M103_ b_hM104_ b_z109_ b_h110_ b_z111_ b_h112_ b_z113_ b_h114_ b_z115_ b_h116_ b_z117_ b_h118_ b_j121_ b_h122_ b_z119_ b_e120_ b_z123_ b_h124_ b_z125_ b_h126_ b_z127_ b_h128_ b_z129_ b_h130_ b_j133_ b_h134_ b_z131_ b_e132_ b_z135_ b_h136_ _ b_M137_ _ b_hF141_ b_hs143_ b_z144_ b_h145_ b_hq_v6_86y b_hM_ => ?_)⟩)⟩)⟩)⟩)
    · have bq := bit_eq (u := u) (l := i) ⟨a_hv0_77, by omega⟩
      rw [← a_h24_, ← a_h26_, ← b_h12_, ← b_h14_] at bq
      exact absurd (bq.mp a_h27_) b_h15_
    · have k2 := (kq (by have := eT b_e8_; omega)).2.1
      have e36 : a_z36_ = b_z30_ := by rw [a_h37_, b_h31_, a_e31_, b_e25_, a_h35_, b_h29_, k2, show 253 + 3 * a_j32_ = b_j26_ by omega]
      exact absurd (by rw [← e36]; exact a_h38_) b_h32_
    · have eb := eT b_hq_v6_86y
      have l8 : i.toInt < (B.1 (50, 0, 0) 3).toInt := by have := eT b_e8_; omega
      have kk := kq l8
      have n50 : ∀ k, b_M41_.1 (50, 0, 0) k = B.1 (50, 0, 0) k := fun k => zupN b_hM42_ (fun z => cne (by omega) z.1)
      have e52 : a_z52_ = b_z61_ := by rw [a_h53_, b_h62_, a_e49_, d1 30 0 _ (by omega) (by omega), b_e58_, n50, show a_j50_ = a_j32_ by omega, kk.1, show 252 + 3 * a_j32_ = b_j59_ by omega]
      have e62 : a_z62_ = b_z73_ := by rw [a_h63_, b_h74_, a_e59_, d1 32 0 _ (by omega) (by omega), b_e70_, n50, show a_j60_ = a_j32_ by omega, kk.2.2, show 254 + 3 * a_j32_ = b_j71_ by omega]
      have e56 : a_z56_ = b_z51_ := by rw [a_h57_, b_h52_, a_h55_, b_h50_]
      have hL1 : LRL s a_M41_ b_M41_ := LRL_fr hL0 (fun c k q => by rw [a_hF45_ c k (fun z => by simp only [S_c_X5_add2, or_false] at z; omega)]) n50
      have hP1 : LRP (8 - (m : Int)) a_M41_ b_M41_ := ⟨d4, fun k hk2 => by
        by_cases e5 : (k : Int) = 7 - (m : Int)
        · rw [zupE b_hM42_ rfl (by omega), show k = (7 - (m : Int)).toNat by omega, d6]
        · rw [zupN b_hM42_ (fun z => by have := z.2; omega), d5 k (by omega)]; exact p2 k (by omega)⟩
      have hN1 : LRN a_M41_ b_M41_ := LRN_fr hN (d1 3 0 7 (by omega) (by omega)) (d1 3 0 8 (by omega) (by omega)) d2 d3 (zupN b_hM42_ (fun z => cne (by omega) z.1)) (zupN b_hM42_ (fun z => cne (by omega) z.1)) (fun _ => zupN b_hM42_ (fun z => cne (by omega) z.1))
      have hq1 := a_hs70_
      rw [e52, e56, e62] at hq1
      have G := hA (by omega) _ _ _ _ _ _ _ _ _ hq1 b_hs81_ (by omega) hL1 hP1 hN1 (fun q => by rw [d1 3 0 8 (by omega) (by omega)] at q; have := eT b_e36_; rcases hN with ⟨n1, n2⟩ | ⟨n1, n2, n3, n4, n5, n6⟩ <;> omega)
      rw [a_hM_, b_hM_]
      refine ⟨by omega, ?_, ⟨f3, fun k hk2 => by rw [f1 33 2 k (by omega)]; exact G.1.2 k (by omega)⟩, LRN_fr G.2 (f1 3 0 7 (by omega)) (f1 3 0 8 (by omega)) f2 (fun k => f1 33 3 k (by omega)) rfl rfl (fun _ => rfl)⟩
      refine LRL_fr hL1 (fun c k q => ?_) (fun k => by rw [b_hF79_ _ _ (by simp [S_tryD])])
      rw [a_hF75_ c k (fun z => by simp only [S_c_X5_drop2, or_false] at z; omega), a_hF68_ c k (fun z => by simp only [S_try, or_false] at z; omega)]
    · have eb := eT b_hq_v6_86y
      have l8 : i.toInt < (B.1 (50, 0, 0) 3).toInt := by have := eT b_e8_; omega
      have kk := kq l8
      have e62 : a_z62_ = b_z94_ := by rw [a_h63_, b_h95_, a_e59_, d1 32 0 _ (by omega) (by omega), b_e91_, show a_j60_ = a_j32_ by omega, kk.2.2, show 254 + 3 * a_j32_ = b_j92_ by omega]
      have y8 : ¬ (A.1 (3, 0, 0) 8).toInt = 0 ∧ A.1 (3, 0, 0) 7 = B.1 (12, 0, 0) 23 := Or.elim hN (fun n => absurd n.2 (by have := eT b_e36_; omega)) (fun n => ⟨n.1, n.2.2.2.1⟩)
      have w4 := eT y8.2
      have w6 := eT e62
      have w7 := eT b_e97_
      have eM : a_M64_ = a_M41_ := hB _ _ _ _ _ a_hs70_ (by rw [d1 3 0 8 (by omega) (by omega)]; exact y8.1) (by rw [d1 3 0 7 (by omega) (by omega)]; omega)
      rw [eM] at f1 f2
      rw [a_hM_, b_hM_]
      refine ⟨by omega, ?_, ⟨f3, fun k hk2 => by rw [f1 33 2 k (by omega), d5 k hk2]; exact p2 k hk2⟩, LRN_fr hN (by rw [f1 3 0 7 (by omega), d1 3 0 7 (by omega) (by omega)]) (by rw [f1 3 0 8 (by omega), d1 3 0 8 (by omega) (by omega)]) (by rw [f2, d2]) (fun k => by rw [f1 33 3 k (by omega), d3]) rfl rfl (fun _ => rfl)⟩
      refine LRL_fr hL0 (fun c k q => ?_) (fun _ => rfl)
      rw [a_hF75_ c k (fun z => by simp only [S_c_X5_drop2, or_false] at z; omega), a_hF68_ c k (fun z => by simp only [S_try, or_false] at z; omega), a_hF45_ c k (fun z => by simp only [S_c_X5_add2, or_false] at z; omega)]
    · have eb := eT b_hq_v6_86y
      have l8 : i.toInt < (B.1 (50, 0, 0) 3).toInt := by have := eT b_e8_; omega
      have kk := kq l8
      have n50 : ∀ k, b_M103_.1 (50, 0, 0) k = B.1 (50, 0, 0) k := fun k => zupN b_hM104_ (fun z => cne (by omega) z.1)
      have e52 : a_z52_ = b_z123_ := by rw [a_h53_, b_h124_, a_e49_, d1 30 0 _ (by omega) (by omega), b_e120_, n50, show a_j50_ = a_j32_ by omega, kk.1, show 252 + 3 * a_j32_ = b_j121_ by omega]
      have e62 : a_z62_ = b_z135_ := by rw [a_h63_, b_h136_, a_e59_, d1 32 0 _ (by omega) (by omega), b_e132_, n50, show a_j60_ = a_j32_ by omega, kk.2.2, show 254 + 3 * a_j32_ = b_j133_ by omega]
      have e56 : a_z56_ = b_z113_ := by rw [a_h57_, b_h114_, a_h55_, b_h112_]
      have hL1 : LRL s a_M41_ b_M103_ := LRL_fr hL0 (fun c k q => by rw [a_hF45_ c k (fun z => by simp only [S_c_X5_add2, or_false] at z; omega)]) n50
      have hP1 : LRP (8 - (m : Int)) a_M41_ b_M103_ := ⟨d4, fun k hk2 => by
        by_cases e5 : (k : Int) = 7 - (m : Int)
        · rw [zupE b_hM104_ rfl (by omega), show k = (7 - (m : Int)).toNat by omega, d6]
        · rw [zupN b_hM104_ (fun z => by have := z.2; omega), d5 k (by omega)]; exact p2 k (by omega)⟩
      have hN1 : LRN a_M41_ b_M103_ := LRN_fr hN (d1 3 0 7 (by omega) (by omega)) (d1 3 0 8 (by omega) (by omega)) d2 d3 (zupN b_hM104_ (fun z => cne (by omega) z.1)) (zupN b_hM104_ (fun z => cne (by omega) z.1)) (fun _ => zupN b_hM104_ (fun z => cne (by omega) z.1))
      have hq1 := a_hs70_
      rw [e52, e56, e62] at hq1
      have G := hA (by omega) _ _ _ _ _ _ _ _ _ hq1 b_hs143_ (by omega) hL1 hP1 hN1 (fun q => by rw [d1 3 0 8 (by omega) (by omega)] at q; rw [d1 3 0 7 (by omega) (by omega)]; have := eT b_e36_; have w7 := eT b_e97_; have w8 := eT b_h136_; have w9 := eT b_h95_; rw [show b_z131_ = b_z90_ by rw [b_e132_, b_e91_, n50, show b_j133_ = b_j92_ by omega]] at w8; rcases hN with ⟨n1, n2⟩ | ⟨n1, n2, n3, n4, n5, n6⟩ <;> first | omega | (have w4 := eT n4; omega))
      rw [a_hM_, b_hM_]
      refine ⟨by omega, ?_, ⟨f3, fun k hk2 => by rw [f1 33 2 k (by omega)]; exact G.1.2 k (by omega)⟩, LRN_fr G.2 (f1 3 0 7 (by omega)) (f1 3 0 8 (by omega)) f2 (fun k => f1 33 3 k (by omega)) rfl rfl (fun _ => rfl)⟩
      refine LRL_fr hL1 (fun c k q => ?_) (fun k => by rw [b_hF141_ _ _ (by simp [S_tryD])])
      rw [a_hF75_ c k (fun z => by simp only [S_c_X5_drop2, or_false] at z; omega), a_hF68_ c k (fun z => by simp only [S_try, or_false] at z; omega)]
theorem learn_rowb {m : Nat} {QR : Nat → Int32 → Int32 → Int32 → mM → mM → Prop} {QD : Int32 → Int32 → Int32 → Int32 → Int32 → mM → mM → Prop} {v u t s dep i i2 j j2 : Int32} {C0 D0 A A2 B B2 : mM} (hA : 1 ≤ m → LRQ QR QD (8 - (m : Int))) (hB : LNO QR) (hm : m ≤ 7) (hk : dep.toInt = 7 - (m : Int)) (h1 : ST_X3_tryRows_77b m QR 0 v u t C0 i A i2 A2) (h2 : ST_X12_tryRows_86 m QD dep u v s t D0 j B j2 B2) (hij : i.toInt = j.toInt) (hL : LRL s A B) (hP : LRP (7 - (m : Int)) A B) (hN : LRN A B) : i2.toInt = j2.toInt ∧ LRL s A2 B2 ∧ LRP (7 - (m : Int)) A2 B2 ∧ LRN A2 B2 := by
  rw [← i32e hij] at h2
  have hL0 := hL
  obtain ⟨l1, l2, l3⟩ := hL
  have key : ∀ {j5 : Nat}, ((j5 : Int) = i.toInt) → 0 ≤ i.toInt → i.toInt < (B.1 (50, 0, 0) 3).toInt → A.1 (30, 0, 0) j5 = B.1 (50, 0, 0) (252 + 3 * j5) ∧ A.1 (31, 0, 0) j5 = B.1 (50, 0, 0) (253 + 3 * j5) ∧ A.1 (32, 0, 0) j5 = B.1 (50, 0, 0) (254 + 3 * j5) := fun {j5} a b c => l3 j5 (by omega)
  refine xE_ST_X3_tryRows_77b h1 (fun a_hv0_77 _ a_hF_77 a_z85_ a_e86_ a_h87_ a_h88_ a_z89_ a_h90_ a_z91_ a_h92_ => ⟨(fun a_h93_ a_z94_ a_h95_ a_hq_v4_77y a_hM_ => ?_), (fun a_h93_ a_j98_ a_h99_ a_z96_ a_e97_ a_z100_ a_h101_ a_z102_ a_h103_ => ⟨(fun a_h104_ a_z105_ a_h106_ a_hq_v4_77y a_hM_ => ?_), (fun a_h104_ a_M107_ _ a_hF111_ a_hs113_ a_h109_ a_j116_ a_h117_ a_z114_ a_e115_ a_z118_ a_h119_ a_z120_ a_h121_ a_z122_ a_h123_ a_j126_ a_h127_ a_z124_ a_e125_ a_z128_ a_h129_ a_M130_ _ a_hF134_ a_hs136_ a_h132_ a_M137_ _ a_hF141_ a_hs143_ a_z145_ a_h146_ a_hq_v4_77y a_hM_ => ?_)⟩)⟩)
  · have ea := eT a_hq_v4_77y
    refine xE_ST_X12_tryRows_86 h2 (fun b_hv0_86 _ b_hF_86 b_z7_ b_e8_ b_h9_ b_h10_ b_z11_ b_h12_ b_z13_ b_h14_ => ⟨(fun b_h15_ b_z16_ b_h17_ b_hq_v6_86y b_hM_ => ?_), (fun b_h15_ b_z18_ b_h19_ b_z20_ b_h21_ b_z22_ b_h23_ b_j26_ b_h27_ b_z24_ b_e25_ b_z28_ b_h29_ b_z30_ b_h31_ => ⟨(fun b_h32_ b_z33_ b_h34_ b_hq_v6_86y b_hM_ => ?_), (fun b_h32_ b_z35_ b_e36_ b_h37_ => ⟨(fun b_h38_ b_h40_ b_j43_ b_h44_ b_M41_ b_hM42_ b_z47_ b_h48_ b_z49_ b_h50_ b_z51_ b_h52_ b_z53_ b_h54_ b_z55_ b_h56_ b_j59_ b_h60_ b_z57_ b_e58_ b_z61_ b_h62_ b_z63_ b_h64_ b_z65_ b_h66_ b_z67_ b_h68_ b_j71_ b_h72_ b_z69_ b_e70_ b_z73_ b_h74_ _ b_M75_ _ b_hF79_ b_hs81_ b_z82_ b_h83_ b_hq_v6_86y b_hM_ => ?_), (fun b_h38_ b_z84_ b_h85_ b_z86_ b_h87_ b_z88_ b_h89_ b_j92_ b_h93_ b_z90_ b_e91_ b_z94_ b_h95_ b_z96_ b_e97_ => ⟨(fun b_h98_ b_z99_ b_h100_ b_hq_v6_86y b_hM_ => ?_), (fun b_h98_ b_h102_ b_j105_ b_h106_ b_M103_ b_hM104_ b_z109_ b_h110_ b_z111_ b_h112_ b_z113_ b_h114_ b_z115_ b_h116_ b_z117_ b_h118_ b_j121_ b_h122_ b_z119_ b_e120_ b_z123_ b_h124_ b_z125_ b_h126_ b_z127_ b_h128_ b_z129_ b_h130_ b_j133_ b_h134_ b_z131_ b_e132_ b_z135_ b_h136_ _ b_M137_ _ b_hF141_ b_hs143_ b_z144_ b_h145_ b_hq_v6_86y b_hM_ => ?_)⟩)⟩)⟩)⟩)
    · have eb := eT b_hq_v6_86y
      rw [a_hM_, b_hM_]
      exact ⟨by omega, hL0, hP, hN⟩
    · have bq := bit_eq (u := u) (l := i) ⟨a_hv0_77, by omega⟩
      rw [← a_h90_, ← a_h92_, ← b_h12_, ← b_h14_] at bq
      exact absurd (bq.mpr b_h15_) a_h93_
    · have bq := bit_eq (u := u) (l := i) ⟨a_hv0_77, by omega⟩
      rw [← a_h90_, ← a_h92_, ← b_h12_, ← b_h14_] at bq
      exact absurd (bq.mpr b_h15_) a_h93_
    · have bq := bit_eq (u := u) (l := i) ⟨a_hv0_77, by omega⟩
      rw [← a_h90_, ← a_h92_, ← b_h12_, ← b_h14_] at bq
      exact absurd (bq.mpr b_h15_) a_h93_
    · have bq := bit_eq (u := u) (l := i) ⟨a_hv0_77, by omega⟩
      rw [← a_h90_, ← a_h92_, ← b_h12_, ← b_h14_] at bq
      exact absurd (bq.mpr b_h15_) a_h93_
  · have ea := eT a_hq_v4_77y
    refine xE_ST_X12_tryRows_86 h2 (fun b_hv0_86 _ b_hF_86 b_z7_ b_e8_ b_h9_ b_h10_ b_z11_ b_h12_ b_z13_ b_h14_ => ⟨(fun b_h15_ b_z16_ b_h17_ b_hq_v6_86y b_hM_ => ?_), (fun b_h15_ b_z18_ b_h19_ b_z20_ b_h21_ b_z22_ b_h23_ b_j26_ b_h27_ b_z24_ b_e25_ b_z28_ b_h29_ b_z30_ b_h31_ => ⟨(fun b_h32_ b_z33_ b_h34_ b_hq_v6_86y b_hM_ => ?_), (fun b_h32_ b_z35_ b_e36_ b_h37_ => ⟨(fun b_h38_ b_h40_ b_j43_ b_h44_ b_M41_ b_hM42_ b_z47_ b_h48_ b_z49_ b_h50_ b_z51_ b_h52_ b_z53_ b_h54_ b_z55_ b_h56_ b_j59_ b_h60_ b_z57_ b_e58_ b_z61_ b_h62_ b_z63_ b_h64_ b_z65_ b_h66_ b_z67_ b_h68_ b_j71_ b_h72_ b_z69_ b_e70_ b_z73_ b_h74_ _ b_M75_ _ b_hF79_ b_hs81_ b_z82_ b_h83_ b_hq_v6_86y b_hM_ => ?_), (fun b_h38_ b_z84_ b_h85_ b_z86_ b_h87_ b_z88_ b_h89_ b_j92_ b_h93_ b_z90_ b_e91_ b_z94_ b_h95_ b_z96_ b_e97_ => ⟨(fun b_h98_ b_z99_ b_h100_ b_hq_v6_86y b_hM_ => ?_), (fun b_h98_ b_h102_ b_j105_ b_h106_ b_M103_ b_hM104_ b_z109_ b_h110_ b_z111_ b_h112_ b_z113_ b_h114_ b_z115_ b_h116_ b_z117_ b_h118_ b_j121_ b_h122_ b_z119_ b_e120_ b_z123_ b_h124_ b_z125_ b_h126_ b_z127_ b_h128_ b_z129_ b_h130_ b_j133_ b_h134_ b_z131_ b_e132_ b_z135_ b_h136_ _ b_M137_ _ b_hF141_ b_hs143_ b_z144_ b_h145_ b_hq_v6_86y b_hM_ => ?_)⟩)⟩)⟩)⟩)
    · have bq := bit_eq (u := u) (l := i) ⟨a_hv0_77, by omega⟩
      rw [← a_h90_, ← a_h92_, ← b_h12_, ← b_h14_] at bq
      exact absurd (bq.mp a_h93_) b_h15_
    · have eb := eT b_hq_v6_86y
      rw [a_hM_, b_hM_]
      exact ⟨by omega, hL0, hP, hN⟩
    · have kq := (key a_h99_ a_hv0_77 (by have := eT b_e8_; omega)).2.1
      have e36 : a_z102_ = b_z30_ := by rw [a_h103_, b_h31_, a_e97_, b_e25_, a_h101_, b_h29_, kq, show 253 + 3 * a_j98_ = b_j26_ by omega]
      exact absurd (by rw [e36]; exact b_h32_) a_h104_
    · have kq := (key a_h99_ a_hv0_77 (by have := eT b_e8_; omega)).2.1
      have e36 : a_z102_ = b_z30_ := by rw [a_h103_, b_h31_, a_e97_, b_e25_, a_h101_, b_h29_, kq, show 253 + 3 * a_j98_ = b_j26_ by omega]
      exact absurd (by rw [e36]; exact b_h32_) a_h104_
    · have kq := (key a_h99_ a_hv0_77 (by have := eT b_e8_; omega)).2.1
      have e36 : a_z102_ = b_z30_ := by rw [a_h103_, b_h31_, a_e97_, b_e25_, a_h101_, b_h29_, kq, show 253 + 3 * a_j98_ = b_j26_ by omega]
      exact absurd (by rw [e36]; exact b_h32_) a_h104_
  · have ea := eT a_hq_v4_77y
    have kq := fun q => key a_h99_ a_hv0_77 q
    have hP0 := hP
    obtain ⟨p1, p2⟩ := hP
    have add : (∀ (r w k : Nat), ¬ r = 5 → ¬ r = 33 → a_M107_.1 (r, 0, w) k = A.1 (r, 0, w) k) ∧ a_M107_.1 (5, 0, 3) 1 = A.1 (5, 0, 3) 1 ∧ (∀ k, a_M107_.1 (33, 0, 3) k = A.1 (33, 0, 3) k) ∧ (a_M107_.1 (5, 0, 2) 1).toInt = 8 - (m : Int) ∧ (∀ k : Nat, (k : Int) < 7 - (m : Int) → a_M107_.1 (33, 0, 2) k = A.1 (33, 0, 2) k) ∧ a_M107_.1 (33, 0, 2) (7 - (m : Int)).toNat = i := by
      have nn : ∀ r : Nat, ¬ ((r, 0, 3) : rf) = (r, 0, 2) := fun r z => absurd (congrArg (fun c : rf => c.2.2) z) (show ¬ (3 : Nat) = 2 by omega)
      refine xE_SP_X5_add2 a_hs113_ (fun c_z1_ c_e2_ c_h3_ c_h4_ c_h7_ c_j12_ c_h13_ c_M10_ c_hM11_ c_z17_ c_e18_ c_h19_ c_z20_ c_h21_ c_M22_ c_hM23_ c_hM_ => ?_)
      rw [c_hM_]
      refine ⟨fun r w k n5 n33 => ?_, ?_, fun k => ?_, ?_, fun k hk2 => ?_, ?_⟩
      · rw [zupN c_hM23_ (fun z => cne n5 z.1), zupN c_hM11_ (fun z => cne n33 z.1)]
      · rw [zupN c_hM23_ (fun z => nn 5 z.1), zupN c_hM11_ (fun z => cne (by omega) z.1)]
      · rw [zupN c_hM23_ (fun z => cne (by omega) z.1), zupN c_hM11_ (fun z => nn 33 z.1)]
      · rw [zupE c_hM23_ rfl rfl]; omega
      · rw [zupN c_hM23_ (fun z => cne (by omega) z.1), zupN c_hM11_ (fun z => by have := z.2; omega)]
      · rw [zupN c_hM23_ (fun z => cne (by omega) z.1), zupE c_hM11_ rfl (by omega)]
    obtain ⟨d1, d2, d3, d4, d5, d6⟩ := add
    have drop : (∀ (r w k : Nat), ¬ r = 5 → a_M137_.1 (r, 0, w) k = a_M130_.1 (r, 0, w) k) ∧ a_M137_.1 (5, 0, 3) 1 = a_M130_.1 (5, 0, 3) 1 ∧ (a_M137_.1 (5, 0, 2) 1).toInt = 7 - (m : Int) := by
      have nn : ∀ r : Nat, ¬ ((r, 0, 3) : rf) = (r, 0, 2) := fun r z => absurd (congrArg (fun c : rf => c.2.2) z) (show ¬ (3 : Nat) = 2 by omega)
      refine xE_SP_X5_drop2 a_hs143_ (fun c_z1_ c_e2_ c_h3_ c_h4_ c_z7_ c_h8_ c_M9_ c_hM10_ c_hM_ => ?_)
      rw [c_hM_]
      refine ⟨fun r w k n5 => ?_, ?_, ?_⟩
      · rw [zupN c_hM10_ (fun z => cne n5 z.1)]
      · rw [zupN c_hM10_ (fun z => nn 5 z.1)]
      · rw [zupE c_hM10_ rfl rfl]; omega
    obtain ⟨f1, f2, f3⟩ := drop
    refine xE_ST_X12_tryRows_86 h2 (fun b_hv0_86 _ b_hF_86 b_z7_ b_e8_ b_h9_ b_h10_ b_z11_ b_h12_ b_z13_ b_h14_ => ⟨(fun b_h15_ b_z16_ b_h17_ b_hq_v6_86y b_hM_ => ?_), (fun b_h15_ b_z18_ b_h19_ b_z20_ b_h21_ b_z22_ b_h23_ b_j26_ b_h27_ b_z24_ b_e25_ b_z28_ b_h29_ b_z30_ b_h31_ => ⟨(fun b_h32_ b_z33_ b_h34_ b_hq_v6_86y b_hM_ => ?_), (fun b_h32_ b_z35_ b_e36_ b_h37_ => ⟨(fun b_h38_ b_h40_ b_j43_ b_h44_ b_M41_ b_hM42_ b_z47_ b_h48_ b_z49_ b_h50_ b_z51_ b_h52_ b_z53_ b_h54_ b_z55_ b_h56_ b_j59_ b_h60_ b_z57_ b_e58_ b_z61_ b_h62_ b_z63_ b_h64_ b_z65_ b_h66_ b_z67_ b_h68_ b_j71_ b_h72_ b_z69_ b_e70_ b_z73_ b_h74_ _ b_M75_ _ b_hF79_ b_hs81_ b_z82_ b_h83_ b_hq_v6_86y b_hM_ => ?_), (fun b_h38_ b_z84_ b_h85_ b_z86_ b_h87_ b_z88_ b_h89_ b_j92_ b_h93_ b_z90_ b_e91_ b_z94_ b_h95_ b_z96_ b_e97_ => ⟨(fun b_h98_ b_z99_ b_h100_ b_hq_v6_86y b_hM_ => ?_), (fun b_h98_ b_h102_ b_j105_ b_h106_ b_M103_ b_hM104_ b_z109_ b_h110_ b_z111_ b_h112_ b_z113_ b_h114_ b_z115_ b_h116_ b_z117_ b_h118_ b_j121_ b_h122_ b_z119_ b_e120_ b_z123_ b_h124_ b_z125_ b_h126_ b_z127_ b_h128_ b_z129_ b_h130_ b_j133_ b_h134_ b_z131_ b_e132_ b_z135_ b_h136_ _ b_M137_ _ b_hF141_ b_hs143_ b_z144_ b_h145_ b_hq_v6_86y b_hM_ => ?_)⟩)⟩)⟩)⟩)
    · have bq := bit_eq (u := u) (l := i) ⟨a_hv0_77, by omega⟩
      rw [← a_h90_, ← a_h92_, ← b_h12_, ← b_h14_] at bq
      exact absurd (bq.mp a_h93_) b_h15_
    · have k2 := (kq (by have := eT b_e8_; omega)).2.1
      have e36 : a_z102_ = b_z30_ := by rw [a_h103_, b_h31_, a_e97_, b_e25_, a_h101_, b_h29_, k2, show 253 + 3 * a_j98_ = b_j26_ by omega]
      exact absurd (by rw [← e36]; exact a_h104_) b_h32_
    · have eb := eT b_hq_v6_86y
      have l8 : i.toInt < (B.1 (50, 0, 0) 3).toInt := by have := eT b_e8_; omega
      have kk := kq l8
      have n50 : ∀ k, b_M41_.1 (50, 0, 0) k = B.1 (50, 0, 0) k := fun k => zupN b_hM42_ (fun z => cne (by omega) z.1)
      have e52 : a_z118_ = b_z61_ := by rw [a_h119_, b_h62_, a_e115_, d1 30 0 _ (by omega) (by omega), b_e58_, n50, show a_j116_ = a_j98_ by omega, kk.1, show 252 + 3 * a_j98_ = b_j59_ by omega]
      have e62 : a_z128_ = b_z73_ := by rw [a_h129_, b_h74_, a_e125_, d1 32 0 _ (by omega) (by omega), b_e70_, n50, show a_j126_ = a_j98_ by omega, kk.2.2, show 254 + 3 * a_j98_ = b_j71_ by omega]
      have e56 : a_z122_ = b_z51_ := by rw [a_h123_, b_h52_, a_h121_, b_h50_]
      have hL1 : LRL s a_M107_ b_M41_ := LRL_fr hL0 (fun c k q => by rw [a_hF111_ c k (fun z => by simp only [S_c_X5_add2, or_false] at z; omega)]) n50
      have hP1 : LRP (8 - (m : Int)) a_M107_ b_M41_ := ⟨d4, fun k hk2 => by
        by_cases e5 : (k : Int) = 7 - (m : Int)
        · rw [zupE b_hM42_ rfl (by omega), show k = (7 - (m : Int)).toNat by omega, d6]
        · rw [zupN b_hM42_ (fun z => by have := z.2; omega), d5 k (by omega)]; exact p2 k (by omega)⟩
      have hN1 : LRN a_M107_ b_M41_ := LRN_fr hN (d1 3 0 7 (by omega) (by omega)) (d1 3 0 8 (by omega) (by omega)) d2 d3 (zupN b_hM42_ (fun z => cne (by omega) z.1)) (zupN b_hM42_ (fun z => cne (by omega) z.1)) (fun _ => zupN b_hM42_ (fun z => cne (by omega) z.1))
      have hq1 := a_hs136_
      rw [e52, e56, e62] at hq1
      have G := hA (by omega) _ _ _ _ _ _ _ _ _ hq1 b_hs81_ (by omega) hL1 hP1 hN1 (fun q => by rw [d1 3 0 8 (by omega) (by omega)] at q; have := eT b_e36_; rcases hN with ⟨n1, n2⟩ | ⟨n1, n2, n3, n4, n5, n6⟩ <;> omega)
      rw [a_hM_, b_hM_]
      refine ⟨by omega, ?_, ⟨f3, fun k hk2 => by rw [f1 33 2 k (by omega)]; exact G.1.2 k (by omega)⟩, LRN_fr G.2 (f1 3 0 7 (by omega)) (f1 3 0 8 (by omega)) f2 (fun k => f1 33 3 k (by omega)) rfl rfl (fun _ => rfl)⟩
      refine LRL_fr hL1 (fun c k q => ?_) (fun k => by rw [b_hF79_ _ _ (by simp [S_tryD])])
      rw [a_hF141_ c k (fun z => by simp only [S_c_X5_drop2, or_false] at z; omega), a_hF134_ c k (fun z => by simp only [S_try, or_false] at z; omega)]
    · have eb := eT b_hq_v6_86y
      have l8 : i.toInt < (B.1 (50, 0, 0) 3).toInt := by have := eT b_e8_; omega
      have kk := kq l8
      have e62 : a_z128_ = b_z94_ := by rw [a_h129_, b_h95_, a_e125_, d1 32 0 _ (by omega) (by omega), b_e91_, show a_j126_ = a_j98_ by omega, kk.2.2, show 254 + 3 * a_j98_ = b_j92_ by omega]
      have y8 : ¬ (A.1 (3, 0, 0) 8).toInt = 0 ∧ A.1 (3, 0, 0) 7 = B.1 (12, 0, 0) 23 := Or.elim hN (fun n => absurd n.2 (by have := eT b_e36_; omega)) (fun n => ⟨n.1, n.2.2.2.1⟩)
      have w4 := eT y8.2
      have w6 := eT e62
      have w7 := eT b_e97_
      have eM : a_M130_ = a_M107_ := hB _ _ _ _ _ a_hs136_ (by rw [d1 3 0 8 (by omega) (by omega)]; exact y8.1) (by rw [d1 3 0 7 (by omega) (by omega)]; omega)
      rw [eM] at f1 f2
      rw [a_hM_, b_hM_]
      refine ⟨by omega, ?_, ⟨f3, fun k hk2 => by rw [f1 33 2 k (by omega), d5 k hk2]; exact p2 k hk2⟩, LRN_fr hN (by rw [f1 3 0 7 (by omega), d1 3 0 7 (by omega) (by omega)]) (by rw [f1 3 0 8 (by omega), d1 3 0 8 (by omega) (by omega)]) (by rw [f2, d2]) (fun k => by rw [f1 33 3 k (by omega), d3]) rfl rfl (fun _ => rfl)⟩
      refine LRL_fr hL0 (fun c k q => ?_) (fun _ => rfl)
      rw [a_hF141_ c k (fun z => by simp only [S_c_X5_drop2, or_false] at z; omega), a_hF134_ c k (fun z => by simp only [S_try, or_false] at z; omega), a_hF111_ c k (fun z => by simp only [S_c_X5_add2, or_false] at z; omega)]
    · have eb := eT b_hq_v6_86y
      have l8 : i.toInt < (B.1 (50, 0, 0) 3).toInt := by have := eT b_e8_; omega
      have kk := kq l8
      have n50 : ∀ k, b_M103_.1 (50, 0, 0) k = B.1 (50, 0, 0) k := fun k => zupN b_hM104_ (fun z => cne (by omega) z.1)
      have e52 : a_z118_ = b_z123_ := by rw [a_h119_, b_h124_, a_e115_, d1 30 0 _ (by omega) (by omega), b_e120_, n50, show a_j116_ = a_j98_ by omega, kk.1, show 252 + 3 * a_j98_ = b_j121_ by omega]
      have e62 : a_z128_ = b_z135_ := by rw [a_h129_, b_h136_, a_e125_, d1 32 0 _ (by omega) (by omega), b_e132_, n50, show a_j126_ = a_j98_ by omega, kk.2.2, show 254 + 3 * a_j98_ = b_j133_ by omega]
      have e56 : a_z122_ = b_z113_ := by rw [a_h123_, b_h114_, a_h121_, b_h112_]
      have hL1 : LRL s a_M107_ b_M103_ := LRL_fr hL0 (fun c k q => by rw [a_hF111_ c k (fun z => by simp only [S_c_X5_add2, or_false] at z; omega)]) n50
      have hP1 : LRP (8 - (m : Int)) a_M107_ b_M103_ := ⟨d4, fun k hk2 => by
        by_cases e5 : (k : Int) = 7 - (m : Int)
        · rw [zupE b_hM104_ rfl (by omega), show k = (7 - (m : Int)).toNat by omega, d6]
        · rw [zupN b_hM104_ (fun z => by have := z.2; omega), d5 k (by omega)]; exact p2 k (by omega)⟩
      have hN1 : LRN a_M107_ b_M103_ := LRN_fr hN (d1 3 0 7 (by omega) (by omega)) (d1 3 0 8 (by omega) (by omega)) d2 d3 (zupN b_hM104_ (fun z => cne (by omega) z.1)) (zupN b_hM104_ (fun z => cne (by omega) z.1)) (fun _ => zupN b_hM104_ (fun z => cne (by omega) z.1))
      have hq1 := a_hs136_
      rw [e52, e56, e62] at hq1
      have G := hA (by omega) _ _ _ _ _ _ _ _ _ hq1 b_hs143_ (by omega) hL1 hP1 hN1 (fun q => by rw [d1 3 0 8 (by omega) (by omega)] at q; rw [d1 3 0 7 (by omega) (by omega)]; have := eT b_e36_; have w7 := eT b_e97_; have w8 := eT b_h136_; have w9 := eT b_h95_; rw [show b_z131_ = b_z90_ by rw [b_e132_, b_e91_, n50, show b_j133_ = b_j92_ by omega]] at w8; rcases hN with ⟨n1, n2⟩ | ⟨n1, n2, n3, n4, n5, n6⟩ <;> first | omega | (have w4 := eT n4; omega))
      rw [a_hM_, b_hM_]
      refine ⟨by omega, ?_, ⟨f3, fun k hk2 => by rw [f1 33 2 k (by omega)]; exact G.1.2 k (by omega)⟩, LRN_fr G.2 (f1 3 0 7 (by omega)) (f1 3 0 8 (by omega)) f2 (fun k => f1 33 3 k (by omega)) rfl rfl (fun _ => rfl)⟩
      refine LRL_fr hL1 (fun c k q => ?_) (fun k => by rw [b_hF141_ _ _ (by simp [S_tryD])])
      rw [a_hF141_ c k (fun z => by simp only [S_c_X5_drop2, or_false] at z; omega), a_hF134_ c k (fun z => by simp only [S_try, or_false] at z; omega)]
theorem learn_loop {m : Nat} {QR : Nat → Int32 → Int32 → Int32 → mM → mM → Prop} {QD : Int32 → Int32 → Int32 → Int32 → Int32 → mM → mM → Prop} {v u t s dep i j : Int32} {C A D B : mM} (hA : 1 ≤ m → LRQ QR QD (8 - (m : Int))) (hB : LNO QR) (hm : m ≤ 7) (hk : dep.toInt = 7 - (m : Int)) (h1 : RCH (fun x_ y_ => ST_X3_tryRows_77 m QR 0 v u t C x_.1 x_.2 y_.1 y_.2) ((0 : Int32), C) (i, A)) (h2 : RCH (fun x_ y_ => ST_X12_tryRows_86 m QD dep u v s t D x_.1 x_.2 y_.1 y_.2) ((0 : Int32), D) (j, B))
    (hL : LRL s C D) (hP : LRP (7 - (m : Int)) C D) (hN : LRN C D) (hi : (A.1 (3, 0, 0) 3).toInt ≤ i.toInt ∨ 7 ≤ i.toInt) (hj : (B.1 (50, 0, 0) 3).toInt ≤ j.toInt) (h7 : (B.1 (50, 0, 0) 3).toInt ≤ 7) : LRP (7 - (m : Int)) A B ∧ LRN A B := by
  have g := lockE (fun x y => x.1.toInt = y.1.toInt ∧ LRL s x.2 y.2 ∧ LRP (7 - (m : Int)) x.2 y.2 ∧ LRN x.2 y.2) h1 h2 ⟨rfl, hL, hP, hN⟩ (fun x z y w r a b => learn_row hA hB hm hk a b r.1 r.2.1 r.2.2.1 r.2.2.2) (fun y y' r st => by
    (try dsimp only at r st)
    have l2 := eT r.2.1.2.1
    refine xE_ST_X12_tryRows_86 st (fun k_hv0_86 _ k_hF_86 k_z7_ k_e8_ k_h9_ k_h10_ k_z11_ k_h12_ k_z13_ k_h14_ => ⟨(fun k_h15_ k_z16_ k_h17_ k_hq_v6_86y k_hM_ => ?_), (fun k_h15_ k_z18_ k_h19_ k_z20_ k_h21_ k_z22_ k_h23_ k_j26_ k_h27_ k_z24_ k_e25_ k_z28_ k_h29_ k_z30_ k_h31_ => ⟨(fun k_h32_ k_z33_ k_h34_ k_hq_v6_86y k_hM_ => ?_), (fun k_h32_ k_z35_ k_e36_ k_h37_ => ⟨(fun k_h38_ k_h40_ k_j43_ k_h44_ k_M41_ k_hM42_ k_z47_ k_h48_ k_z49_ k_h50_ k_z51_ k_h52_ k_z53_ k_h54_ k_z55_ k_h56_ k_j59_ k_h60_ k_z57_ k_e58_ k_z61_ k_h62_ k_z63_ k_h64_ k_z65_ k_h66_ k_z67_ k_h68_ k_j71_ k_h72_ k_z69_ k_e70_ k_z73_ k_h74_ _ k_M75_ _ k_hF79_ k_hs81_ k_z82_ k_h83_ k_hq_v6_86y k_hM_ => ?_), (fun k_h38_ k_z84_ k_h85_ k_z86_ k_h87_ k_z88_ k_h89_ k_j92_ k_h93_ k_z90_ k_e91_ k_z94_ k_h95_ k_z96_ k_e97_ => ⟨(fun k_h98_ k_z99_ k_h100_ k_hq_v6_86y k_hM_ => ?_), (fun k_h98_ k_h102_ k_j105_ k_h106_ k_M103_ k_hM104_ k_z109_ k_h110_ k_z111_ k_h112_ k_z113_ k_h114_ k_z115_ k_h116_ k_z117_ k_h118_ k_j121_ k_h122_ k_z119_ k_e120_ k_z123_ k_h124_ k_z125_ k_h126_ k_z127_ k_h128_ k_z129_ k_h130_ k_j133_ k_h134_ k_z131_ k_e132_ k_z135_ k_h136_ _ k_M137_ _ k_hF141_ k_hs143_ k_z144_ k_h145_ k_hq_v6_86y k_hM_ => ?_)⟩)⟩)⟩)⟩)
    all_goals (have a := eT k_e8_; omega)) (fun x x' r st => by
    (try dsimp only at r st)
    have l2 := eT r.2.1.2.1
    refine xE_ST_X3_tryRows_77 st (fun k_hv0_77 _ k_hF_77 k_z19_ k_e20_ k_h21_ k_h22_ k_z23_ k_h24_ k_z25_ k_h26_ => ⟨(fun k_h27_ k_z28_ k_h29_ k_hq_v4_77y k_hM_ => ?_), (fun k_h27_ k_j32_ k_h33_ k_z30_ k_e31_ k_z34_ k_h35_ k_z36_ k_h37_ => ⟨(fun k_h38_ k_z39_ k_h40_ k_hq_v4_77y k_hM_ => ?_), (fun k_h38_ k_M41_ _ k_hF45_ k_hs47_ k_h43_ k_j50_ k_h51_ k_z48_ k_e49_ k_z52_ k_h53_ k_z54_ k_h55_ k_z56_ k_h57_ k_j60_ k_h61_ k_z58_ k_e59_ k_z62_ k_h63_ k_M64_ _ k_hF68_ k_hs70_ k_h66_ k_M71_ _ k_hF75_ k_hs77_ k_z79_ k_h80_ k_hq_v4_77y k_hM_ => ?_)⟩)⟩)
    all_goals (have a := eT k_e20_; omega))
  exact g.2.2
theorem learn_loopb {m : Nat} {QR : Nat → Int32 → Int32 → Int32 → mM → mM → Prop} {QD : Int32 → Int32 → Int32 → Int32 → Int32 → mM → mM → Prop} {v u t s dep i j : Int32} {C A D B : mM} (hA : 1 ≤ m → LRQ QR QD (8 - (m : Int))) (hB : LNO QR) (hm : m ≤ 7) (hk : dep.toInt = 7 - (m : Int)) (h1 : RCH (fun x_ y_ => ST_X3_tryRows_77b m QR 0 v u t C x_.1 x_.2 y_.1 y_.2) ((0 : Int32), C) (i, A)) (h2 : RCH (fun x_ y_ => ST_X12_tryRows_86 m QD dep u v s t D x_.1 x_.2 y_.1 y_.2) ((0 : Int32), D) (j, B))
    (hL : LRL s C D) (hP : LRP (7 - (m : Int)) C D) (hN : LRN C D) (hi : (A.1 (3, 0, 0) 3).toInt ≤ i.toInt ∨ 7 ≤ i.toInt) (hj : (B.1 (50, 0, 0) 3).toInt ≤ j.toInt) (h7 : (B.1 (50, 0, 0) 3).toInt ≤ 7) : LRP (7 - (m : Int)) A B ∧ LRN A B := by
  have g := lockE (fun x y => x.1.toInt = y.1.toInt ∧ LRL s x.2 y.2 ∧ LRP (7 - (m : Int)) x.2 y.2 ∧ LRN x.2 y.2) h1 h2 ⟨rfl, hL, hP, hN⟩ (fun x z y w r a b => learn_rowb hA hB hm hk a b r.1 r.2.1 r.2.2.1 r.2.2.2) (fun y y' r st => by
    (try dsimp only at r st)
    have l2 := eT r.2.1.2.1
    refine xE_ST_X12_tryRows_86 st (fun k_hv0_86 _ k_hF_86 k_z7_ k_e8_ k_h9_ k_h10_ k_z11_ k_h12_ k_z13_ k_h14_ => ⟨(fun k_h15_ k_z16_ k_h17_ k_hq_v6_86y k_hM_ => ?_), (fun k_h15_ k_z18_ k_h19_ k_z20_ k_h21_ k_z22_ k_h23_ k_j26_ k_h27_ k_z24_ k_e25_ k_z28_ k_h29_ k_z30_ k_h31_ => ⟨(fun k_h32_ k_z33_ k_h34_ k_hq_v6_86y k_hM_ => ?_), (fun k_h32_ k_z35_ k_e36_ k_h37_ => ⟨(fun k_h38_ k_h40_ k_j43_ k_h44_ k_M41_ k_hM42_ k_z47_ k_h48_ k_z49_ k_h50_ k_z51_ k_h52_ k_z53_ k_h54_ k_z55_ k_h56_ k_j59_ k_h60_ k_z57_ k_e58_ k_z61_ k_h62_ k_z63_ k_h64_ k_z65_ k_h66_ k_z67_ k_h68_ k_j71_ k_h72_ k_z69_ k_e70_ k_z73_ k_h74_ _ k_M75_ _ k_hF79_ k_hs81_ k_z82_ k_h83_ k_hq_v6_86y k_hM_ => ?_), (fun k_h38_ k_z84_ k_h85_ k_z86_ k_h87_ k_z88_ k_h89_ k_j92_ k_h93_ k_z90_ k_e91_ k_z94_ k_h95_ k_z96_ k_e97_ => ⟨(fun k_h98_ k_z99_ k_h100_ k_hq_v6_86y k_hM_ => ?_), (fun k_h98_ k_h102_ k_j105_ k_h106_ k_M103_ k_hM104_ k_z109_ k_h110_ k_z111_ k_h112_ k_z113_ k_h114_ k_z115_ k_h116_ k_z117_ k_h118_ k_j121_ k_h122_ k_z119_ k_e120_ k_z123_ k_h124_ k_z125_ k_h126_ k_z127_ k_h128_ k_z129_ k_h130_ k_j133_ k_h134_ k_z131_ k_e132_ k_z135_ k_h136_ _ k_M137_ _ k_hF141_ k_hs143_ k_z144_ k_h145_ k_hq_v6_86y k_hM_ => ?_)⟩)⟩)⟩)⟩)
    all_goals (have a := eT k_e8_; omega)) (fun x x' r st => by
    (try dsimp only at r st)
    have l2 := eT r.2.1.2.1
    refine xE_ST_X3_tryRows_77b st (fun k_hv0_77 _ k_hF_77 k_z85_ k_e86_ k_h87_ k_h88_ k_z89_ k_h90_ k_z91_ k_h92_ => ⟨(fun k_h93_ k_z94_ k_h95_ k_hq_v4_77y k_hM_ => ?_), (fun k_h93_ k_j98_ k_h99_ k_z96_ k_e97_ k_z100_ k_h101_ k_z102_ k_h103_ => ⟨(fun k_h104_ k_z105_ k_h106_ k_hq_v4_77y k_hM_ => ?_), (fun k_h104_ k_M107_ _ k_hF111_ k_hs113_ k_h109_ k_j116_ k_h117_ k_z114_ k_e115_ k_z118_ k_h119_ k_z120_ k_h121_ k_z122_ k_h123_ k_j126_ k_h127_ k_z124_ k_e125_ k_z128_ k_h129_ k_M130_ _ k_hF134_ k_hs136_ k_h132_ k_M137_ _ k_hF141_ k_hs143_ k_z145_ k_h146_ k_hq_v4_77y k_hM_ => ?_)⟩)⟩)
    all_goals (have a := eT k_e86_; omega))
  exact g.2.2
theorem tryD_stay {QD : Int32 → Int32 → Int32 → Int32 → Int32 → mM → mM → Prop} {v u t s q j : Int32} {D B : mM} (h2 : RCH (fun x_ y_ => ST_X12_tryRows_86 0 QD v u t s q D x_.1 x_.2 y_.1 y_.2) ((0 : Int32), D) (j, B)) : B = D := by
  have g := rind h2 (fun z => z.2 = D) rfl (fun x z p st => by
    (try dsimp only at p st ⊢)
    refine xE_ST_X12_tryRows_86 st (fun k_hv0_86 _ k_hF_86 k_z7_ k_e8_ k_h9_ k_h10_ k_z11_ k_h12_ k_z13_ k_h14_ => ⟨(fun k_h15_ k_z16_ k_h17_ k_hq_v6_86y k_hM_ => ?_), (fun k_h15_ k_z18_ k_h19_ k_z20_ k_h21_ k_z22_ k_h23_ k_j26_ k_h27_ k_z24_ k_e25_ k_z28_ k_h29_ k_z30_ k_h31_ => ⟨(fun k_h32_ k_z33_ k_h34_ k_hq_v6_86y k_hM_ => ?_), (fun k_h32_ k_z35_ k_e36_ k_h37_ => ⟨(fun k_h38_ k_h40_ k_j43_ k_h44_ k_M41_ k_hM42_ k_z47_ k_h48_ k_z49_ k_h50_ k_z51_ k_h52_ k_z53_ k_h54_ k_z55_ k_h56_ k_j59_ k_h60_ k_z57_ k_e58_ k_z61_ k_h62_ k_z63_ k_h64_ k_z65_ k_h66_ k_z67_ k_h68_ k_j71_ k_h72_ k_z69_ k_e70_ k_z73_ k_h74_ _ k_M75_ _ k_hF79_ k_hs81_ k_z82_ k_h83_ k_hq_v6_86y k_hM_ => ?_), (fun k_h38_ k_z84_ k_h85_ k_z86_ k_h87_ k_z88_ k_h89_ k_j92_ k_h93_ k_z90_ k_e91_ k_z94_ k_h95_ k_z96_ k_e97_ => ⟨(fun k_h98_ k_z99_ k_h100_ k_hq_v6_86y k_hM_ => ?_), (fun k_h98_ k_h102_ k_j105_ k_h106_ k_M103_ k_hM104_ k_z109_ k_h110_ k_z111_ k_h112_ k_z113_ k_h114_ k_z115_ k_h116_ k_z117_ k_h118_ k_j121_ k_h122_ k_z119_ k_e120_ k_z123_ k_h124_ k_z125_ k_h126_ k_z127_ k_h128_ k_z129_ k_h130_ k_j133_ k_h134_ k_z131_ k_e132_ k_z135_ k_h136_ _ k_M137_ _ k_hF141_ k_hs143_ k_z144_ k_h145_ k_hq_v6_86y k_hM_ => ?_)⟩)⟩)⟩)⟩)
    · rw [k_hM_]; exact p
    · rw [k_hM_]; exact p
    · omega
    · rw [k_hM_]; exact p
    · omega)
  exact g
theorem learn_step {N N2 m : Nat} {QR : Nat → Int32 → Int32 → Int32 → mM → mM → Prop} {QD : Int32 → Int32 → Int32 → Int32 → Int32 → mM → mM → Prop} (hA : 1 ≤ m → LRQ QR QD (8 - (m : Int))) (hB : LNO QR) (hm : m ≤ 7) : LRQ (SP_X3_tryRows N m QR) (SP_X12_tryRows N2 m QD) (7 - (m : Int)) := by
  intro v u t s dep C C2 D D2 h1 h2 hk hL hP hN hc
  by_cases hg : (s &&& (v ^^^ ((-1) : Int32))).toInt = 0
  · exact learn_goal h1 h2 hk (by omega) hL hP hN hg
  · have G : ∃ (j : Int32) (B : mM), RCH (fun x_ y_ => ST_X12_tryRows_86 m QD dep u v s t D x_.1 x_.2 y_.1 y_.2) ((0 : Int32), D) (j, B) ∧ (B.1 (50, 0, 0) 3).toInt ≤ j.toInt ∧ (B.1 (50, 0, 0) 3).toInt ≤ 7 ∧ D2 = B := by
      have gg : ∀ {z3 z1 : Int32}, z1 = v ^^^ ((-1) : Int32) → z3 = s &&& z1 → z3.toInt = 0 → False := fun e1 e3 q => hg (by rw [← e1, ← e3]; exact q)
      refine xE_SP_X12_tryRows h2 (fun b_z1_ b_h2_ b_z3_ b_h4_ => ⟨(fun b_h5_ b_v6_86 b_hv0_86 b_M_86 b_hL_86 _ b_hF_86 b_z7_ b_e8_ b_h9_ b_h10_ b_hM_ => ?_), (fun b_h5_ b_z146_ b_e147_ b_h148_ => ⟨(fun b_h149_ b_M150_ b_hM151_ b_M154_ b_hM155_ b_v6_56 b_hv0_56 b_M_56 b_hL_56 _ b_hF_56 b_h159_ b_hM_ => ?_), (fun b_h149_ b_z172_ b_e173_ => ⟨(fun b_h174_ b_M175_ b_hM176_ b_M179_ b_hM180_ b_v6_56 b_hv0_56 b_M_56 b_hL_56 _ b_hF_56 b_h184_ b_hM_ => ?_), (fun b_h174_ => ⟨(fun b_h199_ b_hM_ => ?_), (fun b_h199_ => ⟨(fun b_h202_ b_hM_ => ?_), (fun b_h202_ b_M203_ b_hM204_ b_M207_ b_hM208_ b_v6_56 b_hv0_56 b_M_56 b_hL_56 _ b_hF_56 b_h212_ b_hM_ => ?_)⟩)⟩)⟩)⟩)⟩)
      · have a := eT b_e8_
        exact ⟨_, _, b_hL_86, by omega, by omega, b_hM_⟩
      · exact (gg b_h2_ b_h4_ b_h5_).elim
      · exact (gg b_h2_ b_h4_ b_h5_).elim
      · exact (gg b_h2_ b_h4_ b_h5_).elim
      · exact (gg b_h2_ b_h4_ b_h5_).elim
      · exact (gg b_h2_ b_h4_ b_h5_).elim
    obtain ⟨j, B, g1, g2, g3, rfl⟩ := G
    have gg : ∀ {z5 z3 z1 : Int32}, z1 = C.1 (3, 0, 0) 6 → z3 = v ^^^ ((-1) : Int32) → z5 = z1 &&& z3 → z5.toInt = 0 → False := fun e1 e3 e5 q => hg (by rw [← hL.1, ← e1, ← e3, ← e5]; exact q)
    refine xE_SP_X3_tryRows h1 (fun a_z1_ a_e2_ a_z3_ a_h4_ a_z5_ a_h6_ => ⟨(fun a_h7_ a_r8_ a_hs12_ a_h11_ => ⟨(fun a_h13_ a_hM_ => ?_), (fun a_h13_ a_z14_ a_e15_ a_h16_ => ⟨(fun a_h17_ a_v4_77 a_hv0_77 a_M_77 a_hL_77 _ a_hF_77 a_z19_ a_e20_ => ⟨(fun a_h21_ a_hM_ => ?_), (fun a_h21_ a_h22_ a_hM_ => ?_)⟩), (fun a_h17_ a_z81_ a_e82_ => ⟨(fun a_h83_ a_v4_77 a_hv0_77 a_M_77 a_hL_77 _ a_hF_77 a_z85_ a_e86_ => ⟨(fun a_h87_ a_hM_ => ?_), (fun a_h87_ a_h88_ a_hM_ => ?_)⟩), (fun a_h83_ a_hM_ => ?_)⟩)⟩)⟩), (fun a_h7_ a_z147_ a_e148_ a_h149_ => ⟨(fun a_h150_ a_M151_ a_hM152_ a_M156_ a_hM157_ _ a_M161_ _ a_hF165_ a_hs167_ a_hM_ => ?_), (fun a_h150_ a_r169_ a_hs173_ a_h172_ => ⟨(fun a_h174_ a_hM_ => ?_), (fun a_h174_ a_M175_ a_hM176_ a_M180_ a_hM181_ _ a_M185_ _ a_hF189_ a_hs191_ a_hM_ => ?_)⟩)⟩)⟩)
    · obtain rfl : m = 0 := by omega
      rw [a_hM_, tryD_stay g1]
      exact ⟨hP, hN⟩
    · have a := eT a_e20_
      rw [a_hM_]
      exact learn_loop hA hB hm hk a_hL_77 g1 hL hP hN (by omega) g2 g3
    · rw [a_hM_]
      exact learn_loop hA hB hm hk a_hL_77 g1 hL hP hN (by omega) g2 g3
    · have a := eT a_e86_
      rw [a_hM_]
      exact learn_loopb hA hB hm hk a_hL_77 g1 hL hP hN (by omega) g2 g3
    · rw [a_hM_]
      exact learn_loopb hA hB hm hk a_hL_77 g1 hL hP hN (by omega) g2 g3
    · have a := eT a_e82_
      have b := eT a_e15_
      have c := hc (by omega)
      omega
    · exact (gg a_e2_ a_h4_ a_h6_ a_h7_).elim
    · exact (gg a_e2_ a_h4_ a_h6_ a_h7_).elim
    · exact (gg a_e2_ a_h4_ a_h6_ a_h7_).elim
theorem learn_all : ∀ m : Nat, m ≤ 7 → LRQ (SPTc m) (SPTd m) (7 - (m : Int)) ∧ LNO (SPTc m)
  | 0, _ => ⟨learn_step (fun q => absurd q (by omega)) (fun _ _ _ _ _ q => q.elim) (by omega), learn_no⟩
  | m + 1, h => by
    have ih := learn_all m (by omega)
    refine ⟨learn_step (fun _ => ?_) ih.2 h, learn_no⟩
    have e : (8 : Int) - ((m + 1 : Nat) : Int) = 7 - (m : Int) := by omega
    rw [e]
    exact ih.1
def LVAL (v u t : Int32) : Prop := (0 ≤ v.toInt ∧ v.toInt ≤ 31) ∧ (0 ≤ u.toInt ∧ u.toInt ≤ 31) ∧ -2 ≤ t.toInt
theorem learnC {v u t r1 : Int32} {M M1 : mM} (h : SP_X11_learn v u t M r1 M1) : (¬ LVAL v u t ∧ r1.toInt = -1000001) ∨ (LVAL v u t ∧ ∃ (r : Int32) (N : mM), SP_X3_findRow 0 v u M r N ∧ ((r.toInt = 0 ∧ r1.toInt = -1000002) ∨ (¬ r.toInt = 0 ∧ t.toInt = -1 ∧ r1 = N.1 (3, 0, 0) 7) ∨ (¬ r.toInt = 0 ∧ t.toInt = -2 ∧ r1 = N.1 (5, 0, 3) 1) ∨ (¬ r.toInt = 0 ∧ 0 ≤ t.toInt ∧ (N.1 (5, 0, 3) 1).toInt ≤ t.toInt ∧ r1.toInt = -1000002) ∨ (¬ r.toInt = 0 ∧ 0 ≤ t.toInt ∧ t.toInt < (N.1 (5, 0, 3) 1).toInt ∧ SP_X5_get 0 3 t N r1))) := by
  unfold LVAL
  refine xE_SP_X11_learn h ⟨(fun hs5_ h4_ => ⟨(fun hs11_ h10_ => ⟨(fun h13_ M15_ _ hF19_ r14_ hs21_ h17_ => ⟨(fun h22_ => ⟨(fun h23_ => ⟨(fun h24_ z25_ e26_ => ⟨(fun h27_ M29_ _ hF33_ r28_ hs35_ hr_ hM_ => ?_), (fun h27_ r36_ hs40_ hr_ hM_ => ?_)⟩), (fun h24_ z41_ e42_ hr_ hM_ => ?_)⟩), (fun h23_ z43_ e44_ hr_ hM_ => ?_)⟩), (fun h22_ M46_ _ hF50_ r45_ hs52_ hr_ hM_ => ?_)⟩), (fun h13_ M54_ _ hF58_ r53_ hs60_ hr_ hM_ => ?_)⟩), (fun hs11_ h10_ M63_ _ hF67_ r62_ hs69_ hr_ hM_ => ?_)⟩), (fun hs5_ h4_ M72_ _ hF76_ r71_ hs78_ hr_ hM_ => ?_)⟩
  · have a := eT e26_
    refine Or.inr ⟨⟨h4_, h10_, h13_⟩, _, _, hs21_, Or.inr (Or.inr (Or.inr (Or.inl ⟨h22_, by omega, by omega, ?_⟩)))⟩
    rw [hr_]; exact err2 hs35_
  · have a := eT e26_
    rw [← hr_] at hs40_
    exact Or.inr ⟨⟨h4_, h10_, h13_⟩, _, _, hs21_, Or.inr (Or.inr (Or.inr (Or.inr ⟨h22_, by omega, by omega, hs40_⟩)))⟩
  · exact Or.inr ⟨⟨h4_, h10_, h13_⟩, _, _, hs21_, Or.inr (Or.inr (Or.inl ⟨h22_, h24_, by rw [hr_, e42_]⟩))⟩
  · exact Or.inr ⟨⟨h4_, h10_, h13_⟩, _, _, hs21_, Or.inr (Or.inl ⟨h22_, h23_, by rw [hr_, e44_]⟩)⟩
  · exact Or.inr ⟨⟨h4_, h10_, h13_⟩, _, _, hs21_, Or.inl ⟨h22_, by rw [hr_]; exact err2 hs52_⟩⟩
  · exact Or.inl ⟨fun q => by omega, by rw [hr_]; exact err1 hs60_⟩
  · exact Or.inl ⟨fun q => h10_ q.2.1, by rw [hr_]; exact err1 hs69_⟩
  · exact Or.inl ⟨fun q => h4_ q.1, by rw [hr_]; exact err1 hs78_⟩
theorem learnD {v u t r2 : Int32} {D D2 : mM} (h : SP_X12_learn v u t D r2 D2) : (¬ LVAL v u t ∧ r2.toInt = -1000001) ∨ (LVAL v u t ∧ ∃ (A B N : mM), A = up D (12, 0, 0) 22 (-1) ∧ B = up A (12, 0, 0) 23 0 ∧ SP_X12_try7 v u B N ∧ (((N.1 (12, 0, 0) 22).toInt < 0 ∧ r2.toInt = -1000002) ∨ (0 ≤ (N.1 (12, 0, 0) 22).toInt ∧ t.toInt = -1 ∧ r2 = N.1 (12, 0, 0) 23) ∨ (0 ≤ (N.1 (12, 0, 0) 22).toInt ∧ t.toInt = -2 ∧ r2 = N.1 (12, 0, 0) 22) ∨ (0 ≤ (N.1 (12, 0, 0) 22).toInt ∧ 0 ≤ t.toInt ∧ (N.1 (12, 0, 0) 22).toInt ≤ t.toInt ∧ r2.toInt = -1000002) ∨ (0 ≤ (N.1 (12, 0, 0) 22).toInt ∧ 0 ≤ t.toInt ∧ t.toInt < (N.1 (12, 0, 0) 22).toInt ∧ r2 = N.1 (63, 0, 0) t.toInt.toNat))) := by
  unfold LVAL
  refine xE_SP_X12_learn h ⟨(fun hs5_ h4_ => ⟨(fun hs11_ h10_ => ⟨(fun h13_ M14_ hM15_ M18_ hM19_ _ M22_ _ hF26_ hs28_ z29_ e30_ h31_ => ⟨(fun h32_ M34_ _ hF38_ r33_ hs40_ h36_ hr_ hM_ => ?_), (fun h32_ => ⟨(fun h43_ => ⟨(fun h44_ => ⟨(fun h45_ j48_ h49_ z46_ e47_ hr_ hM_ => ?_), (fun h45_ hr_ hM_ => ?_)⟩), (fun h44_ z52_ e53_ hr_ hM_ => ?_)⟩), (fun h43_ M55_ _ hF59_ r54_ hs61_ h57_ hr_ hM_ => ?_)⟩)⟩), (fun h13_ M63_ _ hF67_ r62_ hs69_ h65_ hr_ hM_ => ?_)⟩), (fun hs11_ h10_ M72_ _ hF76_ r71_ hs78_ h74_ hr_ hM_ => ?_)⟩), (fun hs5_ h4_ M81_ _ hF85_ r80_ hs87_ h83_ hr_ hM_ => ?_)⟩
  · have a := eT e30_
    exact Or.inr ⟨⟨h4_, h10_, h13_⟩, _, _, _, hM15_, hM19_, hs28_, Or.inl ⟨by omega, by rw [hr_]; exact h36_⟩⟩
  · have a := eT e30_
    exact Or.inr ⟨⟨h4_, h10_, h13_⟩, _, _, _, hM15_, hM19_, hs28_, Or.inr (Or.inr (Or.inr (Or.inr ⟨by omega, by omega, by omega, by rw [hr_, e47_, show j48_ = t.toInt.toNat by omega]⟩)))⟩
  · have a := eT e30_
    exact Or.inr ⟨⟨h4_, h10_, h13_⟩, _, _, _, hM15_, hM19_, hs28_, Or.inr (Or.inr (Or.inl ⟨by omega, h45_, by rw [hr_, e30_]⟩))⟩
  · have a := eT e30_
    exact Or.inr ⟨⟨h4_, h10_, h13_⟩, _, _, _, hM15_, hM19_, hs28_, Or.inr (Or.inl ⟨by omega, h44_, by rw [hr_, e53_]⟩)⟩
  · have a := eT e30_
    exact Or.inr ⟨⟨h4_, h10_, h13_⟩, _, _, _, hM15_, hM19_, hs28_, Or.inr (Or.inr (Or.inr (Or.inl ⟨by omega, by omega, by omega, by rw [hr_]; exact h57_⟩)))⟩
  · exact Or.inl ⟨fun q => by omega, by rw [hr_]; exact h65_⟩
  · exact Or.inl ⟨fun q => h10_ q.2.1, by rw [hr_]; exact h74_⟩
  · exact Or.inl ⟨fun q => h4_ q.1, by rw [hr_]; exact h83_⟩
theorem find_both {v u r : Int32} {M N D A B N2 : mM} (h1 : SP_X3_findRow 0 v u M r N) (hA : A = up D (12, 0, 0) 22 (-1)) (hB : B = up A (12, 0, 0) 23 0) (h2 : SP_X12_try7 v u B N2) (hE : LER 0 M.1 (D.1 (50, 0, 0))) (h3 : M.1 (3, 0, 0) 3 = D.1 (50, 0, 0) 3) : r = N.1 (3, 0, 0) 8 ∧ LRN N N2 := by
  have q0 := il_0
  have q1 := il_m1
  refine xE_SP_X3_findRow h1 (fun M1_ hM2_ M5_ hM6_ M9_ hM10_ _ M13_ _ hF17_ hs19_ h15_ M20_ _ hF24_ hs26_ M28_ _ hF32_ hs34_ z35_ e36_ h37_ hr_ hM_ => ?_)
  have c2 : (M13_.1 (5, 0, 2) 1).toInt = 0 ∧ ∀ (c : rf) (k : Nat), ¬ c.1 = 5 → M13_.1 c k = M9_.1 c k := by
    refine ⟨h15_, fun c k hc => ?_⟩
    refine xE_SP_X5_clear2 hs19_ (fun c_M1_ c_hM2_ c_hM_ => ?_)
    rw [c_hM_, zupR c_hM2_ hc]
  have c3 : M20_.1 (5, 0, 2) 1 = M13_.1 (5, 0, 2) 1 ∧ ∀ (c : rf) (k : Nat), ¬ c.1 = 5 → M20_.1 c k = M13_.1 c k := by
    refine xE_SP_X5_clear hs26_ (fun c_M1_ c_hM2_ c_hM_ => ?_)
    rw [c_hM_]
    refine ⟨zupN c_hM2_ (fun z => absurd (congrArg (fun c : rf => c.2.2) z.1) (show ¬ (2 : Nat) = 3 by omega)), fun c k hc => zupR c_hM2_ hc⟩
  have c9 : ∀ (c : rf) (k : Nat), ¬ c.1 = 3 → M9_.1 c k = M.1 c k := fun c k hc => by rw [zupR hM10_ hc, zupR hM6_ hc, zupR hM2_ hc]
  have dd : ∀ (c : rf) (k : Nat), ¬ c.1 = 12 → B.1 c k = D.1 c k := fun c k hc => by rw [zupR hB hc, zupR hA hc]
  have e8 : M20_.1 (3, 0, 0) 8 = 0 := by rw [c3.2 _ _ (by simp), c2.2 _ _ (by simp), zupN hM10_ (fun z => absurd z.2 (by omega)), zupE hM6_ rfl rfl]
  have d22 : B.1 (12, 0, 0) 22 = -1 := by rw [zupN hB (fun z => absurd z.2 (by omega)), zupE hA rfl rfl]
  have g8 := eT e8
  have g22 := eT d22
  have n50 : B.1 (50, 0, 0) = D.1 (50, 0, 0) := funext fun k => dd _ _ (by simp)
  have c5 := eT c3.1
  have G := (learn_all 7 (by omega)).1 _ _ _ _ _ _ _ _ _ hs34_ h2 (by omega)
    ⟨by rw [c3.2 _ _ (by simp), c2.2 _ _ (by simp), zupN hM10_ (fun z => absurd z.2 (by omega)), zupN hM6_ (fun z => absurd z.2 (by omega)), zupE hM2_ rfl rfl], by rw [n50, c3.2 _ _ (by simp), c2.2 _ _ (by simp), zupN hM10_ (fun z => absurd z.2 (by omega)), zupN hM6_ (fun z => absurd z.2 (by omega)), zupN hM2_ (fun z => absurd z.2 (by omega))]; exact h3, fun l hl => by
      rw [n50] at hl ⊢
      rw [c3.2 _ _ (by simp), c2.2 _ _ (by simp), c9 _ _ (by simp), c3.2 _ _ (by simp), c2.2 _ _ (by simp), c9 _ _ (by simp), c3.2 _ _ (by simp), c2.2 _ _ (by simp), c9 _ _ (by simp)]
      exact hE l hl⟩
    ⟨by omega, fun i hi => absurd hi (by omega)⟩ (Or.inl ⟨by omega, by omega⟩) (fun q => absurd g8 (by omega))
  rw [hM_]
  exact ⟨by rw [hr_, e36_], G.2⟩
theorem an_28 {v : Int32} {u : Int32} {t : Int32} {M M1 D D2 : mM} {r1 r2 : Int32} (h1 : SP_X11_learn v u t M r1 M1) (h2 : SP_X12_learn v u t D r2 D2) (hR : RW 0 M.1 (D.1 (50, 0, 0))) (hD : InvD D) (hu : (D.1 (12, 0, 0) 7).toInt = -1) (h3 : M.1 (3, 0, 0) 3 = D.1 (50, 0, 0) 3) : r1 = r2 := by
  have a := learnC h1
  have b := learnD h2
  rcases a with ⟨a1, a2⟩ | ⟨a1, r, N, a2, a3⟩
  · rcases b with ⟨b1, b2⟩ | ⟨b1, -⟩
    · exact i32e (by omega)
    · exact absurd b1 a1
  · rcases b with ⟨b1, -⟩ | ⟨b1, A, B, N2, b2, b3, b4, b5⟩
    · exact absurd a1 b1
    · have F := find_both a2 b2 b3 b4 hR.2.1 h3
      have f8 := eT F.1
      rcases F.2 with ⟨n1, n2⟩ | ⟨n1, n2, n3, n4, n5, n6⟩
      · rcases a3 with c | c | c | c | c
        · rcases b5 with d | d | d | d | d
          · exact i32e (by omega)
          · exact absurd d.1 (by omega)
          · exact absurd d.1 (by omega)
          · exact absurd d.1 (by omega)
          · exact absurd d.1 (by omega)
        · exact absurd c.1 (by omega)
        · exact absurd c.1 (by omega)
        · exact absurd c.1 (by omega)
        · exact absurd c.1 (by omega)
      · have m5 := eT n5
        rcases a3 with c | c | c | c | c
        · exact absurd c.1 (by omega)
        · rcases b5 with d | d | d | d | d
          · exact absurd d.1 (by omega)
          · rw [c.2.2, d.2.2, n4]
          · exact absurd d.2.1 (by omega)
          · exact absurd d.2.1 (by omega)
          · exact absurd d.2.1 (by omega)
        · rcases b5 with d | d | d | d | d
          · exact absurd d.1 (by omega)
          · exact absurd d.2.1 (by omega)
          · rw [c.2.2, d.2.2, n5]
          · exact absurd d.2.1 (by omega)
          · exact absurd d.2.1 (by omega)
        · rcases b5 with d | d | d | d | d
          · exact absurd d.1 (by omega)
          · exact absurd d.2.1 (by omega)
          · exact absurd d.2.1 (by omega)
          · exact i32e (by omega)
          · exact absurd d.2.2.1 (by omega)
        · rcases b5 with d | d | d | d | d
          · exact absurd d.1 (by omega)
          · exact absurd d.2.1 (by omega)
          · exact absurd d.2.1 (by omega)
          · exact absurd d.2.2.1 (by omega)
          · obtain ⟨c1, c2, c3, c4⟩ := c
            have r3 : rl 3 = 7 := rfl
            rw [d.2.2.2]
            refine xE_SP_X5_get c4 ⟨(fun k_h1_ k_hr_ => ?_), (fun k_h1_ k_z2_ k_e3_ => ⟨(fun k_h4_ k_hr_ => ?_), (fun k_h4_ k_z5_ k_h6_ => ⟨(fun k_h7_ k_hr_ => ?_), (fun k_h7_ k_j10_ k_h11_ k_z8_ k_e9_ k_hr_ => ?_)⟩)⟩)⟩
            · exact absurd k_h1_ (by omega)
            · have := eT k_e3_
              exact absurd k_h4_ (by omega)
            · have := eT k_e3_
              exact absurd k_h7_ (by omega)
            · rw [k_hr_, k_e9_, show k_j10_ = t.toInt.toNat by omega]
              exact n6 _ (by omega)
