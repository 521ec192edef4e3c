theorem OCC_b2 {b b2 : Nat} {q q2 : rf → Nat → Int32} {n : Nat → Int32} (h : OCC b2 q n) (hN : NW5 n) (hq : ∀ k, k < 192 → q2 (35, b, 0) k = q (35, b2, 0) k) : OCC b q2 n := by
  have th := nTh_b hN
  have nw := nWa_b hN
  have eo : ∀ k, k < 192 → occ b q2 k = occ b2 q k := fun k hk => by unfold occ; rw [hq k hk]
  obtain ⟨h1, h2, h3⟩ := h
  refine ⟨fun t a c => ?_, fun w a => ?_, fun c hc => ?_⟩
  · have z := ((hN.1 (21 + 4 * t)).2.2.2.2.2.2.1 (by omega) (by omega)).2.1 (by omega)
    have e : tcl n t = (n (21 + 4 * t)).toInt := rfl
    rw [eo _ (by omega)]; exact h1 t a c
  · have z := ((hN.1 (181 + 9 * w)).2.2.2.2.2.2.2 (by omega) (by omega)).2.1 (by omega)
    have e : wcl n w = (n (181 + 9 * w)).toInt := rfl
    rw [eo _ (by omega)]; exact h2 w a
  · rw [eo c hc]; exact h3 c hc
theorem RW_take {b b2 : Nat} {M M1 : mM} {n : Nat → Int32} (h : RW b2 M.1 n) (hN : NW5 n) (ht : SP_X10_takeFrom b b2 M M1) (hb : ¬ b = b2) (h0 : (M.1 (5, b2, 0) 1).toInt = (n 4).toInt) (h1 : (M.1 (5, b2, 1) 1).toInt = (n 5).toInt) : RW b M1.1 n := by
  have hl0 : rl 0 = 48 := rfl
  have hl1 : rl 1 = 24 := rfl
  have q0 := il_0
  have rn : nWa n = (n 2).toInt := rfl
  have th := nTh_b hN
  have nw := nWa_b hN
  have nb := n345_b hN
  have X := x10take ht hb (by omega) (by omega)
  obtain ⟨X1, X2, X3, X4, X5⟩ := X
  obtain ⟨⟨hL, hT, hW, hXt, hO, hM⟩, hE, hA, hY⟩ := h
  have e10 := eT hW.1
  have ne : ∀ (r w : Nat), ¬ ((r, b2, w) : rf) = (r, b, w) := fun r w z => hb (congrArg (fun c : rf => c.2.1) z).symm
  unfold SP_X10_takeFrom at ht
  rcases ht with ⟨M1_, -, hF5_, hs7_, M8_, -, hF12_, hs14_, M15_, -, hF19_, hs21_, M22_, -, hF26_, hs28_, M29_, -, hF33_, hs35_, z36_, e37_, M38_, hM39_, z42_, e43_, M44_, hM45_, v2_73, hv0_73, M_73, hL_73, -, hF_73, z49_, e50_, (⟨h51_, hM_⟩ | ⟨h51_, h52_, hM_⟩)⟩
  all_goals
    have g7 : ∀ (c : rf) (k : Nat), ¬ (c.2.1 = b ∧ (c.1 = 35 ∨ c.1 = 36 ∨ c.1 = 37 ∨ c.1 = 38 ∨ c.1 = 39 ∨ c.1 = 7)) → M1_.1 c k = M.1 c k := fun c k hc => hF5_ c k (fun q => by simp only [S_c_X7_takeFrom, or_false] at q; omega)
    have g2 : ∀ (c : rf) (k : Nat), ¬ (c.2.1 = b ∧ (c.1 = 2 ∨ c.1 = 26 ∨ c.1 = 27 ∨ c.1 = 1 ∨ c.1 = 24)) → M8_.1 c k = M1_.1 c k := fun c k hc => hF12_ c k (fun q => by simp only [S_c_X2_takeFrom, or_false] at q; omega)
    have g3 : ∀ (c : rf) (k : Nat), ¬ (c.2.1 = b ∧ (c.1 = 3 ∨ c.1 = 30 ∨ c.1 = 31 ∨ c.1 = 32)) → M15_.1 c k = M8_.1 c k := fun c k hc => hF19_ c k (fun q => by simp only [S_c_X3_takeFrom, or_false] at q; omega)
    have g5 : ∀ (c : rf) (k : Nat), ¬ ((c.1 = 5 ∨ c.1 = 33) ∧ c.2.1 = b ∧ c.2.2 = 0) → M22_.1 c k = M15_.1 c k := fun c k hc => hF26_ c k (fun q => by simp only [S_c_X5_takeFrom, or_false] at q; omega)
    have g6 : ∀ (c : rf) (k : Nat), ¬ ((c.1 = 5 ∨ c.1 = 33) ∧ c.2.1 = b ∧ c.2.2 = 1) → M29_.1 c k = M22_.1 c k := fun c k hc => hF33_ c k (fun q => by simp only [S_c_X5_takeFrom, or_false] at q; omega)
    have g8 : ∀ (c : rf) (k : Nat), ¬ c = (10, b, 0) → M44_.1 c k = M29_.1 c k := fun c k hc => by rw [zupN hM45_ (fun z => hc z.1), zupN hM39_ (fun z => hc z.1)]
    -- what stands in the other world all the time
    have s29 : ∀ (r w k : Nat), M29_.1 (r, b2, w) k = M.1 (r, b2, w) k := fun r w k => by rw [g6 _ _ (fun z => by have := z.2.1; dsimp only at this; omega), g5 _ _ (fun z => by have := z.2.1; dsimp only at this; omega), g3 _ _ (fun z => by have := z.1; dsimp only at this; omega), g2 _ _ (fun z => by have := z.1; dsimp only at this; omega), g7 _ _ (fun z => by have := z.1; dsimp only at this; omega)]
    have s44 : ∀ (r w k : Nat), M44_.1 (r, b2, w) k = M.1 (r, b2, w) k := fun r w k => by rw [g8 _ _ (fun z => hb (congrArg (fun c : rf => c.2.1) z).symm), s29]
    have a := x9loop hL_73
    have L := rind hL_73 (fun z => 0 ≤ z.1.toInt ∧ (∀ (r w k : Nat), z.2.1 (r, b2, w) k = M44_.1 (r, b2, w) k) ∧ ∀ w : Nat, (w : Int) < z.1.toInt → (∀ k, k < 9 → z.2.1 (9, b, w) k = M.1 (9, b2, w) k) ∧ ∀ k, k < 192 → z.2.1 (40, b, w) k = M.1 (40, b2, w) k ∧ z.2.1 (41, b, w) k = M.1 (41, b2, w) k) ⟨by dsimp only; omega, fun _ _ _ => rfl, fun w hw => by dsimp only at hw; omega⟩ (fun x z p st => by
      (try dsimp only at p st ⊢)
      obtain ⟨p1, p2, p3⟩ := p
      unfold ST_X10_takeFrom_73 at st
      rcases st with ⟨k_hv0_73, -, k_hF_73, k_z49_, k_e50_, k_h51_, k_h52_, k_j53_, k_h54_, k_h55_, k_j56_, k_h57_, k_h58_, k_M59_, -, k_hF63_, k_hs65_, k_z66_, k_h67_, k_hq_v2_73y, k_hM_⟩
      have e := eT k_hq_v2_73y
      obtain rfl : k_j53_ = k_j56_ := by omega
      have tk := x9take k_hs65_ hb
      rw [k_hM_]
      refine ⟨by omega, fun r w k => ?_, fun w hw => ?_⟩
      · rw [k_hF63_ _ _ (fun q => by simp only [S_c_X9_takeFrom, or_false] at q; omega)]; exact p2 r w k
      · by_cases e2 : (w : Int) = x.1.toInt
        · obtain rfl : w = k_j53_ := by omega
          exact ⟨fun k hk => by rw [tk.1 k hk, p2, s44], fun k hk => ⟨by rw [(tk.2 k hk).1, p2, s44], by rw [(tk.2 k hk).2, p2, s44]⟩⟩
        · have g := p3 w (by omega)
          exact ⟨fun k hk => by rw [k_hF63_ _ _ (fun q => by simp only [S_c_X9_takeFrom, or_false] at q; omega)]; exact g.1 k hk, fun k hk => ⟨by rw [k_hF63_ _ _ (fun q => by simp only [S_c_X9_takeFrom, or_false] at q; omega)]; exact (g.2 k hk).1, by rw [k_hF63_ _ _ (fun q => by simp only [S_c_X9_takeFrom, or_false] at q; omega)]; exact (g.2 k hk).2⟩⟩)
    (try dsimp only at L)
    obtain ⟨L1, L2, L3⟩ := L
    have t7 := x7take hs7_
    have tt := x2takeT hs14_ hb
    have t3 := x3takeT hs21_
    have c50 : M15_.1 (5, b2, 0) 1 = M.1 (5, b2, 0) 1 := by rw [g3 _ _ (by simp), g2 _ _ (by simp), g7 _ _ (by simp)]
    have c51 : M22_.1 (5, b2, 1) 1 = M.1 (5, b2, 1) 1 := by rw [g5 _ _ (by simp), g3 _ _ (by simp), g2 _ _ (by simp), g7 _ _ (by simp)]
    have t5 := x5takeT hs28_ hb (by rw [c50]; omega)
    have t6 := x5takeT hs35_ hb (by rw [c51]; omega)
    rw [c50] at t5
    rw [c51] at t6
    have f10 : M_73.1 (10, b, 0) 6 = M.1 (10, b2, 0) 6 := by rw [a _ _ (by simp), zupN hM45_ (by simp), zupE hM39_ rfl rfl, e37_, s29]
    have y49 := eT e50_
    rw [f10] at y49
    have F : ∀ (c : rf) (k : Nat), ¬ (c.1 = 9 ∨ c.1 = 40 ∨ c.1 = 41) → ¬ c.1 = 10 → M_73.1 c k = M29_.1 c k := fun c k h1 h2 => by rw [a c k h1, g8 c k (fun z => h2 (by rw [z]))]
    have F7 : ∀ (c : rf) (k : Nat), (c.1 = 35 ∨ c.1 = 36 ∨ c.1 = 37 ∨ c.1 = 38 ∨ c.1 = 39 ∨ c.1 = 7) → M_73.1 c k = M1_.1 c k := fun c k hc => by rw [F c k (by omega) (by omega), g6 _ _ (by omega), g5 _ _ (by omega), g3 _ _ (by omega), g2 _ _ (by omega)]
    have FT : ∀ (c : rf) (k : Nat), (c.1 = 1 ∨ c.1 = 24) → M_73.1 c k = M8_.1 c k := fun c k hc => by rw [F c k (by omega) (by omega), g6 _ _ (by omega), g5 _ _ (by omega), g3 _ _ (by omega)]
    have F3 : ∀ (c : rf) (k : Nat), (c.1 = 30 ∨ c.1 = 31 ∨ c.1 = 32) → M_73.1 c k = M15_.1 c k := fun c k hc => by rw [F c k (by omega) (by omega), g6 _ _ (by omega), g5 _ _ (by omega)]
    rw [hM_] at X1 X2 X3 X4 X5 ⊢
    refine ⟨⟨⟨X1.trans hL.1, fun k hk => (X4 k (by omega)).trans (hL.2.1 k hk), fun k hk => ⟨(X5 k hk).1.trans (hL.2.2 k hk).1, (X5 k hk).2.trans (hL.2.2 k hk).2⟩⟩, ⟨?_, fun t ht => ?_⟩, ⟨f10.trans hW.1, fun w hw => ?_⟩, fun u hu => ?_, OCC_b2 hO hN (fun k hk => ?_), hM⟩, fun l hl => ?_, fun i hi => ?_, fun i hi => ?_⟩
    · rw [F7 _ _ (by simp), t7.1]; exact hT.1
    · have g := t7.2.2 t (by omega)
      rw [F7 _ _ (by simp), F7 (37, b, 0) _ (by simp), F7 (38, b, 0) _ (by simp), F7 (39, b, 0) _ (by simp), g.1, g.2.1, g.2.2.1, g.2.2.2]
      exact hT.2 t ht
    · have g := L3 w (by omega)
      exact ⟨fun k hk => (g.1 k hk).trans ((hW.2 w hw).1 k hk), fun c hc => ⟨(g.2 c hc).1.trans ((hW.2 w hw).2 c hc).1, (g.2 c hc).2.trans ((hW.2 w hw).2 c hc).2⟩⟩
    · have g := tt u hu
      have z := TXz hN u hu
      have m1 : ∀ (c : rf) (k : Nat), c.1 = 1 ∨ c.1 = 24 → M1_.1 c k = M.1 c k := fun c k hc => g7 c k (by omega)
      rw [FT _ _ (by simp), g.1, m1 _ _ (by simp)]
      refine ⟨(hXt u hu).1, fun i hi => ?_⟩
      rw [FT _ _ (by simp), g.2 i (by omega), m1 _ _ (by simp)]
      exact (hXt u hu).2 i hi
    · rw [F7 _ _ (by simp), t7.2.1 k hk]
    · have g := t3 l (by omega)
      have m8 : ∀ (r k : Nat), r = 30 ∨ r = 31 ∨ r = 32 → M8_.1 (r, b2, 0) k = M.1 (r, b2, 0) k := fun r k hr => by rw [g2 _ _ (by dsimp only; omega), g7 _ _ (by dsimp only; omega)]
      rw [F3 _ _ (by simp), F3 (31, b, 0) _ (by simp), F3 (32, b, 0) _ (by simp), g.1, g.2.1, g.2.2, m8 _ _ (by simp), m8 _ _ (by simp), m8 _ _ (by simp)]
      exact hE l hl
    · rw [F _ _ (by simp) (by simp), g6 _ _ (by simp), t5 i (by omega), g3 _ _ (by simp), g2 _ _ (by simp), g7 _ _ (by simp)]
      exact hA i hi
    · rw [F _ _ (by simp) (by simp), t6 i (by omega), g5 _ _ (by simp), g3 _ _ (by simp), g2 _ _ (by simp), g7 _ _ (by simp)]
      exact hY i hi
