/-! spots(): what a click from a cell would tell, both marks -/
def LNc (n : Nat → Int32) (w : Nat) (c : Int) : Prop := (n (495 + 384 * w + c.toNat)).toInt = (n (687 + 384 * w + c.toNat)).toInt ∧ (n (495 + 384 * w + c.toNat)).toInt < 99
def RAY (n : Nat → Int32) (o : Nat → Int) (w : Nat) (cell : Int32) (k c : Int) : Prop := ∃ (s : Int32) (r y : Int), (0 ≤ s.toInt ∧ s.toInt < k) ∧ HyP n o w cell s r ∧ (1 ≤ y ∧ y ≤ r) ∧ onI cell.toInt s.toInt y = c
def RAYi (n : Nat → Int32) (o : Nat → Int) (w : Nat) (cell : Int32) (k m c : Int) : Prop := RAY n o w cell k c ∨ ∃ y : Int, (1 ≤ y ∧ y < m) ∧ onI cell.toInt k y = c
theorem RAY_next {n : Nat → Int32} {o : Nat → Int} {w : Nat} {cell s : Int32} {k k' m r c : Int} (hs : s.toInt = k) (h0 : 0 ≤ k) (e : k' = k + 1) (hr : HyP n o w cell s r) (hm : m = r + 1) : RAY n o w cell k' c ↔ RAYi n o w cell k m c := by
  constructor
  · rintro ⟨s', r', y, z1, z2, z3, z4⟩
    by_cases q : s'.toInt = k
    · have es : s' = s := i32e (by omega)
      rw [es] at z2 z4
      have er := HyP_uniq z2 hr
      exact Or.inr ⟨y, by omega, by rw [← hs]; exact z4⟩
    · exact Or.inl ⟨s', r', y, by omega, z2, z3, z4⟩
  · rintro (⟨s', r', y, z1, z2, z3, z4⟩ | ⟨y, z1, z2⟩)
    · exact ⟨s', r', y, by omega, z2, z3, z4⟩
    · exact ⟨s, r, y, by omega, hr, by omega, by rw [hs]; exact z2⟩
theorem RAYi_step {n : Nat → Int32} {o : Nat → Int} {w : Nat} {cell : Int32} {k m m' c : Int} (e : m' = m + 1) (h1 : 1 ≤ m) : RAYi n o w cell k m' c ↔ RAYi n o w cell k m c ∨ onI cell.toInt k m = c := by
  constructor
  · rintro (h | ⟨y, z1, z2⟩)
    · exact Or.inl (Or.inl h)
    · by_cases q : y = m
      · rw [q] at z2
        exact Or.inr z2
      · exact Or.inl (Or.inr ⟨y, by omega, z2⟩)
  · rintro ((h | ⟨y, z1, z2⟩) | h)
    · exact Or.inl h
    · exact Or.inr ⟨y, by omega, z2⟩
    · exact Or.inr ⟨m, by omega, h⟩
theorem RAYi_0 {n : Nat → Int32} {o : Nat → Int} {w : Nat} {cell : Int32} {k c : Int} : RAYi n o w cell k 1 c ↔ RAY n o w cell k c := by
  constructor
  · rintro (h | ⟨y, z1, -⟩)
    · exact h
    · omega
  · exact Or.inl
theorem RAY_0 {n : Nat → Int32} {o : Nat → Int} {w : Nat} {cell : Int32} {c : Int} : ¬ RAY n o w cell 0 c := fun ⟨s, r, y, z1, _⟩ => by omega
theorem bl_or (x y : Int64) (j : Nat) : bl (x ||| y) j = (bl x j || bl y j) := by
  unfold bl
  rw [Int64.toBitVec_or, BitVec.getLsbD_or]
theorem bl_0 (j : Nat) : bl 0 j = false := BitVec.getLsbD_zero
theorem bl_1 : ∀ k, k < 64 → ∀ j, j < 64 → bl ((1 : Int64) <<< ((nI k).toInt64 &&& 63)) j = decide (j = k) := by decide +kernel
theorem bl_1v {z : Int32} {j : Nat} (hz : 0 ≤ z.toInt ∧ z.toInt < 64) (hj : j < 64) : bl ((1 : Int64) <<< (z.toInt64 &&& 63)) j = decide ((j : Int) = z.toInt) := by
  have e : z = nI z.toInt.toNat := nI_of_toInt (by omega)
  have t := bl_1 z.toInt.toNat (by omega) j hj
  rw [← e] at t
  rw [t]
  by_cases q : (j : Int) = z.toInt
  · rw [decide_eq_true q, decide_eq_true (by omega)]
  · rw [decide_eq_false q, decide_eq_false (by omega)]
theorem upL_at {M M' : mM} {k j : Nat} {x : Int64} (h : M' = upL M k x) : M'.2 j = if j = k then x else M.2 j := by rw [h]; rfl
theorem upL_1 {M M' : mM} {k : Nat} {x : Int64} (h : M' = upL M k x) : M'.1 = M.1 := by rw [h]; rfl
theorem x9can {w : Nat} {x r : Int32} {M : mM} {n : Nat → Int32} (h : SP_X9_canLearn 0 w x M r) (hH : HH w M.1 n) : (r.toInt = 1 ∧ (0 ≤ x.toInt ∧ x.toInt ≤ 191) ∧ LNc n w x.toInt) ∨ (r.toInt = 0 ∧ ¬ ((0 ≤ x.toInt ∧ x.toInt ≤ 191) ∧ LNc n w x.toInt)) := by
  have q0 := il_0
  have q1 := il_1
  unfold LNc
  refine xE_SP_X9_canLearn h ⟨(fun hs5_ h4_ j9_ h10_ z7_ e8_ j13_ h14_ z11_ e12_ => ⟨(fun h15_ hr_ => ?_), (fun h15_ j18_ h19_ z16_ e17_ => ⟨(fun h20_ hr_ => ?_), (fun h20_ hr_ => ?_)⟩)⟩), (fun hs5_ h4_ hr_ => ?_)⟩
  · have wh := hH x.toInt.toNat (by omega)
    have er := eT hr_
    have a := eT e8_
    have b := eT e12_
    rw [show j9_ = x.toInt.toNat by omega, wh.1] at a
    rw [show j13_ = x.toInt.toNat by omega, wh.2] at b
    exact Or.inr ⟨by omega, fun z => by omega⟩
  · have wh := hH x.toInt.toNat (by omega)
    have er := eT hr_
    have a := eT e17_
    rw [show j18_ = x.toInt.toNat by omega, wh.1] at a
    exact Or.inr ⟨by omega, fun z => by omega⟩
  · have wh := hH x.toInt.toNat (by omega)
    have er := eT hr_
    have a := eT e8_
    have b := eT e12_
    have c := eT e17_
    rw [show j9_ = x.toInt.toNat by omega, wh.1] at a
    rw [show j13_ = x.toInt.toNat by omega, wh.2] at b
    rw [show j18_ = x.toInt.toNat by omega, wh.1] at c
    exact Or.inl ⟨by omega, h4_, by omega, by omega⟩
  · have er := eT hr_
    exact Or.inr ⟨by omega, fun z => h4_ z.1⟩
/-- a mark of slot u -/
def MKc (u c : Nat) (L : Nat → Int64) : Bool := bl (L (3 * u + c / 64)) (c % 64)
theorem noteRay {u t s r : Int32} {w : Nat} {M0 M M2 : mM} {y : Int32} {n : Nat → Int32} {o : Nat → Int} (h : RCH (fun x_ y_ => ST_X0_noteLearned_78 0 u t M0 w s r x_.1 x_.2 y_.1 y_.2) ((1 : Int32), M) (y, M2)) (hH : HH w M.1 n) (hu : 0 ≤ u.toInt ∧ u.toInt ≤ 7) (ht : 0 ≤ t.toInt ∧ t.toInt ≤ 191) (hs : 0 ≤ s.toInt ∧ s.toInt ≤ 7) (hr : 0 ≤ r.toInt ∧ r.toInt ≤ 12)
    (h0 : ∀ c : Nat, c < 192 → (MKc u.toInt.toNat c M.2 = true ↔ RAY n o w t s.toInt c ∧ LNc n w c)) :
    M2.1 = M.1 ∧ (1 ≤ y.toInt ∧ y.toInt ≤ r.toInt + 1) ∧ (∀ k : Nat, (k < 3 * u.toInt.toNat ∨ 3 * u.toInt.toNat + 3 ≤ k) → M2.2 k = M.2 k) ∧ ∀ c : Nat, c < 192 → (MKc u.toInt.toNat c M2.2 = true ↔ RAYi n o w t s.toInt y.toInt c ∧ LNc n w c) := by
  have q1 := il_1
  have g := rind h (fun z => z.2.1 = M.1 ∧ (1 ≤ z.1.toInt ∧ z.1.toInt ≤ r.toInt + 1) ∧ (∀ k : Nat, (k < 3 * u.toInt.toNat ∨ 3 * u.toInt.toNat + 3 ≤ k) → z.2.2 k = M.2 k) ∧ ∀ c : Nat, c < 192 → (MKc u.toInt.toNat c z.2.2 = true ↔ RAYi n o w t s.toInt z.1.toInt c ∧ LNc n w c)) ⟨rfl, by dsimp only; omega, fun _ _ => rfl, fun c hc => by
    (try dsimp only)
    rw [q1, RAYi_0]
    exact h0 c hc⟩ (fun x z p st => by
    obtain ⟨x1, XM⟩ := x
    obtain ⟨z1, ZM⟩ := z
    (try dsimp only at p st ⊢)
    obtain ⟨p1, p2, p3, p4⟩ := p
    refine xE_ST_X0_noteLearned_78 st (fun k_hv0_78 _ k_hF_78 k_h25_ k_r28_ k_hs32_ k_h31_ => ⟨(fun k_hs37_ k_h36_ k_z39_ k_h40_ k_z41_ k_h42_ k_z43_ k_h44_ k_j46_ k_h47_ k_w45_ k_h48_ k_z49_ k_h50_ k_w51_ k_h52_ k_w53_ k_h54_ k_j57_ k_h58_ k_M55_ k_hM56_ k_z61_ k_h62_ k_hq_v8_78y k_hM_ => ?_), (fun k_hs37_ k_z64_ k_h65_ k_hq_v8_78y k_hM_ => ?_)⟩)
    · have e := eT k_hq_v8_78y
      have cs := cF_spec k_hs32_
      have on : k_r28_.toInt = onI t.toInt s.toInt x1.toInt := by omega
      have cl := x9can k_hs37_ (n := n) (by rw [p1]; exact hH)
      have ln : LNc n w k_r28_.toInt := by
        rcases cl with cl | cl
        · exact cl.2.2
        · exact absurd cl.1 (by omega)
      have M1 := upL_1 k_hM56_
      rw [k_hM_]
      refine ⟨M1.trans p1, by omega, fun k hk => ?_, fun c hc => ?_⟩
      · rw [upL_at k_hM56_, if_neg (by omega)]
        exact p3 k hk
      · rw [RAYi_step (m := x1.toInt) (by omega) p2.1]
        have pc := p4 c hc
        unfold MKc at pc ⊢
        rw [upL_at k_hM56_]
        by_cases q : 3 * u.toInt.toNat + c / 64 = k_j57_
        · rw [if_pos q, k_h54_, bl_or, k_h48_, k_h52_, bl_1v (by omega) (by omega), show k_j46_ = 3 * u.toInt.toNat + c / 64 by omega]
          by_cases q2 : ((c % 64 : Nat) : Int) = k_z49_.toInt
          · rw [decide_eq_true q2, Bool.or_true]
            have ec : (c : Int) = onI t.toInt s.toInt x1.toInt := by omega
            refine ⟨fun _ => ⟨Or.inr ec.symm, ?_⟩, fun _ => rfl⟩
            rw [ec, ← on]
            exact ln
          · rw [decide_eq_false q2, Bool.or_false, pc]
            constructor
            · exact fun z => ⟨Or.inl z.1, z.2⟩
            · rintro ⟨z | z, z2⟩
              · exact ⟨z, z2⟩
              · exfalso
                omega
        · rw [if_neg q, pc]
          constructor
          · exact fun z => ⟨Or.inl z.1, z.2⟩
          · rintro ⟨z | z, z2⟩
            · exact ⟨z, z2⟩
            · exfalso
              omega
    · have e := eT k_hq_v8_78y
      have cs := cF_spec k_hs32_
      have on : k_r28_.toInt = onI t.toInt s.toInt x1.toInt := by omega
      have cl := x9can k_hs37_ (n := n) (by rw [p1]; exact hH)
      have nl : ¬ ((0 ≤ k_r28_.toInt ∧ k_r28_.toInt ≤ 191) ∧ LNc n w k_r28_.toInt) := by
        rcases cl with cl | cl
        · exact absurd cl.1 (by have := il_0; omega)
        · exact cl.2
      rw [k_hM_]
      refine ⟨p1, by omega, p3, fun c hc => ?_⟩
      rw [RAYi_step (m := x1.toInt) (by omega) p2.1, p4 c hc]
      constructor
      · exact fun z => ⟨Or.inl z.1, z.2⟩
      · rintro ⟨z | z, z2⟩
        · exact ⟨z, z2⟩
        · exfalso
          apply nl
          rw [on, z]
          exact ⟨by omega, z2⟩)
  exact g
theorem noteC {v u t : Int32} {M M2 : mM} {n : Nat → Int32} (h : SP_X0_noteLearned 0 v u t M M2) (hR : WRR 0 M.1 n) (hN : NW5 n) (hv : 0 ≤ v.toInt ∧ v.toInt < nWa n) (hu : 0 ≤ u.toInt ∧ u.toInt ≤ 7) (ht : 0 ≤ t.toInt ∧ t.toInt ≤ 191) : (∀ k : Nat, (k < 3 * u.toInt.toNat ∨ 3 * u.toInt.toNat + 3 ≤ k) → M2.2 k = M.2 k) ∧ ∀ c : Nat, c < 192 → (MKc u.toInt.toNat c M2.2 = true ↔ RAY n (occ 0 M.1) v.toInt.toNat t 8 c ∧ LNc n v.toInt.toNat c) := by
  have q0 := il_0
  have nw := nWa_b hN
  have bW := eT hR.2.2.1.1
  refine xE_SP_X0_noteLearned h ⟨(fun h1_ hM_ => ?_), (fun h1_ => ⟨(fun h2_ hM_ => ?_), (fun h2_ => ⟨(fun hs7_ h6_ v5_22 hv0_22 hv1_22 M_22 hL_22 _ hF_22 h10_ j11_ h12_ h13_ v6_57 hv0_57 hv1_57 M_57 hL_57 _ hF_57 h15_ hM_ => ?_), (fun hs7_ hM_ => ?_)⟩)⟩)⟩
  · omega
  · omega
  · have c1 := rind hL_22 (fun z => z.2.1 = M.1 ∧ 0 ≤ z.1.toInt ∧ (∀ k : Nat, (k < 3 * u.toInt.toNat ∨ 3 * u.toInt.toNat + 3 ≤ k) → z.2.2 k = M.2 k) ∧ ∀ k : Nat, (k : Int) < z.1.toInt → z.2.2 (3 * u.toInt.toNat + k) = 0) ⟨rfl, by dsimp only; omega, fun _ _ => rfl, fun k hk => by dsimp only at hk; omega⟩ (fun x z p st => by
      obtain ⟨x1, XM⟩ := x
      obtain ⟨z1, ZM⟩ := z
      (try dsimp only at p st ⊢)
      obtain ⟨p1, p2, p3, p4⟩ := p
      refine xE_ST_X0_noteLearned_22 st (fun k_hv0_22 k_hv1_22 _ k_hF_22 k_h10_ k_z66_ k_h67_ k_z68_ k_h69_ k_j72_ k_h73_ k_M70_ k_hM71_ k_z76_ k_h77_ k_hq_v5_22y k_hM_ => ?_)
      have e := eT k_hq_v5_22y
      rw [k_hM_]
      refine ⟨(upL_1 k_hM71_).trans p1, by omega, fun k hk => ?_, fun k hk => ?_⟩
      · rw [upL_at k_hM71_, if_neg (by omega)]
        exact p3 k hk
      · rw [upL_at k_hM71_]
        by_cases q : 3 * u.toInt.toNat + k = k_j72_
        · rw [if_pos q]
        · rw [if_neg q]
          exact p4 k (by omega))
    (try dsimp only at c1)
    obtain ⟨d1, d2, d3, d4⟩ := c1
    have ej : j11_ = v.toInt.toNat := by omega
    have wa := hR.2.2.1.2 v.toInt.toNat (by omega)
    have g := rind hL_57 (fun z => 0 ≤ z.1.toInt ∧ (∀ k : Nat, (k < 3 * u.toInt.toNat ∨ 3 * u.toInt.toNat + 3 ≤ k) → z.2.2 k = M.2 k) ∧ ∀ c : Nat, c < 192 → (MKc u.toInt.toNat c z.2.2 = true ↔ RAY n (occ 0 M.1) v.toInt.toNat t z.1.toInt c ∧ LNc n v.toInt.toNat c)) ⟨by dsimp only; omega, d3, fun c hc => by
      (try dsimp only)
      rw [q0]
      have e0 : MKc u.toInt.toNat c M_22.2 = false := by
        unfold MKc
        rw [d4 (c / 64) (by omega)]
        exact bl_0 _
      rw [e0]
      exact ⟨fun z => absurd z (by decide), fun z => (RAY_0 z.1).elim⟩⟩ (fun x z p st => by
      obtain ⟨x1, XM⟩ := x
      obtain ⟨z1, ZM⟩ := z
      (try dsimp only at p st ⊢)
      obtain ⟨p1, p3, p4⟩ := p
      refine xE_ST_X0_noteLearned_57 st (fun k_hv0_57 k_hv1_57 _ k_hF_57 k_h15_ k_M17_ _ k_hF21_ k_r16_ k_hs23_ k_h19_ k_v8_78 k_hv0_78 k_M_78 k_hL_78 _ k_hF_78 k_h25_ k_z26_ k_h27_ k_hq_v6_57y k_hM_ => ?_)
      have e := eT k_hq_v6_57y
      rw [ej] at k_hL_78
      have W : WRR 0 XM.1 n := WRR_same hR hN (fun c k a b => k_hF_57 c k (fun q => by unfold wR at a; simp only [S_c_X0_noteLearned, or_false] at q; omega))
      have eo : occ 0 XM.1 = occ 0 M.1 := funext fun c => by unfold occ; rw [k_hF_57 _ _ (by simp [S_c_X0_noteLearned])]
      have Hy := x10heard k_hs23_ W hN hv ht (by omega)
      rw [eo] at Hy
      have l2 := LSP_X10_heardYards k_hs23_
      have hH : HH v.toInt.toNat k_M17_.1 n := fun c hc => by
        rw [k_hF21_ _ _ (by simp [S_c_X10_heardYards]), k_hF21_ _ _ (by simp [S_c_X10_heardYards]), k_hF_57 _ _ (by simp [S_c_X0_noteLearned]), k_hF_57 _ _ (by simp [S_c_X0_noteLearned])]
        exact wa.2 c hc
      have R := noteRay (o := occ 0 M.1) k_hL_78 hH hu ht (by omega) k_h19_ (fun c hc => by rw [l2]; exact p4 c hc)
      obtain ⟨r1, r2, r3, r4⟩ := R
      rw [k_hM_]
      refine ⟨by omega, fun k hk => by rw [r3 k hk, l2]; exact p3 k hk, fun c hc => ?_⟩
      rw [r4 c hc, RAY_next (k := x1.toInt) (m := k_v8_78.toInt) rfl p1 (by omega) Hy (by omega)])
    (try dsimp only at g)
    obtain ⟨g1, g2, g3⟩ := g
    rw [hM_]
    rw [show v6_57.toInt = 8 by omega] at g3
    exact ⟨g2, g3⟩
  · have a := x10has hs7_
    unfold nWa at hv nw
    exfalso
    omega
/-- a flag of slot u -/
theorem toldRay {v u t s r : Int32} {D0 D D2 : mM} {y : Int32} {n : Nat → Int32} {o : Nat → Int} (h : RCH (fun x_ y_ => ST_X12_findTold_59 v u t D0 s r x_.1 x_.2 y_.1 y_.2) ((1 : Int32), D) (y, D2)) (hn : D.1 (50, 0, 0) = n) (hv : 0 ≤ v.toInt ∧ v.toInt ≤ 7) (hu : 0 ≤ u.toInt ∧ u.toInt ≤ 7) (ht : 0 ≤ t.toInt ∧ t.toInt ≤ 191) (hs : 0 ≤ s.toInt ∧ s.toInt ≤ 7) (hr : 0 ≤ r.toInt ∧ r.toInt ≤ 12)
    (h0 : ∀ c : Nat, c < 192 → (¬ (D.1 (60, 0, 0) (192 * u.toInt.toNat + c)).toInt = 0 ↔ RAY n o v.toInt.toNat t s.toInt c ∧ LNc n v.toInt.toNat c)) :
    (∀ (c : rf) (k : Nat), ¬ (c = (60, 0, 0) ∧ 192 * u.toInt.toNat ≤ k ∧ k < 192 * u.toInt.toNat + 192) → D2.1 c k = D.1 c k) ∧ (1 ≤ y.toInt ∧ y.toInt ≤ r.toInt + 1) ∧ ∀ c : Nat, c < 192 → (¬ (D2.1 (60, 0, 0) (192 * u.toInt.toNat + c)).toInt = 0 ↔ RAYi n o v.toInt.toNat t s.toInt y.toInt c ∧ LNc n v.toInt.toNat c) := by
  have q1 := il_1
  have n0 := nar0
  have n1 := nar1
  have g := rind h (fun z => (∀ (c : rf) (k : Nat), ¬ (c = (60, 0, 0) ∧ 192 * u.toInt.toNat ≤ k ∧ k < 192 * u.toInt.toNat + 192) → z.2.1 c k = D.1 c k) ∧ (1 ≤ z.1.toInt ∧ z.1.toInt ≤ r.toInt + 1) ∧ ∀ c : Nat, c < 192 → (¬ (z.2.1 (60, 0, 0) (192 * u.toInt.toNat + c)).toInt = 0 ↔ RAYi n o v.toInt.toNat t s.toInt z.1.toInt c ∧ LNc n v.toInt.toNat c)) ⟨fun _ _ _ => rfl, by dsimp only; omega, fun c hc => by
    (try dsimp only)
    rw [q1, RAYi_0]
    exact h0 c hc⟩ (fun x z p st => by
    obtain ⟨x1, XM⟩ := x
    obtain ⟨z1, ZM⟩ := z
    (try dsimp only at p st ⊢)
    obtain ⟨p1, p2, p3⟩ := p
    have x50 : XM.1 (50, 0, 0) = n := (funext fun k => p1 _ _ (fun q => cne (by omega) q.1)).trans hn
    have put : ∀ {N : mM} {j : Nat} {x cell : Int32}, N = up XM (60, 0, 0) j x → (j : Int) = 192 * u.toInt + cell.toInt → cell.toInt = onI t.toInt s.toInt x1.toInt → 0 ≤ cell.toInt → cell.toInt ≤ 191 → z1.toInt = x1.toInt + 1 → ((¬ x.toInt = 0) ↔ LNc n v.toInt.toNat cell.toInt) → (∀ (c : rf) (k : Nat), ¬ (c = (60, 0, 0) ∧ 192 * u.toInt.toNat ≤ k ∧ k < 192 * u.toInt.toNat + 192) → N.1 c k = D.1 c k) ∧ ∀ c : Nat, c < 192 → (¬ (N.1 (60, 0, 0) (192 * u.toInt.toNat + c)).toInt = 0 ↔ RAYi n o v.toInt.toNat t s.toInt z1.toInt c ∧ LNc n v.toInt.toNat c) := fun {N j x cell} a1 a2 a3 a4 a5 a6 a7 => by
      refine ⟨fun c k hc => ?_, fun c hc => ?_⟩
      · rw [zupN a1 (fun q => hc ⟨q.1, by have := q.2; omega, by have := q.2; omega⟩)]
        exact p1 c k hc
      · rw [RAYi_step (m := x1.toInt) a6 p2.1]
        by_cases q : 192 * u.toInt.toNat + c = j
        · have ec : (c : Int) = cell.toInt := by omega
          rw [zupE a1 rfl q, a7, ec]
          exact ⟨fun z => ⟨Or.inr a3.symm, z⟩, fun z => z.2⟩
        · rw [zupN a1 (fun z => q z.2), p3 c hc]
          constructor
          · exact fun z => ⟨Or.inl z.1, z.2⟩
          · rintro ⟨z | z, z2⟩
            · exact ⟨z, z2⟩
            · exfalso
              omega
    refine xE_ST_X12_findTold_59 st (fun k_hv0_59 k_hv1_59 _ k_hF_59 k_h22_ k_r25_ k_hs29_ k_h28_ k_h30_ k_z31_ k_h32_ k_z33_ k_h34_ k_r35_ k_hs39_ k_h38_ => ⟨(fun k_h40_ k_j43_ k_h44_ k_M41_ k_hM42_ k_z47_ k_h48_ k_hq_v6_59y k_hM_ => ?_), (fun k_h40_ k_r49_ k_hs53_ k_h52_ k_j56_ k_h57_ k_z54_ k_e55_ => ⟨(fun k_h58_ k_j61_ k_h62_ k_M59_ k_hM60_ k_z65_ k_h66_ k_hq_v6_59y k_hM_ => ?_), (fun k_h58_ k_j69_ k_h70_ k_M67_ k_hM68_ k_z73_ k_h74_ k_hq_v6_59y k_hM_ => ?_)⟩)⟩)
    · have e := eT k_hq_v6_59y
      have on := on_spec k_h28_.1 ht hs (by omega)
      have hd := x12held k_hs39_ hv (by omega)
      rw [x50] at hd
      have P := put k_hM42_ (cell := k_r25_) (by omega) on (by omega) (by omega) (by omega) ⟨fun z => absurd n0 z, fun z => by
        exfalso
        unfold HdS heldS at hd
        have z1 := z.1
        rw [if_neg (by omega), if_neg (by omega)] at hd
        omega⟩
      rw [k_hM_]
      exact ⟨P.1, by omega, P.2⟩
    · have e := eT k_hq_v6_59y
      have e55 := eT k_e55_
      rw [x50, show k_j56_ = 495 + 384 * v.toInt.toNat + k_r25_.toInt.toNat by omega] at e55
      have on := on_spec k_h28_.1 ht hs (by omega)
      have P := put k_hM60_ (cell := k_r25_) (by omega) on (by omega) (by omega) (by omega) ⟨fun z => absurd n0 z, fun z => by
        exfalso
        have z2 := z.2
        omega⟩
      rw [k_hM_]
      exact ⟨P.1, by omega, P.2⟩
    · have e := eT k_hq_v6_59y
      have e55 := eT k_e55_
      rw [x50, show k_j56_ = 495 + 384 * v.toInt.toNat + k_r25_.toInt.toNat by omega] at e55
      have on := on_spec k_h28_.1 ht hs (by omega)
      have hd := x12held k_hs39_ hv (by omega)
      rw [x50] at hd
      have P := put k_hM68_ (cell := k_r25_) (by omega) on (by omega) (by omega) (by omega) ⟨fun _ => by
        unfold HdS heldS at hd
        refine ⟨?_, by omega⟩
        by_cases q1 : (n (687 + 384 * v.toInt.toNat + k_r25_.toInt.toNat)).toInt < (n (495 + 384 * v.toInt.toNat + k_r25_.toInt.toNat)).toInt
        · rw [if_pos q1] at hd; omega
        · rw [if_neg q1] at hd
          by_cases q2 : (n (495 + 384 * v.toInt.toNat + k_r25_.toInt.toNat)).toInt < (n (687 + 384 * v.toInt.toNat + k_r25_.toInt.toNat)).toInt
          · rw [if_pos q2] at hd; omega
          · omega, fun _ => by omega⟩
      rw [k_hM_]
      exact ⟨P.1, by omega, P.2⟩)
  exact g
theorem findD {v u t : Int32} {D D2 : mM} {q : rf → Nat → Int32} {n : Nat → Int32} (h : SP_X12_findTold v u t D D2) (hn : D.1 (50, 0, 0) = n) (hO : OCC 0 q n) (hX : ∀ w, w < 3 → ∀ i : Nat, (i : Int) < (n (345 + 50 * w)).toInt → cOK (nnU w) (n (346 + 50 * w + i))) (hv : 0 ≤ v.toInt ∧ v.toInt < nWa n) (hN : NW5 n) (hu : 0 ≤ u.toInt ∧ u.toInt ≤ 7) (ht : 0 ≤ t.toInt ∧ t.toInt ≤ 191) :
    (D2.1 (12, 0, 0) 7).toInt = -1 ∧ (∀ k : Nat, ¬ (192 * u.toInt.toNat ≤ k ∧ k < 192 * u.toInt.toNat + 192) → D2.1 (60, 0, 0) k = D.1 (60, 0, 0) k) ∧ ∀ c : Nat, c < 192 → (¬ (D2.1 (60, 0, 0) (192 * u.toInt.toNat + c)).toInt = 0 ↔ RAY n (occ 0 q) v.toInt.toNat t 8 c ∧ LNc n v.toInt.toNat c) := by
  have q0 := il_0
  have n0 := nar0
  have nw := nWa_b hN
  refine xE_SP_X12_findTold h (fun v4_3 hv0_3 hv1_3 M_3 hL_3 _ hF_3 h2_ M3_ hM4_ v4_39 hv0_39 hv1_39 M_39 hL_39 _ hF_39 h8_ M9_ hM10_ hM_ => ?_)
  have c1 := rind hL_3 (fun z => 0 ≤ z.1.toInt ∧ (∀ k : Nat, ¬ (192 * u.toInt.toNat ≤ k ∧ k < 192 * u.toInt.toNat + 192) → z.2.1 (60, 0, 0) k = D.1 (60, 0, 0) k) ∧ ∀ k : Nat, (k : Int) < z.1.toInt → (z.2.1 (60, 0, 0) (192 * u.toInt.toNat + k)).toInt = 0) ⟨by dsimp only; omega, fun _ _ => rfl, fun k hk => by dsimp only at hk; omega⟩ (fun x z p st => by
    obtain ⟨x1, XM⟩ := x
    obtain ⟨z1, ZM⟩ := z
    (try dsimp only at p st ⊢)
    obtain ⟨p1, p2, p3⟩ := p
    refine xE_ST_X12_findTold_3 st (fun k_hv0_3 k_hv1_3 _ k_hF_3 k_h2_ k_z75_ k_h76_ k_z77_ k_h78_ k_j81_ k_h82_ k_M79_ k_hM80_ k_z85_ k_h86_ k_hq_v4_3y k_hM_ => ?_)
    have e := eT k_hq_v4_3y
    rw [k_hM_]
    refine ⟨by omega, fun k hk => ?_, fun k hk => ?_⟩
    · rw [zupN k_hM80_ (fun z => by have := z.2; omega)]
      exact p2 k hk
    · by_cases q : 192 * u.toInt.toNat + k = k_j81_
      · rw [zupE k_hM80_ rfl q]; exact n0
      · rw [zupN k_hM80_ (fun z => q z.2)]
        exact p3 k (by omega))
  (try dsimp only at c1)
  obtain ⟨d1, d2, d3⟩ := c1
  have m60 : ∀ k, M3_.1 (60, 0, 0) k = M_3.1 (60, 0, 0) k := fun k => zupN hM4_ (fun z => cne (by omega) z.1)
  have g := rind hL_39 (fun z => 0 ≤ z.1.toInt ∧ (z.2.1 (12, 0, 0) 7).toInt = v.toInt ∧ (∀ k : Nat, ¬ (192 * u.toInt.toNat ≤ k ∧ k < 192 * u.toInt.toNat + 192) → z.2.1 (60, 0, 0) k = D.1 (60, 0, 0) k) ∧ ∀ c : Nat, c < 192 → (¬ (z.2.1 (60, 0, 0) (192 * u.toInt.toNat + c)).toInt = 0 ↔ RAY n (occ 0 q) v.toInt.toNat t z.1.toInt c ∧ LNc n v.toInt.toNat c)) ⟨by dsimp only; omega, by dsimp only; rw [zupE hM4_ rfl rfl], fun k hk => by dsimp only; rw [m60]; exact d2 k hk, fun c hc => by
    (try dsimp only)
    rw [q0, m60]
    exact ⟨fun z => absurd (d3 c (by omega)) z, fun z => (RAY_0 z.1).elim⟩⟩ (fun x z p st => by
    obtain ⟨x1, XM⟩ := x
    obtain ⟨z1, ZM⟩ := z
    (try dsimp only at p st ⊢)
    obtain ⟨p1, p2, p3, p4⟩ := p
    refine xE_ST_X12_findTold_39 st (fun k_hv0_39 k_hv1_39 k_hI_39 k_hF_39 k_h8_ k_M14_ k_hI17_ k_hF18_ k_r13_ k_hs20_ k_h16_ k_v6_59 k_hv0_59 k_hv1_59 k_M_59 k_hL_59 k_hI_59 k_hF_59 k_h22_ k_z23_ k_h24_ k_hq_v4_39y k_hM_ => ?_)
    have e := eT k_hq_v4_39y
    have x50 : XM.1 (50, 0, 0) = n := (funext fun k => k_hF_39 _ _ (by simp [S_c_X12_findTold])).trans hn
    have Hy := x12heard (b := 0) (q := q) k_hs20_ (by rw [x50]; exact hO) k_hI_39 (by rw [x50]; exact hX) (by rw [x50]; exact hv) ht (by omega) (Or.inl p2)
    rw [x50] at Hy
    have f60 : ∀ k, k_M14_.1 (60, 0, 0) k = XM.1 (60, 0, 0) k := fun k => k_hF18_ _ _ (by simp [S_c_X12_heardFrom])
    have R := toldRay (o := occ 0 q) k_hL_59 ((funext fun k => k_hF18_ _ _ (by simp [S_c_X12_heardFrom])).trans x50) (by omega) hu ht (by omega) ⟨k_h16_.1, k_h16_.2.1⟩ (fun c hc => by rw [f60]; exact p4 c hc)
    obtain ⟨r1, r2, r3⟩ := R
    rw [k_hM_]
    refine ⟨by omega, ?_, fun k hk => ?_, fun c hc => ?_⟩
    · rw [r1 _ _ (fun z => cne (by omega) z.1), k_hF18_ _ _ (by simp [S_c_X12_heardFrom])]
      exact p2
    · rw [r1 _ _ (fun z => hk z.2), f60]
      exact p3 k hk
    · rw [r3 c hc, RAY_next (k := x1.toInt) (m := k_v6_59.toInt) rfl p1 (by omega) Hy (by omega)])
  (try dsimp only at g)
  obtain ⟨g1, g2, g3, g4⟩ := g
  have z60 : ∀ k, D2.1 (60, 0, 0) k = M_39.1 (60, 0, 0) k := fun k => by rw [hM_, zupN hM10_ (fun z => cne (by omega) z.1)]
  refine ⟨by rw [hM_, zupE hM10_ rfl rfl]; exact il_m1, fun k hk => by rw [z60]; exact g3 k hk, fun c hc => ?_⟩
  rw [z60]
  rw [show v4_39.toInt = 8 by omega] at g4
  exact g4 c hc
