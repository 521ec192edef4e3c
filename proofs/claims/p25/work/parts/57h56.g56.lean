/-! spots(): counts and choice -/
theorem bt_xor (x y : Int32) (i : Nat) : bt (x ^^^ y) i = (bt x i ^^ bt y i) := by unfold bt; rw [Int32.toBitVec_xor, BitVec.getLsbD_xor]
theorem bt_m1 : ∀ i, i < 32 → bt (-1) i = true := by decide +kernel
theorem bt_255 : ∀ i, i < 32 → bt 255 i = decide (i < 8) := by decide +kernel
theorem bt_big (x : Int32) {i : Nat} (h : 32 ≤ i) : bt x i = false := BitVec.getLsbD_of_ge _ _ h
theorem bitI {u : Int32} {n : Nat} (hn : n < 31) : ((u >>> (nI n &&& 31)) &&& 1).toInt = if bt u n = true then 1 else 0 := by
  by_cases q : bt u n = true
  · rw [if_pos q]
    have e : (u >>> (nI n &&& 31)) &&& 1 = 1 := b_extL (fun i hi => by
      rw [b_and, bt_1w i hi]
      by_cases z : i = 0
      · subst z
        rw [b_sshr n (by omega) u (by omega), if_pos (by omega), Nat.add_zero, q]
        rfl
      · rw [decide_eq_false z, Bool.and_false])
    rw [e]; rfl
  · rw [if_neg q]
    have e : (u >>> (nI n &&& 31)) &&& 1 = 0 := b_extL (fun i hi => by
      rw [b_and, bt_1w i hi, b_0]
      by_cases z : i = 0
      · subst z
        rw [b_sshr n (by omega) u (by omega), if_pos (by omega), Nat.add_zero, Bool.eq_false_iff.mpr q, Bool.false_and]
      · rw [decide_eq_false z, Bool.and_false])
    rw [e]; rfl
theorem bitC {u : Int32} {n : Nat} (hn : n < 31) : (u &&& ((1 : Int32) <<< (nI n &&& 31))).toInt = 0 ↔ bt u n = false := by
  constructor
  · intro h
    have h0 : u &&& ((1 : Int32) <<< (nI n &&& 31)) = 0 := Int32.toInt_inj.mp h
    have h1 : bt (u &&& ((1 : Int32) <<< (nI n &&& 31))) n = false := by rw [h0]; exact b_0 n
    rw [b_and, b_shl n (by omega) 1 (by omega), Nat.sub_self, bt_1w 0 (by omega)] at h1
    simpa using h1
  · intro h
    have h0 : u &&& ((1 : Int32) <<< (nI n &&& 31)) = 0 := b_extL (fun i hi => by
      rw [b_0, b_and, b_shl n (by omega) 1 hi, bt_1w (i - n) (by omega)]
      by_cases q : i = n
      · subst q; simp [h]
      · rcases Nat.lt_or_ge i n with q2 | q2
        · simp [Nat.not_le.mpr q2]
        · have q3 : ¬ i - n = 0 := by omega
          simp [q3])
    rw [h0]; rfl
theorem bt_set {m z : Int32} {i : Nat} (hz : 0 ≤ z.toInt ∧ z.toInt ≤ 30) (hi : i < 32) : bt (m ||| ((1 : Int32) <<< (z &&& 31))) i = (bt m i || decide ((i : Int) = z.toInt)) := by
  have e : z = nI z.toInt.toNat := nI_of_toInt (by omega)
  have s : bt ((1 : Int32) <<< (nI z.toInt.toNat &&& 31)) i = decide (i = z.toInt.toNat) := by
    rw [b_shl z.toInt.toNat (by omega) 1 hi, bt_1w (i - z.toInt.toNat) (by omega)]
    by_cases q : i = z.toInt.toNat
    · rw [decide_eq_true q, decide_eq_true (show z.toInt.toNat ≤ i by omega), decide_eq_true (show i - z.toInt.toNat = 0 by omega), Bool.and_self]
    · rw [decide_eq_false q]
      rcases Nat.lt_or_ge i z.toInt.toNat with q2 | q2
      · rw [decide_eq_false (show ¬ z.toInt.toNat ≤ i by omega), Bool.false_and]
      · rw [decide_eq_false (show ¬ i - z.toInt.toNat = 0 by omega), Bool.and_false]
  rw [← e] at s
  rw [b_or, s]
  by_cases q : i = z.toInt.toNat
  · rw [decide_eq_true q, decide_eq_true (by omega)]
  · rw [decide_eq_false q, decide_eq_false (by omega)]
theorem sub_bits {m k : Int32} (h : (m &&& (k ^^^ ((-1) : Int32))).toInt = 0) : ∀ i, i < 32 → bt m i = true → bt k i = true := fun i hi hb => by
  have h0 : m &&& (k ^^^ ((-1) : Int32)) = 0 := Int32.toInt_inj.mp h
  have h1 : bt (m &&& (k ^^^ ((-1) : Int32))) i = false := by rw [h0]; exact b_0 i
  rw [b_and, bt_xor, bt_m1 i hi, hb] at h1
  simpa using h1
theorem pcS_le {m k : Int32} (h : ∀ i, i < 32 → bt m i = true → bt k i = true) : ∀ j, j < 9 → pcS m j ≤ pcS k j
  | 0, _ => Int.le_refl 0
  | j + 1, hj => by
    have ih := pcS_le h j (by omega)
    have a := bitI (u := m) (n := j) (by omega)
    have b := bitI (u := k) (n := j) (by omega)
    show pcS m j + ((m >>> (nI j &&& 31)) &&& (1 : Int32)).toInt ≤ pcS k j + ((k >>> (nI j &&& 31)) &&& (1 : Int32)).toInt
    rw [a, b]
    by_cases q : bt m j = true
    · rw [if_pos q, if_pos (h j (by omega) q)]
      omega
    · rw [if_neg q]
      split <;> omega
theorem pcS_z : pcS 0 8 = 0 := by decide +kernel
def strp (k : Nat) : Nat := k &&& (k - 1)
def wit (k : Nat) : Nat → Nat
  | 0 => k
  | t + 1 => strp (wit k t)
def witb (k t : Nat) : Bool := decide (1 ≤ k - wit k t) && (decide (k - wit k t < 256) && (decide (((nI (k - wit k t)) &&& (nI k ^^^ ((-1) : Int32))).toInt = 0) && decide (pcS (nI (k - wit k t)) 8 = (t : Int))))
theorem wit_tab0 : ∀ k : Nat, k < 256 → ∀ t : Nat, t < 4 → (decide (1 ≤ t) && decide ((t : Int) ≤ pcS (nI k) 8)) = true → witb k t = true := by decide +kernel
theorem wit_tab (k : Nat) (hk : k < 256) (t : Nat) (ht : t < 4) (h1 : 1 ≤ t) (h2 : (t : Int) ≤ pcS (nI k) 8) : (1 ≤ k - wit k t ∧ k - wit k t < 256) ∧ ((nI (k - wit k t)) &&& (nI k ^^^ ((-1) : Int32))).toInt = 0 ∧ pcS (nI (k - wit k t)) 8 = (t : Int) := by
  have a := wit_tab0 k hk t ht (by rw [decide_eq_true h1, decide_eq_true h2]; rfl)
  unfold witb at a
  rw [Bool.and_eq_true, Bool.and_eq_true, Bool.and_eq_true] at a
  exact ⟨⟨of_decide_eq_true a.1, of_decide_eq_true a.2.1⟩, of_decide_eq_true a.2.2.1, of_decide_eq_true a.2.2.2⟩
theorem low8 {k : Int32} (h : ∀ i, i < 32 → 8 ≤ i → bt k i = false) : 0 ≤ k.toInt ∧ k.toInt ≤ 255 := by
  have e : k &&& 255 = k := b_extL (fun i hi => by
    rw [b_and, bt_255 i hi]
    by_cases q : i < 8
    · rw [decide_eq_true q, Bool.and_true]
    · rw [h i hi (by omega), Bool.false_and])
  have a := and_mod k (m := (255 : Int32)) 8 (by decide) (by omega)
  rw [e] at a
  omega
theorem hi_tab : ∀ s : Nat, s < 9 → ∀ m : Nat, m < 256 → ((1 : Int32) <<< (nI s &&& 31)).toInt ≤ (m : Int) → ∃ i, i < 8 ∧ s ≤ i ∧ bt (nI m) i = true := by decide +kernel
def anyB (h : Nat → Bool) : Nat → Bool
  | 0 => false
  | k + 1 => anyB h k || h k
theorem anyB_cong {f g : Nat → Bool} : ∀ k, (∀ i, i < k → f i = g i) → anyB f k = anyB g k
  | 0, _ => rfl
  | k + 1, h => by
    show (anyB f k || f k) = (anyB g k || g k)
    rw [anyB_cong k (fun i hi => h i (by omega)), h k (by omega)]
theorem cntC {v r : Int32} {M : mM} (h : SP_X0_countLearned v M r) : r.toInt = (pcB (fun c => anyB (fun i => bt v i && MKc i c M.2) 8) 192 : Int) := by
  have q0 := il_0
  refine xE_SP_X0_countLearned h (fun v3_4 hv0_4 hv1_4 v2_4 hL_4 h2_ hr_ => ?_)
  have g := rind hL_4 (fun z => (0 ≤ z.1.toInt ∧ z.1.toInt ≤ 3) ∧ z.2.toInt = (pcB (fun c => anyB (fun i => bt v i && MKc i c M.2) 8) (64 * z.1.toInt.toNat) : Int)) (by
    (try dsimp only)
    rw [q0]
    exact ⟨by omega, rfl⟩) (fun x z p st => by
    obtain ⟨x1, x2⟩ := x
    obtain ⟨z1, z2⟩ := z
    (try dsimp only at p st ⊢)
    obtain ⟨p1, p2⟩ := p
    refine xE_ST_X0_countLearned_4 st (fun k_hv0_4 k_hv1_4 k_h2_ k_v6_15 k_hv0_15 k_hv1_15 k_v4_15 k_hL_15 k_h4_ k_r5_ k_hs9_ k_z10_ k_h11_ k_z12_ k_h13_ k_hq_v3_4y k_hq_v2_4y => ?_)
    have e := eT k_hq_v3_4y
    have I := rind k_hL_15 (fun z => (0 ≤ z.1.toInt ∧ z.1.toInt ≤ 8) ∧ ∀ j : Nat, j < 64 → bl z.2 j = anyB (fun i => bt v i && bl (M.2 (3 * i + x1.toInt.toNat)) j) z.1.toInt.toNat) (by
      (try dsimp only)
      rw [q0]
      exact ⟨by omega, fun j _ => bl_0 j⟩) (fun x z p st => by
      obtain ⟨y1, y2⟩ := x
      obtain ⟨w1, w2⟩ := z
      (try dsimp only at p st ⊢)
      obtain ⟨p3, p4⟩ := p
      have ey : y1 = nI y1.toInt.toNat := nI_of_toInt (by omega)
      refine xE_ST_X0_countLearned_15 st (fun f_hv0_15 f_hv1_15 f_h4_ f_z14_ f_h15_ f_z16_ f_h17_ => ⟨(fun f_h18_ f_z19_ f_h20_ f_hq_v6_15y f_hq_v4_15y => ?_), (fun f_h18_ f_z21_ f_h22_ f_z23_ f_h24_ f_j26_ f_h27_ f_w25_ f_h28_ f_w29_ f_h30_ f_z31_ f_h32_ f_hq_v6_15y f_hq_v4_15y => ?_)⟩)
      · have e1 := eT f_hq_v6_15y
        have bc := bitC (u := v) (n := y1.toInt.toNat) (by omega)
        rw [← ey, ← f_h15_, ← f_h17_] at bc
        refine ⟨by omega, fun j hj => ?_⟩
        rw [f_hq_v4_15y, p4 j hj, show w1.toInt.toNat = y1.toInt.toNat + 1 by omega]
        show _ = (anyB _ y1.toInt.toNat || (bt v y1.toInt.toNat && _))
        rw [bc.mp f_h18_, Bool.false_and, Bool.or_false]
      · have e1 := eT f_hq_v6_15y
        have bc := bitC (u := v) (n := y1.toInt.toNat) (by omega)
        rw [← ey, ← f_h15_, ← f_h17_] at bc
        have b1 : bt v y1.toInt.toNat = true := by
          by_cases q : bt v y1.toInt.toNat = true
          · exact q
          · exact absurd (bc.mpr (Bool.eq_false_iff.mpr q)) f_h18_
        refine ⟨by omega, fun j hj => ?_⟩
        rw [f_hq_v4_15y, f_h30_, bl_or, p4 j hj, show w1.toInt.toNat = y1.toInt.toNat + 1 by omega]
        show _ = (anyB _ y1.toInt.toNat || (bt v y1.toInt.toNat && bl (M.2 (3 * y1.toInt.toNat + x1.toInt.toNat)) j))
        rw [b1, Bool.true_and, f_h28_, show f_j26_ = 3 * y1.toInt.toNat + x1.toInt.toNat by omega])
    (try dsimp only at I)
    obtain ⟨I1, I2⟩ := I
    have e8 : k_v6_15.toInt.toNat = 8 := by omega
    rw [e8] at I2
    have J := jlP k_hs9_
    have A := pcB_add (fun c => anyB (fun i => bt v i && MKc i c M.2) 8) (64 * x1.toInt.toNat) 64
    have B : pcB (fun j => anyB (fun i => bt v i && MKc i (64 * x1.toInt.toNat + j) M.2) 8) 64 = pcB (bl k_v4_15) 64 := pcB_cong 64 (fun j hj => by
      rw [I2 j hj]
      refine anyB_cong 8 (fun i _ => ?_)
      show (bt v i && bl (M.2 (3 * i + (64 * x1.toInt.toNat + j) / 64)) ((64 * x1.toInt.toNat + j) % 64)) = _
      rw [show (64 * x1.toInt.toNat + j) / 64 = x1.toInt.toNat by omega, show (64 * x1.toInt.toNat + j) % 64 = j by omega])
    have L1 := pcB_le (fun c => anyB (fun i => bt v i && MKc i c M.2) 8) (64 * x1.toInt.toNat)
    have L2 := pcB_le (bl k_v4_15) 64
    have S : k_z10_.toInt = x2.toInt + k_r5_.toInt := by rw [k_h11_]; exact addI rfl rfl (by omega) (by omega)
    rw [k_hq_v2_4y, show z1.toInt.toNat = x1.toInt.toNat + 1 by omega, show 64 * (x1.toInt.toNat + 1) = 64 * x1.toInt.toNat + 64 by omega, A, B]
    exact ⟨by omega, by omega⟩)
  (try dsimp only at g)
  obtain ⟨g1, g2⟩ := g
  rw [hr_, g2, show v3_4.toInt.toNat = 3 by omega]
theorem cntD2 {v r : Int32} {M : mM} (h : SP_X12_toldBy v M r) : r.toInt = (pcB (fun c => anyB (fun i => bt v i && decide (¬ (M.1 (60, 0, 0) (192 * i + c)).toInt = 0)) 8) 192 : Int) := by
  have q0 := il_0
  have q1 := il_1
  refine xE_SP_X12_toldBy h (fun v3_4 hv0_4 hv1_4 v2_4 hL_4 h2_ hr_ => ?_)
  have g := rind hL_4 (fun z => (0 ≤ z.1.toInt ∧ z.1.toInt ≤ 192) ∧ z.2.toInt = (pcB (fun c => anyB (fun i => bt v i && decide (¬ (M.1 (60, 0, 0) (192 * i + c)).toInt = 0)) 8) z.1.toInt.toNat : Int)) (by
    (try dsimp only)
    rw [q0]
    exact ⟨by omega, rfl⟩) (fun x z p st => by
    obtain ⟨x1, x2⟩ := x
    obtain ⟨z1, z2⟩ := z
    (try dsimp only at p st ⊢)
    obtain ⟨p1, p2⟩ := p
    have inner : ∀ {y a : Int32}, RCH (fun x_ y_ => ST_X12_toldBy_17 v M x1 x_.1 x_.2 y_.1 y_.2) ((0 : Int32), (0 : Int32)) (y, a) → 8 ≤ y.toInt → (a.toInt = 0 ∧ anyB (fun i => bt v i && decide (¬ (M.1 (60, 0, 0) (192 * i + x1.toInt.toNat)).toInt = 0)) 8 = false) ∨ (¬ a.toInt = 0 ∧ anyB (fun i => bt v i && decide (¬ (M.1 (60, 0, 0) (192 * i + x1.toInt.toNat)).toInt = 0)) 8 = true) := fun {y a} hL hy => by
      have I := rind hL (fun z => (0 ≤ z.1.toInt ∧ z.1.toInt ≤ 8) ∧ ((z.2.toInt = 0 ∧ anyB (fun i => bt v i && decide (¬ (M.1 (60, 0, 0) (192 * i + x1.toInt.toNat)).toInt = 0)) z.1.toInt.toNat = false) ∨ (¬ z.2.toInt = 0 ∧ anyB (fun i => bt v i && decide (¬ (M.1 (60, 0, 0) (192 * i + x1.toInt.toNat)).toInt = 0)) z.1.toInt.toNat = true))) (by
        (try dsimp only)
        rw [q0]
        exact ⟨by omega, Or.inl ⟨rfl, rfl⟩⟩) (fun x z p st => by
        obtain ⟨y1, y2⟩ := x
        obtain ⟨w1, w2⟩ := z
        (try dsimp only at p st ⊢)
        obtain ⟨p3, p4⟩ := p
        have ey : y1 = nI y1.toInt.toNat := nI_of_toInt (by omega)
        have nx : w1.toInt = y1.toInt + 1 → anyB (fun i => bt v i && decide (¬ (M.1 (60, 0, 0) (192 * i + x1.toInt.toNat)).toInt = 0)) w1.toInt.toNat = (anyB (fun i => bt v i && decide (¬ (M.1 (60, 0, 0) (192 * i + x1.toInt.toNat)).toInt = 0)) y1.toInt.toNat || (bt v y1.toInt.toNat && decide (¬ (M.1 (60, 0, 0) (192 * y1.toInt.toNat + x1.toInt.toNat)).toInt = 0))) := fun e => by
          rw [show w1.toInt.toNat = y1.toInt.toNat + 1 by omega]
          rfl
        refine xE_ST_X12_toldBy_17 st (fun f_hv0_17 f_hv1_17 f_h4_ => ⟨(fun f_h14_ f_z15_ f_h16_ f_hq_v5_17y f_hq_v4_17y => ?_), (fun f_h14_ f_z17_ f_h18_ f_z19_ f_h21_ f_h20_ => ⟨(fun f_h22_ f_z23_ f_h24_ f_hq_v5_17y f_hq_v4_17y => ?_), (fun f_h22_ f_z25_ f_h26_ f_z27_ f_h28_ f_j31_ f_h32_ f_z29_ f_e30_ => ⟨(fun f_h33_ f_z34_ f_h35_ f_hq_v5_17y f_hq_v4_17y => ?_), (fun f_h33_ f_z36_ f_h37_ f_hq_v5_17y f_hq_v4_17y => ?_)⟩)⟩)⟩)
        · have e1 := eT f_hq_v5_17y
          have e2 := eT f_hq_v4_17y
          rw [nx (by omega)]
          refine ⟨by omega, Or.inr ⟨by omega, ?_⟩⟩
          rcases p4 with p4 | p4
          · exact absurd p4.1 f_h14_
          · rw [p4.2, Bool.true_or]
        · have e1 := eT f_hq_v5_17y
          have e2 := eT f_hq_v4_17y
          have bi := bitI (u := v) (n := y1.toInt.toNat) (by omega)
          rw [← ey, ← f_h18_, ← f_h21_] at bi
          have nb : ¬ bt v y1.toInt.toNat = true := fun q => by
            rw [if_pos q] at bi
            exact f_h22_ bi
          rw [nx (by omega)]
          refine ⟨by omega, Or.inl ⟨by omega, ?_⟩⟩
          rcases p4 with p4 | p4
          · rw [p4.2, Bool.eq_false_iff.mpr nb, Bool.false_and, Bool.or_false]
          · exact absurd f_h14_ p4.1
        · have e1 := eT f_hq_v5_17y
          have e2 := eT f_hq_v4_17y
          have e30 := eT f_e30_
          rw [show f_j31_ = 192 * y1.toInt.toNat + x1.toInt.toNat by omega] at e30
          rw [nx (by omega)]
          refine ⟨by omega, Or.inl ⟨by omega, ?_⟩⟩
          rcases p4 with p4 | p4
          · rw [p4.2, decide_eq_false (show ¬ ¬ (M.1 (60, 0, 0) (192 * y1.toInt.toNat + x1.toInt.toNat)).toInt = 0 by omega), Bool.and_false, Bool.or_false]
          · exact absurd f_h14_ p4.1
        · have e1 := eT f_hq_v5_17y
          have e2 := eT f_hq_v4_17y
          have e30 := eT f_e30_
          rw [show f_j31_ = 192 * y1.toInt.toNat + x1.toInt.toNat by omega] at e30
          have bi := bitI (u := v) (n := y1.toInt.toNat) (by omega)
          rw [← ey, ← f_h18_, ← f_h21_] at bi
          have yb : bt v y1.toInt.toNat = true := by
            by_cases q : bt v y1.toInt.toNat = true
            · exact q
            · rw [if_neg q] at bi
              omega
          rw [nx (by omega)]
          refine ⟨by omega, Or.inr ⟨by omega, ?_⟩⟩
          rw [yb, decide_eq_true (show ¬ (M.1 (60, 0, 0) (192 * y1.toInt.toNat + x1.toInt.toNat)).toInt = 0 by omega), Bool.and_self, Bool.or_true])
      (try dsimp only at I)
      obtain ⟨I1, I2⟩ := I
      rw [show y.toInt.toNat = 8 by omega] at I2
      exact I2
    have L1 := pcB_le (fun c => anyB (fun i => bt v i && decide (¬ (M.1 (60, 0, 0) (192 * i + c)).toInt = 0)) 8) x1.toInt.toNat
    have nx : z1.toInt = x1.toInt + 1 → pcB (fun c => anyB (fun i => bt v i && decide (¬ (M.1 (60, 0, 0) (192 * i + c)).toInt = 0)) 8) z1.toInt.toNat = pcB (fun c => anyB (fun i => bt v i && decide (¬ (M.1 (60, 0, 0) (192 * i + c)).toInt = 0)) 8) x1.toInt.toNat + (anyB (fun i => bt v i && decide (¬ (M.1 (60, 0, 0) (192 * i + x1.toInt.toNat)).toInt = 0)) 8).toNat := fun e => by
      rw [show z1.toInt.toNat = x1.toInt.toNat + 1 by omega]
      rfl
    refine xE_ST_X12_toldBy_4 st (fun k_hv0_4 k_hv1_4 k_h2_ k_v5_17 k_hv0_17 k_hv1_17 k_v4_17 k_hL_17 k_h4_ => ⟨(fun k_h5_ k_z6_ k_h7_ k_z8_ k_h9_ k_hq_v3_4y k_hq_v2_4y => ?_), (fun k_h5_ k_z10_ k_h11_ k_z12_ k_h13_ k_hq_v3_4y k_hq_v2_4y => ?_)⟩)
    · have e := eT k_hq_v3_4y
      have I := inner k_hL_17 k_h4_
      have S : k_z6_.toInt = x2.toInt + 0 := by rw [k_h7_]; exact addI rfl q0 (by omega) (by omega)
      rw [nx (by omega), k_hq_v2_4y]
      rcases I with I | I
      · rw [I.2]
        show _ ∧ _ = ((_ + 0 : Nat) : Int)
        exact ⟨by omega, by omega⟩
      · exact absurd k_h5_ I.1
    · have e := eT k_hq_v3_4y
      have I := inner k_hL_17 k_h4_
      have S : k_z10_.toInt = x2.toInt + 1 := by rw [k_h11_]; exact addI rfl q1 (by omega) (by omega)
      rw [nx (by omega), k_hq_v2_4y]
      rcases I with I | I
      · exact absurd I.1 k_h5_
      · rw [I.2]
        show _ ∧ _ = ((_ + 1 : Nat) : Int)
        exact ⟨by omega, by omega⟩)
  (try dsimp only at g)
  obtain ⟨g1, g2⟩ := g
  rw [hr_, g2, show v3_4.toInt.toNat = 192 by omega]
/-! the first of those that tell most -/
def BSG (Q : Int → Prop) (cn : Int → Int) (k b x : Int) : Prop := (x = -1 ∧ ∀ m, 1 ≤ m → m < k → ¬ Q m) ∨ ((1 ≤ b ∧ b < k) ∧ Q b ∧ x = cn b ∧ (∀ m, 1 ≤ m → m < k → Q m → cn m ≤ x) ∧ ∀ m, 1 ≤ m → m < b → Q m → cn m < x)
theorem BSG_uniq {Q : Int → Prop} {cn : Int → Int} {k b x b' x' : Int} (h : BSG Q cn k b x) (g : BSG Q cn k b' x') : (x = -1 ∧ x' = -1 ∧ ∀ m, 1 ≤ m → m < k → ¬ Q m) ∨ (b = b' ∧ x = x' ∧ x = cn b ∧ Q b) := by
  rcases h with ⟨h1, h2⟩ | ⟨h1, h2, h3, h4, h5⟩
  · rcases g with ⟨g1, g2⟩ | ⟨g1, g2, g3, g4, g5⟩
    · exact Or.inl ⟨h1, g1, h2⟩
    · exact absurd g2 (h2 b' g1.1 g1.2)
  · rcases g with ⟨g1, g2⟩ | ⟨g1, g2, g3, g4, g5⟩
    · exact absurd h2 (g2 b h1.1 h1.2)
    · right
      rcases Int.lt_trichotomy b b' with q | q | q
      · have a1 := g5 b h1.1 q h2
        have a2 := h4 b' g1.1 g1.2 g2
        omega
      · refine ⟨q, ?_, h3, h2⟩
        rw [h3, g3, q]
      · have a1 := h5 b' g1.1 q g2
        have a2 := g4 b h1.1 h1.2 h2
        omega
theorem BSG_no {Q : Int → Prop} {cn : Int → Int} {k k' b x : Int} (h : BSG Q cn k b x) (e : k' = k + 1) (hn : 1 ≤ k → ¬ Q k) : BSG Q cn k' b x := by
  have nx : ∀ m, 1 ≤ m → m < k' → Q m → m < k := fun m a c d => by
    by_cases q : m = k
    · rw [q] at a d
      exact absurd d (hn a)
    · omega
  rcases h with ⟨h1, h2⟩ | ⟨h1, h2, h3, h4, h5⟩
  · exact Or.inl ⟨h1, fun m a c d => h2 m a (nx m a c d) d⟩
  · exact Or.inr ⟨by omega, h2, h3, fun m a c d => h4 m a (nx m a c d) d, h5⟩
theorem BSG_keep {Q : Int → Prop} {cn : Int → Int} {k k' b x : Int} (h : BSG Q cn k b x) (e : k' = k + 1) (h0 : 0 ≤ cn k) (hn : cn k ≤ x) : BSG Q cn k' b x := by
  rcases h with ⟨h1, h2⟩ | ⟨h1, h2, h3, h4, h5⟩
  · omega
  · refine Or.inr ⟨by omega, h2, h3, fun m a c d => ?_, h5⟩
    by_cases q : m = k
    · rw [q]; exact hn
    · exact h4 m a (by omega) d
theorem BSG_new {Q : Int → Prop} {cn : Int → Int} {k k' b x y : Int} (h : BSG Q cn k b x) (e : k' = k + 1) (hk : 1 ≤ k) (hQ : Q k) (hy : y = cn k) (hn : x < cn k) : BSG Q cn k' k y := by
  rcases h with ⟨h1, h2⟩ | ⟨h1, h2, h3, h4, h5⟩
  · refine Or.inr ⟨by omega, hQ, hy, fun m a c d => ?_, fun m a c d => absurd d (h2 m a c)⟩
    by_cases q : m = k
    · rw [q]; omega
    · exact absurd d (h2 m a (by omega))
  · refine Or.inr ⟨by omega, hQ, hy, fun m a c d => ?_, fun m a c d => by have := h4 m a c d; omega⟩
    by_cases q : m = k
    · rw [q]; omega
    · have := h4 m a (by omega) d
      omega
theorem BSG_ext {Q : Int → Prop} {cn : Int → Int} {k k' b x : Int} (h : BSG Q cn k b x) (hk : k ≤ k') (hn : ∀ m, k ≤ m → m < k' → ¬ Q m) : BSG Q cn k' b x := by
  have nx : ∀ m, m < k' → Q m → m < k := fun m c d => by
    rcases Int.lt_or_le m k with q | q
    · exact q
    · exact absurd d (hn m q c)
  rcases h with ⟨h1, h2⟩ | ⟨h1, h2, h3, h4, h5⟩
  · exact Or.inl ⟨h1, fun m a c d => h2 m a (nx m c d) d⟩
  · exact Or.inr ⟨by omega, h2, h3, fun m a c d => h4 m a (nx m c d) d, h5⟩
def QSp (k t : Int32) (m : Int) : Prop := (Int32.ofInt m &&& (k ^^^ ((-1) : Int32))).toInt = 0 ∧ pcS (Int32.ofInt m) 8 = t.toInt
theorem QSp_v {k t v : Int32} : QSp k t v.toInt ↔ (v &&& (k ^^^ ((-1) : Int32))).toInt = 0 ∧ pcS v 8 = t.toInt := by unfold QSp; rw [← ofT v]
def cnD (D : mM) (m : Int) : Int := (pcB (fun c => anyB (fun i => bt (Int32.ofInt m) i && decide (¬ (D.1 (60, 0, 0) (192 * i + c)).toInt = 0)) 8) 192 : Int)
theorem chooseC {wu : Nat} {C0 A A2 D : mM} {k t y : Int32} (h : RCH (fun x_ y_ => ST_X0_chooseSpots_80 0 wu t C0 k x_.1 x_.2 y_.1 y_.2) ((1 : Int32), A) (y, A2)) (h0 : (A.1 (0, 0, 0) 4).toInt = -1) (hy : 256 ≤ y.toInt)
    (hm : ∀ i c : Nat, i < 8 → c < 192 → bt k i = true → (MKc i c A.2 = true ↔ ¬ (D.1 (60, 0, 0) (192 * i + c)).toInt = 0)) : BSG (QSp k t) (cnD D) 256 (A2.1 (0, 0, 0) 5).toInt (A2.1 (0, 0, 0) 4).toInt := by
  have q1 := il_1
  have g := rind h (fun z => (1 ≤ z.1.toInt ∧ z.1.toInt ≤ 256) ∧ z.2.2 = A.2 ∧ BSG (QSp k t) (cnD D) z.1.toInt (z.2.1 (0, 0, 0) 5).toInt (z.2.1 (0, 0, 0) 4).toInt) ⟨by dsimp only; omega, rfl, Or.inl ⟨by dsimp only; exact h0, fun m a b => by dsimp only at b; omega⟩⟩ (fun x z p st => by
    obtain ⟨x1, XM⟩ := x
    obtain ⟨z1, ZM⟩ := z
    (try dsimp only at p st ⊢)
    obtain ⟨p1, p2, p3⟩ := p
    have cc : ∀ {r : Int32}, SP_X0_countLearned x1 XM r → (x1 &&& (k ^^^ ((-1) : Int32))).toInt = 0 → r.toInt = cnD D x1.toInt := fun {r} a b => by
      have s := sub_bits b
      rw [cntC a, p2]
      unfold cnD
      rw [← ofT x1]
      refine congrArg (fun z : Nat => (z : Int)) (pcB_cong 192 (fun c hc => anyB_cong 8 (fun i hi => ?_)))
      by_cases q : bt x1 i = true
      · rw [q, Bool.true_and, Bool.true_and]
        have mk := hm i c hi hc (s i (by omega) q)
        by_cases q2 : (D.1 (60, 0, 0) (192 * i + c)).toInt = 0
        · rw [decide_eq_false (fun z => z q2)]
          exact Bool.eq_false_iff.mpr (fun z => (mk.mp z) q2)
        · rw [decide_eq_true q2]
          exact mk.mpr q2
      · rw [Bool.eq_false_iff.mpr q, Bool.false_and, Bool.false_and]
    have c0 : 0 ≤ cnD D x1.toInt := by unfold cnD; omega
    refine xE_ST_X0_chooseSpots_80 st (fun k_hv0_80 k_hv1_80 _ k_hF_80 k_h15_ k_z19_ k_h20_ k_z21_ k_h22_ => ⟨(fun k_h23_ k_z24_ k_h25_ k_hq_v6_80y k_hM_ => ?_), (fun k_h23_ k_r26_ k_hs30_ => ⟨(fun k_h31_ k_z32_ k_h33_ k_hq_v6_80y k_hM_ => ?_), (fun k_h31_ k_r34_ k_hs38_ k_z39_ k_e40_ => ⟨(fun k_h41_ k_z42_ k_h43_ k_hq_v6_80y k_hM_ => ?_), (fun k_h41_ k_M44_ k_hM45_ k_M48_ k_hM49_ k_z52_ k_h53_ k_hq_v6_80y k_hM_ => ?_)⟩)⟩)⟩)
    · have e := eT k_hq_v6_80y
      rw [k_h20_] at k_h22_
      rw [k_hM_]
      exact ⟨by omega, p2, BSG_no p3 (by omega) (fun _ z => k_h23_ (by rw [k_h22_]; exact (QSp_v.mp z).1))⟩
    · have e := eT k_hq_v6_80y
      have c1 := jiP k_hs30_ (by omega)
      rw [k_hM_]
      exact ⟨by omega, p2, BSG_no p3 (by omega) (fun _ z => k_h31_ (by rw [c1]; exact (QSp_v.mp z).2))⟩
    · have e := eT k_hq_v6_80y
      have e39 := eT k_e40_
      rw [k_h20_] at k_h22_
      rw [k_h22_] at k_h23_
      have c2 := cc k_hs38_ k_h23_
      rw [k_hM_]
      exact ⟨by omega, p2, BSG_keep p3 (by omega) c0 (by omega)⟩
    · have e := eT k_hq_v6_80y
      have e39 := eT k_e40_
      have c1 := jiP k_hs30_ (by omega)
      rw [k_h20_] at k_h22_
      rw [k_h22_] at k_h23_
      have c2 := cc k_hs38_ k_h23_
      have m5 : k_M48_.1 (0, 0, 0) 5 = x1 := zupE k_hM49_ rfl rfl
      have m4 : k_M48_.1 (0, 0, 0) 4 = k_r34_ := by rw [zupN k_hM49_ (fun z => absurd z.2 (by omega)), zupE k_hM45_ rfl rfl]
      have m2 : k_M48_.2 = XM.2 := (up2_ k_hM49_).trans (up2_ k_hM45_)
      rw [k_hM_, m5, m4]
      exact ⟨by omega, m2.trans p2, BSG_new p3 (by omega) (by omega) (QSp_v.mpr ⟨k_h23_, by omega⟩) c2 (by omega)⟩)
  (try dsimp only at g)
  obtain ⟨g1, g2, g3⟩ := g
  rw [show y.toInt = 256 by omega] at g3
  exact g3
theorem chooseD {u t k y x b : Int32} {D : mM} (h : RCH (fun x_ y_ => ST_X12_spots_169 u t D k x_.1 x_.2.1 x_.2.2 y_.1 y_.2.1 y_.2.2) ((0 : Int32), ((-1) : Int32), (0 : Int32)) (y, x, b)) (hu : 0 ≤ u.toInt) (ht : 1 ≤ t.toInt) (hy : ((1 : Int32) <<< (D.1 (67, 0, 0) u.toInt.toNat &&& 31)).toInt ≤ y.toInt) (hU : 1 ≤ ((1 : Int32) <<< (D.1 (67, 0, 0) u.toInt.toNat &&& 31)).toInt) : BSG (QSp k t) (cnD D) ((1 : Int32) <<< (D.1 (67, 0, 0) u.toInt.toNat &&& 31)).toInt b.toInt x.toInt := by
  have q0 := il_0
  have qm := il_m1
  have g := rind h (fun z => (0 ≤ z.1.toInt ∧ z.1.toInt ≤ ((1 : Int32) <<< (D.1 (67, 0, 0) u.toInt.toNat &&& 31)).toInt) ∧ BSG (QSp k t) (cnD D) z.1.toInt z.2.2.toInt z.2.1.toInt) ⟨by dsimp only; omega, Or.inl ⟨by dsimp only; exact qm, fun m a b => by dsimp only at b; omega⟩⟩ (fun x z p st => by
    obtain ⟨x1, x2, x3⟩ := x
    obtain ⟨z1, z2, z3⟩ := z
    (try dsimp only at p st ⊢)
    obtain ⟨p1, p3⟩ := p
    have pw : ∀ {j : Nat} {zz z : Int32}, (j : Int) = u.toInt → zz = D.1 (67, 0, 0) j → z = (1 : Int32) <<< (zz &&& 31) → z.toInt = ((1 : Int32) <<< (D.1 (67, 0, 0) u.toInt.toNat &&& 31)).toInt := fun {j zz z} a b c => by
      rw [c, b, show j = u.toInt.toNat by omega]
    have cc : ∀ {r : Int32}, SP_X12_toldBy x1 D r → r.toInt = cnD D x1.toInt := fun {r} a => by
      rw [cntD2 a]
      unfold cnD
      rw [← ofT x1]
    have c0 : 0 ≤ cnD D x1.toInt := by unfold cnD; omega
    have no0 : pcS x1 8 = t.toInt → 1 ≤ x1.toInt := fun s => by
      by_cases q : x1.toInt = 0
      · have e : x1 = 0 := i32e (by omega)
        rw [e, pcS_z] at s
        omega
      · omega
    refine xE_ST_X12_spots_169 st (fun k_hv0_169 k_j53_ k_h54_ k_z51_ k_e52_ k_h55_ k_h56_ k_z57_ k_h58_ k_h59_ k_z61_ k_h62_ k_z63_ k_h64_ => ⟨(fun k_h65_ k_z66_ k_h67_ k_hq_v8_169y k_hq_v7_169y k_hq_v6_169y => ?_), (fun k_h65_ k_r68_ k_hs72_ => ⟨(fun k_h73_ k_z74_ k_h75_ k_hq_v8_169y k_hq_v7_169y k_hq_v6_169y => ?_), (fun k_h73_ k_r76_ k_hs80_ => ⟨(fun k_h81_ k_z82_ k_h83_ k_hq_v8_169y k_hq_v7_169y k_hq_v6_169y => ?_), (fun k_h81_ k_r84_ k_hs88_ k_z89_ k_h90_ k_hq_v8_169y k_hq_v7_169y k_hq_v6_169y => ?_)⟩)⟩)⟩)
    · have e := eT k_hq_v8_169y
      have w := pw k_h54_ k_e52_ k_h58_
      rw [k_h62_] at k_h64_
      rw [k_hq_v7_169y, k_hq_v6_169y]
      exact ⟨by omega, BSG_no p3 (by omega) (fun _ z => k_h65_ (by rw [k_h64_]; exact (QSp_v.mp z).1))⟩
    · have e := eT k_hq_v8_169y
      have w := pw k_h54_ k_e52_ k_h58_
      have c1 := bitsP k_hs72_
      rw [k_hq_v7_169y, k_hq_v6_169y]
      exact ⟨by omega, BSG_no p3 (by omega) (fun _ z => k_h73_ (by rw [c1]; exact (QSp_v.mp z).2))⟩
    · have e := eT k_hq_v8_169y
      have w := pw k_h54_ k_e52_ k_h58_
      have c2 := cc k_hs80_
      rw [k_hq_v7_169y, k_hq_v6_169y]
      exact ⟨by omega, BSG_keep p3 (by omega) c0 (by omega)⟩
    · have e := eT k_hq_v8_169y
      have w := pw k_h54_ k_e52_ k_h58_
      have c1 := bitsP k_hs72_
      have c2 := cc k_hs80_
      have c3 := cc k_hs88_
      rw [k_h62_] at k_h64_
      rw [k_h64_] at k_h65_
      rw [k_hq_v7_169y, k_hq_v6_169y]
      exact ⟨by omega, BSG_new p3 (by omega) (no0 (by omega)) (QSp_v.mpr ⟨k_h65_, by omega⟩) c3 (by omega)⟩)
  (try dsimp only at g)
  obtain ⟨g1, g3⟩ := g
  rw [show y.toInt = ((1 : Int32) <<< (D.1 (67, 0, 0) u.toInt.toNat &&& 31)).toInt by omega] at g3
  exact g3
