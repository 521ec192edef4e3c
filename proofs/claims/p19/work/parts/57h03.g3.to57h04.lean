section
/-! class and model row: who is alike -/
def nnU (u : Nat) : Nat := if u = 0 then 4 else if u = 1 then 3 else 5
def LWR (b : Nat) (q : rf → Nat → Int32) (n : Nat → Int32) : Prop := q (10, b, 0) 7 = n 0 ∧ (∀ k, k < 3 → q (2, b, 0) k = n (6 + k)) ∧ (∀ k, k < 5 → q (26, b, 0) k = n (9 + k) ∧ q (27, b, 0) k = n (14 + k))
def THR (b : Nat) (q : rf → Nat → Int32) (n : Nat → Int32) : Prop := q (7, b, 0) 5 = n 1 ∧ ∀ t : Nat, (t : Int) < nTh n → q (36, b, 0) t = n (20 + 4 * t) ∧ q (37, b, 0) t = n (21 + 4 * t) ∧ q (38, b, 0) t = n (22 + 4 * t) ∧ q (39, b, 0) t = n (23 + 4 * t)
def WAR (b : Nat) (q : rf → Nat → Int32) (n : Nat → Int32) : Prop := q (10, b, 0) 6 = n 2 ∧ ∀ w : Nat, (w : Int) < nWa n → (∀ k, k < 9 → q (9, b, w) k = n (180 + 9 * w + k)) ∧ (∀ c, c < 192 → q (40, b, w) c = n (495 + 384 * w + c) ∧ q (41, b, w) c = n (687 + 384 * w + c))
def TXR (b : Nat) (q : rf → Nat → Int32) (n : Nat → Int32) : Prop := ∀ u, u < 3 → q (1, b, u) 2 = n (345 + 50 * u) ∧ ∀ i : Nat, (i : Int) < (n (345 + 50 * u)).toInt → (q (24, b, u) i).toInt = cmI (n (346 + 50 * u + i)).toInt ∧ cOK (nnU u) (n (346 + 50 * u + i))
/-- of the model's row alone -/
def MIR (n : Nat → Int32) : Prop := (∀ w : Nat, (w : Int) < nWa n → (1 ≤ (n (183 + 9 * w)).toInt ∧ (n (183 + 9 * w)).toInt ≤ 9) ∧ (1 ≤ (n (184 + 9 * w)).toInt ∧ (n (184 + 9 * w)).toInt ≤ 99)) ∧
  (∀ t : Nat, (t : Int) < nTh n → 0 ≤ (n (23 + 4 * t)).toInt ∧ ((n (20 + 4 * t)).toInt < 3 → (n (23 + 4 * t)).toInt = 0)) ∧
  (∀ w : Nat, nWa n ≤ (w : Int) → w < 8 → (∀ k, k < 9 → n (180 + 9 * w + k) = 0) ∧ (∀ c, c < 384 → n (495 + 384 * w + c) = 0))
/-! strength, heard -/
theorem ofIe {x : Int32} {z : Int} (h : x.toInt = z) : x = Int32.ofInt z := by rw [← h, Int32.ofInt_toInt]
def clS (t s : Int32) : Int := if s.toInt = 1 then (if t.toInt < 0 then 0 else if 999 < t.toInt then 999 else t.toInt) / 2 else (if t.toInt < 0 then 0 else if 999 < t.toInt then 999 else t.toInt)
def raV (n : Nat → Int32) (k : Nat) (p l y : Int32) : Nat → Int32 := fun i => if i = 0 then l else if i = 1 then n (9 + k) else if i = 2 then y else p
def raS (n : Nat → Int32) (k : Nat) (p l y : Int32) : Int32 := if (n 345).toInt ≤ 0 then l * n (9 + k) / (50 : Int32) - (2 : Int32) * y else evR n 0 (raV n k p l y)
def strI (n : Nat → Int32) (k : Nat) (p l y : Int32) : Int := if p.toInt < (n (14 + k)).toInt then 0 else clS (raS n k p l y) (n 8)
theorem cl1 {t z z2 s : Int32} (h1 : (z.toInt = 999 ∧ 999 ≤ t.toInt) ∨ (z.toInt = t.toInt ∧ t.toInt ≤ 999)) (h2 : (z2.toInt = 0 ∧ z.toInt ≤ 0) ∨ (z2.toInt = z.toInt ∧ 0 ≤ z.toInt)) (h3 : ¬ s.toInt = 1) : z2.toInt = clS t s := by
  unfold clS
  rw [if_neg h3]
  repeat' split
  all_goals omega
theorem cl2 {t z z2 z3 s : Int32} (h1 : (z.toInt = 999 ∧ 999 ≤ t.toInt) ∨ (z.toInt = t.toInt ∧ t.toInt ≤ 999)) (h2 : (z2.toInt = 0 ∧ z.toInt ≤ 0) ∨ (z2.toInt = z.toInt ∧ 0 ≤ z.toInt)) (h3 : s.toInt = 1) (h4 : z3.toInt = z2.toInt / 2) : z3.toInt = clS t s := by
  unfold clS
  rw [if_pos h3, h4]
  repeat' split
  all_goals omega
theorem x1given {b w : Nat} {M : mM} {r : Int32} (h : SP_X1_isGiven b w M r) : (r.toInt = 0 ∧ (M.1 (1, b, w) 2).toInt ≤ 0) ∨ (r.toInt = 1 ∧ 0 < (M.1 (1, b, w) 2).toInt) := by
  have q0 := il_0
  have q1 := il_1
  refine xE_SP_X1_isGiven h (fun z1_ e2_ => ⟨(fun h3_ hr_ => ?_), (fun h3_ hr_ => ?_)⟩)
  all_goals (have y1 := eT e2_; have y2 := eT hr_; omega)
theorem x12has {u : Nat} {v : Int32} {M : mM} {r : Int32} (h : SP_X12_hasText v M r) (hv : v.toInt = u) : (r.toInt = 0 ∧ (M.1 (50, 0, 0) (345 + 50 * u)).toInt ≤ 0) ∨ (r.toInt = 1 ∧ 0 < (M.1 (50, 0, 0) (345 + 50 * u)).toInt) := by
  have q0 := il_0
  have q1 := il_1
  refine xE_SP_X12_hasText h (fun z1_ h2_ z3_ h4_ j7_ h8_ z5_ e6_ => ⟨(fun h9_ hr_ => ?_), (fun h9_ hr_ => ?_)⟩)
  all_goals
    obtain rfl : j7_ = 345 + 50 * u := by omega
    have y1 := eT e6_
    have y2 := eT hr_
    omega
theorem sval {M M1 M2 M3 M4 : mM} {c : rf} {a0 a1 a2 a3 : Int32} (h1 : M1 = up M c 0 a0) (h2 : M2 = up M1 c 1 a1) (h3 : M3 = up M2 c 2 a2) (h4 : M4 = up M3 c 3 a3) : ∀ i, i < 4 → M4.1 c i = if i = 0 then a0 else if i = 1 then a1 else if i = 2 then a2 else a3 := fun i hi => by
  obtain rfl | rfl | rfl | rfl : i = 0 ∨ i = 1 ∨ i = 2 ∨ i = 3 := by omega
  · rw [zupN h4 (by simp), zupN h3 (by simp), zupN h2 (by simp), zupE h1 rfl rfl]; rfl
  · rw [zupN h4 (by simp), zupN h3 (by simp), zupE h2 rfl rfl]; rfl
  · rw [zupN h4 (by simp), zupE h3 rfl rfl]; rfl
  · rw [zupE h4 rfl rfl]; rfl
theorem x2strength {b : Nat} {v u t : Int32} {M M' : mM} {r : Int32} {n : Nat → Int32} (h : SP_X2_strength b v u t M r M') (hL : LWR b M.1 n) (hT : TXR b M.1 n) (hW : WT n) (hv : 0 ≤ v.toInt ∧ v.toInt ≤ 4) : r.toInt = strI n v.toInt.toNat (u / 100) (u - u / (100 : Int32) * (100 : Int32)) t := by
  have q0 := il_0
  obtain ⟨-, l2, l3⟩ := hL
  have T := hT 0 (by omega)
  simp only [Nat.mul_zero, Nat.add_zero] at T
  have s8 := l2 2 (by omega)
  unfold strI
  refine xE_SP_X2_strength h (fun z1_ h2_ z3_ h4_ => ⟨(fun h5_ hr_ hM_ => ?_), (fun h5_ => ⟨(fun h6_ hr_ hM_ => ?_), (fun h6_ j9_ h10_ z7_ e8_ => ⟨(fun h11_ j14_ h15_ z12_ e13_ z16_ h17_ z18_ h19_ z20_ h21_ z22_ h23_ r24_ hs28_ h27_ => ⟨(fun h29_ z30_ h31_ z32_ h33_ z34_ e35_ => ⟨(fun h36_ hr_ hM_ => ?_), (fun h36_ z37_ h38_ hr_ hM_ => ?_)⟩), (fun h29_ M39_ hM40_ j45_ h46_ z43_ e44_ M47_ hM48_ M51_ hM52_ M55_ hM56_ _ M60_ _ hF64_ r59_ hs66_ z67_ h68_ z69_ h70_ z71_ e72_ => ⟨(fun h73_ hr_ hM_ => ?_), (fun h73_ z74_ h75_ hr_ hM_ => ?_)⟩)⟩), (fun h11_ hr_ hM_ => ?_)⟩)⟩)⟩)
  · omega
  · omega
  · obtain rfl : j9_ = v.toInt.toNat := by omega
    obtain rfl : j14_ = v.toInt.toNat := by omega
    have y0 := eT e8_
    rw [(l3 _ (by omega)).2] at y0
    have g := x1given hs28_
    rw [T.1] at g
    rw [h2_] at h11_
    rw [if_neg (by omega), hr_]
    have er : z22_ = raS n v.toInt.toNat (u / 100) (u - u / (100 : Int32) * (100 : Int32)) t := by
      unfold raS
      rw [if_pos (show (n 345).toInt ≤ 0 by omega), h23_, h21_, h19_, h17_, e13_, (l3 _ (by omega)).1, h4_]
    rw [← er]
    exact cl1 h31_ h33_ (by rw [← s8, ← e35_]; exact h36_)
  · obtain rfl : j9_ = v.toInt.toNat := by omega
    obtain rfl : j14_ = v.toInt.toNat := by omega
    have y0 := eT e8_
    rw [(l3 _ (by omega)).2] at y0
    have g := x1given hs28_
    rw [T.1] at g
    rw [h2_] at h11_
    rw [if_neg (by omega), hr_]
    have er : z22_ = raS n v.toInt.toNat (u / 100) (u - u / (100 : Int32) * (100 : Int32)) t := by
      unfold raS
      rw [if_pos (show (n 345).toInt ≤ 0 by omega), h23_, h21_, h19_, h17_, e13_, (l3 _ (by omega)).1, h4_]
    rw [← er]
    exact cl2 h31_ h33_ (by rw [← s8, ← e35_]; exact h36_) h38_
  · obtain rfl : j9_ = v.toInt.toNat := by omega
    obtain rfl : j14_ = v.toInt.toNat := by omega
    obtain rfl : j45_ = v.toInt.toNat := by omega
    have y0 := eT e8_
    rw [(l3 _ (by omega)).2] at y0
    have g := x1given hs28_
    rw [T.1] at g
    rw [h2_] at h11_
    have er : r59_ = raS n v.toInt.toNat (u / 100) (u - u / (100 : Int32) * (100 : Int32)) t := by
      unfold raS
      rw [if_neg (show ¬ (n 345).toInt ≤ 0 by omega)]
      have k : ∀ (c : rf) (j : Nat), c.1 ≠ 29 → M55_.1 c j = M.1 c j := fun c j hc => by
        rw [zupR hM56_ hc, zupR hM52_ hc, zupR hM48_ hc, zupR hM40_ hc]
      refine x1work (nn := 4) hs66_ (by omega) hW (by rw [k _ _ (by first | decide | simp | (dsimp only; omega))]; exact T.1) (fun i hi => by rw [k _ _ (by first | decide | simp | (dsimp only; omega))]; exact T.2 i hi) (fun i hi => ?_) (show 0 < (n 345).toInt by omega)
      rw [sval hM40_ hM48_ hM52_ hM56_ i hi, e44_, zupR hM40_ (by first | decide | simp | (dsimp only; omega)), (l3 _ (by omega)).1, h4_, h2_]; rfl
    rw [if_neg (by omega), hr_, ← er]
    have s9 : M60_.1 (2, b, 0) 2 = n 8 := by rw [S1_c hF64_ (by first | decide | simp | (dsimp only; omega)), zupR hM56_ (by first | decide | simp | (dsimp only; omega)), zupR hM52_ (by first | decide | simp | (dsimp only; omega)), zupR hM48_ (by first | decide | simp | (dsimp only; omega)), zupR hM40_ (by first | decide | simp | (dsimp only; omega))]; exact s8
    exact cl1 h68_ h70_ (by rw [← s9, ← e72_]; exact h73_)
  · obtain rfl : j9_ = v.toInt.toNat := by omega
    obtain rfl : j14_ = v.toInt.toNat := by omega
    obtain rfl : j45_ = v.toInt.toNat := by omega
    have y0 := eT e8_
    rw [(l3 _ (by omega)).2] at y0
    have g := x1given hs28_
    rw [T.1] at g
    rw [h2_] at h11_
    have er : r59_ = raS n v.toInt.toNat (u / 100) (u - u / (100 : Int32) * (100 : Int32)) t := by
      unfold raS
      rw [if_neg (show ¬ (n 345).toInt ≤ 0 by omega)]
      have k : ∀ (c : rf) (j : Nat), c.1 ≠ 29 → M55_.1 c j = M.1 c j := fun c j hc => by
        rw [zupR hM56_ hc, zupR hM52_ hc, zupR hM48_ hc, zupR hM40_ hc]
      refine x1work (nn := 4) hs66_ (by omega) hW (by rw [k _ _ (by first | decide | simp | (dsimp only; omega))]; exact T.1) (fun i hi => by rw [k _ _ (by first | decide | simp | (dsimp only; omega))]; exact T.2 i hi) (fun i hi => ?_) (show 0 < (n 345).toInt by omega)
      rw [sval hM40_ hM48_ hM52_ hM56_ i hi, e44_, zupR hM40_ (by first | decide | simp | (dsimp only; omega)), (l3 _ (by omega)).1, h4_, h2_]; rfl
    rw [if_neg (by omega), hr_, ← er]
    have s9 : M60_.1 (2, b, 0) 2 = n 8 := by rw [S1_c hF64_ (by first | decide | simp | (dsimp only; omega)), zupR hM56_ (by first | decide | simp | (dsimp only; omega)), zupR hM52_ (by first | decide | simp | (dsimp only; omega)), zupR hM48_ (by first | decide | simp | (dsimp only; omega)), zupR hM40_ (by first | decide | simp | (dsimp only; omega))]; exact s8
    exact cl2 h68_ h70_ (by rw [← s9, ← e72_]; exact h73_) h75_
  · obtain rfl : j9_ = v.toInt.toNat := by omega
    have y0 := eT e8_
    rw [(l3 _ (by omega)).2] at y0
    rw [h2_] at h11_
    rw [if_pos (by omega), hr_]; exact il_0
theorem x12strength {v u t s : Int32} {M M' : mM} {r : Int32} (h : SP_X12_strength v u t s M r M') (hD : InvD M) (hx : ∀ i : Nat, (i : Int) < (M.1 (50, 0, 0) 345).toInt → cOK 4 (M.1 (50, 0, 0) (346 + i))) (hv : 0 ≤ v.toInt ∧ v.toInt ≤ 4) : r.toInt = strI (M.1 (50, 0, 0)) v.toInt.toNat u t s := by
  have q0 := il_0
  unfold strI
  unfold SP_X12_strength at h
  obtain ⟨z1_, h2_, j5_, h6_, z3_, e4_, M7_, hM8_, M11_, hM12_, M15_, hM16_, M19_, hM20_, hI21_, r23_, hs27_, h26_, h⟩ := h
  obtain rfl : j5_ = 9 + v.toInt.toNat := by omega
  have k : ∀ (c : rf) (j : Nat), c.1 ≠ 58 → M19_.1 c j = M.1 c j := fun c j hc => by
    rw [zupR hM20_ hc, zupR hM16_ hc, zupR hM12_ hc, zupR hM8_ hc]
  have k50 : M19_.1 (50, 0, 0) = M.1 (50, 0, 0) := funext fun j => k _ _ (by first | decide | simp | (dsimp only; omega))
  have g := x12has (u := 0) hs27_ (by first | decide | simp | (dsimp only; omega))
  rw [k50] at g
  simp only [Nat.mul_zero, Nat.add_zero] at g
  rcases h with ⟨h28_, z29_, h30_, z31_, h32_, z33_, h34_, z35_, h36_, z37_, h38_, z39_, h40_, z41_, e42_, h⟩ | ⟨h28_, M61_, -, hF65_, r60_, hs67_, z68_, h69_, z70_, h71_, z72_, e73_, h⟩
  · have er : z35_ = raS (M.1 (50, 0, 0)) v.toInt.toNat u t s := by
      unfold raS
      rw [if_pos (by omega), h36_, h34_, h32_, h30_, e4_]
    have s9 : z41_ = M.1 (50, 0, 0) 8 := by rw [e42_, k50]
    rcases h with ⟨h43_, z44_, h45_, j48_, h49_, z46_, e47_, h⟩ | ⟨h43_, z51_, h52_, z53_, h54_, j57_, h58_, z55_, e56_, h⟩
    · obtain rfl : j48_ = 14 + v.toInt.toNat := by omega
      rw [k50] at e47_
      have y := eT e47_
      rcases h with ⟨h50_, hr_, hM_⟩ | ⟨h50_, hr_, hM_⟩
      · rw [if_neg (by omega), hr_, ← er]
        exact cl1 h38_ h40_ (by rw [← s9]; exact h43_)
      · rw [if_pos (by omega), hr_]; exact il_0
    · obtain rfl : j57_ = 14 + v.toInt.toNat := by omega
      rw [k50] at e56_
      have y := eT e56_
      rcases h with ⟨h50_, hr_, hM_⟩ | ⟨h50_, hr_, hM_⟩
      · rw [if_neg (by omega), hr_, ← er]
        exact cl2 h38_ h40_ (by rw [← s9]; exact h43_) h52_
      · rw [if_pos (by omega), hr_]; exact il_0
  · have er : r60_ = raS (M.1 (50, 0, 0)) v.toInt.toNat u t s := by
      unfold raS
      rw [if_neg (by omega), ← k50]
      refine x12given (nn := 4) hs67_ hI21_ ⟨by decide, by omega⟩ (fun i hi => ?_) (fun i hi => ?_) (by rw [k50]; simp only [Nat.mul_zero, Nat.add_zero]; omega)
      · rw [k50] at hi ⊢
        simp only [Nat.mul_zero, Nat.add_zero] at hi ⊢
        exact hx i hi
      · rw [sval hM8_ hM12_ hM16_ hM20_ i hi, e4_]
        unfold raV
        rw [k50]
    have g50 : M61_.1 (50, 0, 0) = M.1 (50, 0, 0) := (funext fun j => hF65_ _ _ (by simp [S_c_X12_given])).trans k50
    rw [g50] at e73_
    rcases h with ⟨h43_, z44_, h45_, j48_, h49_, z46_, e47_, h⟩ | ⟨h43_, z51_, h52_, z53_, h54_, j57_, h58_, z55_, e56_, h⟩
    · obtain rfl : j48_ = 14 + v.toInt.toNat := by omega
      rw [g50] at e47_
      have y := eT e47_
      rcases h with ⟨h50_, hr_, hM_⟩ | ⟨h50_, hr_, hM_⟩
      · rw [if_neg (by omega), hr_, ← er]
        exact cl1 h69_ h71_ (by rw [← e73_]; exact h43_)
      · rw [if_pos (by omega), hr_]; exact il_0
    · obtain rfl : j57_ = 14 + v.toInt.toNat := by omega
      rw [g50] at e56_
      have y := eT e56_
      rcases h with ⟨h50_, hr_, hM_⟩ | ⟨h50_, hr_, hM_⟩
      · rw [if_neg (by omega), hr_, ← er]
        exact cl2 h69_ h71_ (by rw [← e73_]; exact h43_) h52_
      · rw [if_pos (by omega), hr_]; exact il_0
end
section
/-! late, heard -/
def lateN (s y : Int) : Int := if s % 2 = 1 then 8 * y else 6 * y
theorem emod_bits (a : Int32) (k : Nat) (hk : k ≤ 30) : ((a.toBitVec.toNat % 2 ^ k : Nat) : Int) = a.toInt % ((2 ^ k : Nat) : Int) := by
  have h : a.toInt = a.toBitVec.toInt := rfl
  have hd : (2 ^ k : Nat) ∣ 2 ^ 32 := Nat.pow_dvd_pow 2 (by omega)
  obtain ⟨d, hd⟩ := hd
  rw [h, BitVec.toInt_eq_toNat_cond]
  split
  · exact Int.natCast_emod _ _
  · rw [hd]
    rw [Int.natCast_emod, Int.natCast_mul, Int.sub_mul_emod_self_left]
theorem and_mod (a : Int32) {m : Int32} (k : Nat) (hm : m.toBitVec.toNat = 2 ^ k - 1) (hk : k ≤ 30) : (a &&& m).toInt = a.toInt % ((2 ^ k : Nat) : Int) := by
  have h3 : 2 ^ k ≤ 2 ^ 30 := Nat.pow_le_pow_right (by first | decide | simp | (dsimp only; omega)) hk
  have h4 := Nat.mod_lt a.toBitVec.toNat (Nat.two_pow_pos k)
  rw [pk_and a k hm, nI_toInt (by omega), emod_bits a k hk]
theorem and1 {v : Int32} (h : 0 ≤ v.toInt ∧ v.toInt ≤ 7) : (v &&& (1 : Int32)).toInt = v.toInt % 2 := and_mod v 1 (by first | decide | simp | (dsimp only; omega)) (by omega)
theorem and3 (v : Int32) : (v &&& (3 : Int32)).toInt = v.toInt % 4 := and_mod v 2 (by first | decide | simp | (dsimp only; omega)) (by omega)
theorem and7 (v : Int32) : (v &&& (7 : Int32)).toInt = v.toInt % 8 := and_mod v 3 (by first | decide | simp | (dsimp only; omega)) (by omega)
theorem x2late {v u : Int32} {M : mM} {r : Int32} (h : SP_X2_late v u M r) (hv : 0 ≤ v.toInt ∧ v.toInt ≤ 7) (hu : 0 ≤ u.toInt ∧ u.toInt ≤ 16) : r.toInt = lateN v.toInt u.toInt := by
  have i6 : (6 : Int32).toInt = 6 := by decide
  have i8 : (8 : Int32).toInt = 8 := by decide
  unfold lateN
  have a := and1 hv
  refine xE_SP_X2_late h (fun z1_ h3_ h2_ => ⟨(fun h4_ z5_ h6_ hr_ => ?_), (fun h4_ z7_ h8_ hr_ => ?_)⟩)
  · rw [← h3_] at a
    rw [hr_, h6_, mulI rfl i6 (by omega) (by omega), if_neg (by omega)]; omega
  · rw [← h3_] at a
    rw [hr_, h8_, mulI rfl i8 (by omega) (by omega), if_pos (by omega)]; omega
theorem x12late {v u : Int32} {M : mM} {r : Int32} (h : SP_X12_late v u M r) (hv : 0 ≤ v.toInt ∧ v.toInt ≤ 7) (hu : 0 ≤ u.toInt ∧ u.toInt ≤ 16) : r.toInt = lateN v.toInt u.toInt := by
  have i6 : (6 : Int32).toInt = 6 := by decide
  have i8 : (8 : Int32).toInt = 8 := by decide
  have i2 : (2 : Int32).toInt = 2 := by decide
  unfold lateN
  have a := remI (x := v) (y := (2 : Int32)) rfl i2 hv.1 (by omega)
  refine xE_SP_X12_late h (fun z1_ h2_ => ⟨(fun h3_ z4_ h5_ hr_ => ?_), (fun h3_ z6_ h7_ hr_ => ?_)⟩)
  · rw [← h2_] at a
    rw [hr_, h5_, mulI i6 rfl (by omega) (by omega), if_neg (by omega)]
  · rw [← h2_] at a
    rw [hr_, h7_, mulI i8 rfl (by omega) (by omega), if_pos (by omega)]
def heV (n : Nat → Int32) (la st : Int32) : Nat → Int32 := fun i => if i = 0 then st else if i = 1 then n 6 else la
def hdS (n : Nat → Int32) (ears p : Int) (la st : Int32) : Prop := p ≤ ears ∧ (n 7).toInt < la.toInt ∧ ¬ st.toInt = 0 ∧ (((n 395).toInt ≤ 0 ∧ (n 6).toInt < st.toInt) ∨ (0 < (n 395).toInt ∧ ¬ (evR n 1 (heV n la st)).toInt = 0))
theorem sval3 {M M1 M2 M3 : mM} {c : rf} {a0 a1 a2 : Int32} (h1 : M1 = up M c 0 a0) (h2 : M2 = up M1 c 1 a1) (h3 : M3 = up M2 c 2 a2) : ∀ i, i < 3 → M3.1 c i = if i = 0 then a0 else if i = 1 then a1 else a2 := fun i hi => by
  obtain rfl | rfl | rfl : i = 0 ∨ i = 1 ∨ i = 2 := by omega
  · rw [zupN h3 (by simp), zupN h2 (by simp), zupE h1 rfl rfl]; rfl
  · rw [zupN h3 (by simp), zupE h2 rfl rfl]; rfl
  · rw [zupE h3 rfl rfl]; rfl
theorem x2isHeard {b : Nat} {v u t s : Int32} {M M' : mM} {r : Int32} {n : Nat → Int32} (h : SP_X2_isHeard b v u t s M r M') (hL : LWR b M.1 n) (hT : TXR b M.1 n) (hW : WT n) : (r.toInt = 1 ∧ hdS n v.toInt (u / (100 : Int32)).toInt t s) ∨ (r.toInt = 0 ∧ ¬ hdS n v.toInt (u / (100 : Int32)).toInt t s) := by
  have q0 := il_0
  have q1 := il_1
  obtain ⟨-, l2, l3⟩ := hL
  have T := hT 1 (by omega)
  simp only [Nat.mul_one, Nat.reduceAdd] at T
  have s6 : M.1 (2, b, 0) 0 = n 6 := l2 0 (by omega)
  have s7 : M.1 (2, b, 0) 1 = n 7 := l2 1 (by omega)
  unfold hdS
  refine xE_SP_X2_isHeard h (fun z1_ h2_ => ⟨(fun h3_ hr_ hM_ => ?_), (fun h3_ z4_ e5_ => ⟨(fun h6_ hr_ hM_ => ?_), (fun h6_ => ⟨(fun h7_ r8_ hs12_ h11_ => ⟨(fun h13_ M14_ hM15_ z18_ e19_ M20_ hM21_ M24_ hM25_ _ M29_ _ hF33_ r28_ hs35_ => ⟨(fun h36_ hr_ hM_ => ?_), (fun h36_ hr_ hM_ => ?_)⟩), (fun h13_ z37_ e38_ => ⟨(fun h39_ hr_ hM_ => ?_), (fun h39_ hr_ hM_ => ?_)⟩)⟩), (fun h7_ hr_ hM_ => ?_)⟩)⟩)⟩)
  · have := eT hr_; rw [h2_] at h3_; omega
  · have := eT hr_; have y := eT e5_; rw [s7] at y; omega
  · have g := x1given hs12_
    rw [T.1] at g
    have y := eT e5_; rw [s7] at y
    rw [h2_] at h3_
    have k : ∀ (c : rf) (j : Nat), c.1 ≠ 29 → M24_.1 c j = M.1 c j := fun c j hc => by
      rw [zupR hM25_ hc, zupR hM21_ hc, zupR hM15_ hc]
    have er : r28_ = evR n 1 (heV n t s) := by
      refine x1work (nn := 3) hs35_ (by omega) hW (by rw [k _ _ (by first | decide | simp | (dsimp only; omega))]; exact T.1) (fun i hi => by rw [k _ _ (by first | decide | simp | (dsimp only; omega))]; exact T.2 i hi) (fun i hi => ?_) (show 0 < (n 395).toInt by omega)
      rw [sval3 hM15_ hM21_ hM25_ i hi, e19_, zupR hM15_ (by first | decide | simp | (dsimp only; omega)), s6]; rfl
    have := eT hr_
    rw [er] at h36_
    omega
  · have g := x1given hs12_
    rw [T.1] at g
    have y := eT e5_; rw [s7] at y
    rw [h2_] at h3_
    have k : ∀ (c : rf) (j : Nat), c.1 ≠ 29 → M24_.1 c j = M.1 c j := fun c j hc => by
      rw [zupR hM25_ hc, zupR hM21_ hc, zupR hM15_ hc]
    have er : r28_ = evR n 1 (heV n t s) := by
      refine x1work (nn := 3) hs35_ (by omega) hW (by rw [k _ _ (by first | decide | simp | (dsimp only; omega))]; exact T.1) (fun i hi => by rw [k _ _ (by first | decide | simp | (dsimp only; omega))]; exact T.2 i hi) (fun i hi => ?_) (show 0 < (n 395).toInt by omega)
      rw [sval3 hM15_ hM21_ hM25_ i hi, e19_, zupR hM15_ (by first | decide | simp | (dsimp only; omega)), s6]; rfl
    have := eT hr_
    rw [er] at h36_
    omega
  · have g := x1given hs12_
    rw [T.1] at g
    have y := eT e5_; rw [s7] at y
    have y2 := eT e38_; rw [s6] at y2
    rw [h2_] at h3_
    have := eT hr_
    omega
  · have g := x1given hs12_
    rw [T.1] at g
    have y := eT e5_; rw [s7] at y
    have y2 := eT e38_; rw [s6] at y2
    rw [h2_] at h3_
    have := eT hr_
    omega
  · have := eT hr_; omega
/-- whether a kind would be heard, by both -/
def heS (n : Nat → Int32) (ears : Int) (k : Nat) (p l s y : Int32) : Prop := hdS n ears p.toInt (Int32.ofInt (lateN s.toInt y.toInt)) (Int32.ofInt (strI n k p l y))
theorem x2hears {b : Nat} {v u t s q : Int32} {M M' : mM} {r : Int32} {n : Nat → Int32} (h : SP_X2_hears b v u t s q M r M') (hL : LWR b M.1 n) (hT : TXR b M.1 n) (hW : WT n) (hu : 0 ≤ u.toInt ∧ u.toInt ≤ 4) (hs : 0 ≤ s.toInt ∧ s.toInt ≤ 16) (hq : 0 ≤ q.toInt ∧ q.toInt ≤ 7) :
    (r.toInt = 1 ∧ heS n v.toInt u.toInt.toNat (t / (100 : Int32)) (t - t / (100 : Int32) * (100 : Int32)) q s) ∨ (r.toInt = 0 ∧ ¬ heS n v.toInt u.toInt.toNat (t / (100 : Int32)) (t - t / (100 : Int32) * (100 : Int32)) q s) := by
  unfold heS
  refine xE_SP_X2_hears h (fun r1_ hs5_ M7_ _ hF11_ r6_ hs13_ M15_ _ hF19_ r14_ hs21_ h17_ hr_ hM_ => ?_)
  have a := x2late hs5_ hq hs
  have c := x2strength hs13_ hL hT hW hu
  have k : ∀ (d : rf) (j : Nat), d.1 ≠ 29 → d.1 ≠ 25 → M7_.1 d j = M.1 d j := fun d j h1 h2 => hF11_ d j (fun q => by simp only [S_c_X2_strength, or_false] at q; omega)
  have g := x2isHeard (n := n) hs21_ ⟨by rw [k _ _ (by first | decide | simp | (dsimp only; omega)) (by first | decide | simp | (dsimp only; omega))]; exact hL.1, fun j hj => by rw [k _ _ (by simp) (by simp)]; exact hL.2.1 j hj, fun j hj => by rw [k _ _ (by simp) (by simp), k _ _ (by simp) (by simp)]; exact hL.2.2 j hj⟩ (fun w hw => ⟨by rw [k _ _ (by simp) (by simp)]; exact (hT w hw).1, fun i hi => by rw [k _ _ (by simp) (by simp)]; exact (hT w hw).2 i hi⟩) hW
  rw [← ofIe a, ← ofIe c, hr_]
  exact g
theorem x12isHeard {q v u t s p : Int32} {M M' : mM} {r : Int32} (h : SP_X12_isHeard q v u t s p M r M') (hD : InvD M) (hx : ∀ w, w < 3 → ∀ i : Nat, (i : Int) < (M.1 (50, 0, 0) (345 + 50 * w)).toInt → cOK (nnU w) (M.1 (50, 0, 0) (346 + 50 * w + i))) (hv : 0 ≤ v.toInt ∧ v.toInt ≤ 4) (hs : 0 ≤ s.toInt ∧ s.toInt ≤ 7) (hp : 0 ≤ p.toInt ∧ p.toInt ≤ 16) :
    (r.toInt = 1 ∧ heS (M.1 (50, 0, 0)) q.toInt v.toInt.toNat u t s p) ∨ (r.toInt = 0 ∧ ¬ heS (M.1 (50, 0, 0)) q.toInt v.toInt.toNat u t s p) := by
  have q0 := il_0
  have q1 := il_1
  unfold heS
  unfold SP_X12_isHeard at h
  obtain ⟨r1_, hs5_, M7_, hI10_, hF11_, r6_, hs13_, h⟩ := h
  have a := x12late hs5_ hs hp
  have x0 := hx 0 (by omega)
  simp only [Nat.mul_zero, Nat.add_zero] at x0
  have c := x12strength hs13_ hD x0 hv
  rw [← ofIe a, ← ofIe c]
  have k7 : M7_.1 (50, 0, 0) = M.1 (50, 0, 0) := funext fun j => hF11_ _ _ (by simp [S_c_X12_strength])
  unfold hdS
  rcases h with ⟨h14_, hr_, -⟩ | ⟨h14_, z15_, e16_, h⟩
  · have := eT hr_; omega
  · rw [k7] at e16_
    have y7 := eT e16_
    rcases h with ⟨h17_, hr_, -⟩ | ⟨h17_, h⟩
    · have := eT hr_; omega
    · rcases h with ⟨h18_, M19_, hM20_, z23_, e24_, M25_, hM26_, M29_, hM30_, hI31_, r33_, hs37_, h36_, h⟩ | ⟨h18_, hr_, -⟩
      · have k29 : ∀ (d : rf) (j : Nat), d.1 ≠ 58 → M29_.1 d j = M7_.1 d j := fun d j hc => by
          rw [zupR hM30_ hc, zupR hM26_ hc, zupR hM20_ hc]
        have k50 : M29_.1 (50, 0, 0) = M.1 (50, 0, 0) := (funext fun j => k29 _ _ (by first | decide | simp | (dsimp only; omega))).trans k7
        have g := x12has (u := 1) hs37_ (by first | decide | simp | (dsimp only; omega))
        rw [k50] at g
        simp only [Nat.mul_one, Nat.reduceAdd] at g
        rcases h with ⟨h38_, z39_, e40_, h⟩ | ⟨h38_, M43_, hI46_, hF47_, r42_, hs49_, h⟩
        · rw [k50] at e40_
          have y6 := eT e40_
          rcases h with ⟨h41_, hr_, -⟩ | ⟨h41_, hr_, -⟩
          · have := eT hr_; omega
          · have := eT hr_; omega
        · have er : r42_ = evR (M.1 (50, 0, 0)) 1 (heV (M.1 (50, 0, 0)) r1_ r6_) := by
            rw [← k50]
            refine x12given (nn := 3) hs49_ hI31_ ⟨by decide, by omega⟩ (fun i hi => ?_) (fun i hi => ?_) (by rw [k50]; simp only [Nat.mul_one, Nat.reduceAdd]; omega)
            · rw [k50] at hi ⊢
              exact hx 1 (by omega) i hi
            · rw [sval3 hM20_ hM26_ hM30_ i hi, e24_, zupR hM20_ (by first | decide | simp | (dsimp only; omega)), k7, k50]
              unfold heV
              rfl
          rcases h with ⟨h50_, hr_, -⟩ | ⟨h50_, hr_, -⟩
          · have := eT hr_; rw [er] at h50_; omega
          · have := eT hr_; rw [er] at h50_; omega
      · have := eT hr_; omega
end
