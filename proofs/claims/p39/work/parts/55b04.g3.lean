/-! class and model row: who is alike -/
def nnU (u : Nat) : Nat := if u = 0 then 4 else if u = 1 then 3 else 5
def LWR (b : Nat) (q : rf → Nat → Int32) (n : Nat → Int32) : Prop := q (10, b, 0) 7 = n 0 ∧ (∀ k, k < 3 → q (2, b, 0) k = n (6 + k)) ∧ (∀ k, k < 5 → q (26, b, 0) k = n (9 + k) ∧ q (27, b, 0) k = n (14 + k))
def THR (b : Nat) (q : rf → Nat → Int32) (n : Nat → Int32) : Prop := q (7, b, 0) 5 = n 1 ∧ ∀ t : Nat, (t : Int) < nTh n → q (36, b, 0) t = n (20 + 4 * t) ∧ q (37, b, 0) t = n (21 + 4 * t) ∧ q (38, b, 0) t = n (22 + 4 * t) ∧ q (39, b, 0) t = n (23 + 4 * t)
def WAR (b : Nat) (q : rf → Nat → Int32) (n : Nat → Int32) : Prop := q (10, b, 0) 6 = n 2 ∧ ∀ w : Nat, (w : Int) < nWa n → (∀ k, k < 9 → q (9, b, w) k = n (180 + 9 * w + k)) ∧ (∀ c, c < 192 → q (40, b, w) c = n (495 + 384 * w + c) ∧ q (41, b, w) c = n (687 + 384 * w + c))
def TXR (b : Nat) (q : rf → Nat → Int32) (n : Nat → Int32) : Prop := ∀ u, u < 3 → q (1, b, u) 2 = n (345 + 50 * u) ∧ ∀ i : Nat, (i : Int) < (n (345 + 50 * u)).toInt → (q (24, b, u) i).toInt = cmI (n (346 + 50 * u + i)).toInt ∧ cOK (nnU u) (n (346 + 50 * u + i))
/-- of the model's row alone -/
def MIR (n : Nat → Int32) : Prop := (∀ w : Nat, (w : Int) < nWa n → (1 ≤ (n (183 + 9 * w)).toInt ∧ (n (183 + 9 * w)).toInt ≤ 9) ∧ (1 ≤ (n (184 + 9 * w)).toInt ∧ (n (184 + 9 * w)).toInt ≤ 99)) ∧
  (∀ t : Nat, (t : Int) < nTh n → 0 ≤ (n (23 + 4 * t)).toInt ∧ ((n (20 + 4 * t)).toInt < 3 → (n (23 + 4 * t)).toInt = 0)) ∧
  (∀ w : Nat, nWa n ≤ (w : Int) → w < 8 → (∀ k, k < 9 → n (180 + 9 * w + k) = 0) ∧ (∀ c, c < 384 → n (495 + 384 * w + c) = 0))
/-! strength, heard -/
theorem ofIe {x : Int32} {z : Int} (h : x.toInt = z) : x = Int32.ofInt z := by rw [← h, Int32.ofInt_toInt]
def clS (t s : Int32) : Int := if s.toInt = 1 then (if t.toInt < 0 then 0 else if 999 < t.toInt then 999 else t.toInt) / 2 else (if t.toInt < 0 then 0 else if 999 < t.toInt then 999 else t.toInt)
def raV (n : Nat → Int32) (k : Nat) (p l y : Int32) : Nat → Int32 := fun i => if i = 0 then l else if i = 1 then n (9 + k) else if i = 2 then y else p
def raS (n : Nat → Int32) (k : Nat) (p l y : Int32) : Int32 := if (n 345).toInt ≤ 0 then l * n (9 + k) / (50 : Int32) - (2 : Int32) * y else evR n 0 (raV n k p l y)
def strI (n : Nat → Int32) (k : Nat) (p l y : Int32) : Int := if p.toInt < (n (14 + k)).toInt then 0 else clS (raS n k p l y) (n 8)
theorem cl1 {t z z2 s : Int32} (h1 : (z.toInt = 999 ∧ 999 ≤ t.toInt) ∨ (z.toInt = t.toInt ∧ t.toInt ≤ 999)) (h2 : (z2.toInt = 0 ∧ z.toInt ≤ 0) ∨ (z2.toInt = z.toInt ∧ 0 ≤ z.toInt)) (h3 : ¬ s.toInt = 1) : z2.toInt = clS t s := by
  unfold clS
  rw [if_neg h3]
  repeat' split
  all_goals omega
theorem cl2 {t z z2 z3 s : Int32} (h1 : (z.toInt = 999 ∧ 999 ≤ t.toInt) ∨ (z.toInt = t.toInt ∧ t.toInt ≤ 999)) (h2 : (z2.toInt = 0 ∧ z.toInt ≤ 0) ∨ (z2.toInt = z.toInt ∧ 0 ≤ z.toInt)) (h3 : s.toInt = 1) (h4 : z3.toInt = z2.toInt / 2) : z3.toInt = clS t s := by
  unfold clS
  rw [if_pos h3, h4]
  repeat' split
  all_goals omega
theorem x1given {b w : Nat} {M : mM} {r : Int32} (h : SP_X1_isGiven b w M r) : (r.toInt = 0 ∧ (M.1 (1, b, w) 2).toInt ≤ 0) ∨ (r.toInt = 1 ∧ 0 < (M.1 (1, b, w) 2).toInt) := by
  have q0 := il_0
  have q1 := il_1
  unfold SP_X1_isGiven at h
  rcases h with ⟨z1_, e2_, (⟨h3_, hr_⟩ | ⟨h3_, hr_⟩)⟩
  all_goals (have y1 := eT e2_; have y2 := eT hr_; omega)
theorem x12has {u : Nat} {v : Int32} {M : mM} {r : Int32} (h : SP_X12_hasText v M r) (hv : v.toInt = u) : (r.toInt = 0 ∧ (M.1 (50, 0, 0) (345 + 50 * u)).toInt ≤ 0) ∨ (r.toInt = 1 ∧ 0 < (M.1 (50, 0, 0) (345 + 50 * u)).toInt) := by
  have q0 := il_0
  have q1 := il_1
  unfold SP_X12_hasText at h
  rcases h with ⟨z1_, h2_, z3_, h4_, j7_, h8_, z5_, e6_, (⟨h9_, hr_⟩ | ⟨h9_, hr_⟩)⟩
  all_goals
    obtain rfl : j7_ = 345 + 50 * u := by omega
    have y1 := eT e6_
    have y2 := eT hr_
    omega
theorem sval {M M1 M2 M3 M4 : mM} {c : rf} {a0 a1 a2 a3 : Int32} (h1 : M1 = up M c 0 a0) (h2 : M2 = up M1 c 1 a1) (h3 : M3 = up M2 c 2 a2) (h4 : M4 = up M3 c 3 a3) : ∀ i, i < 4 → M4.1 c i = if i = 0 then a0 else if i = 1 then a1 else if i = 2 then a2 else a3 := fun i hi => by
  obtain rfl | rfl | rfl | rfl : i = 0 ∨ i = 1 ∨ i = 2 ∨ i = 3 := by omega
  · rw [zupN h4 (by simp), zupN h3 (by simp), zupN h2 (by simp), zupE h1 rfl rfl]; rfl
  · rw [zupN h4 (by simp), zupN h3 (by simp), zupE h2 rfl rfl]; rfl
  · rw [zupN h4 (by simp), zupE h3 rfl rfl]; rfl
  · rw [zupE h4 rfl rfl]; rfl
theorem x2strength {b : Nat} {v u t : Int32} {M M' : mM} {r : Int32} {n : Nat → Int32} (h : SP_X2_strength b v u t M r M') (hL : LWR b M.1 n) (hT : TXR b M.1 n) (hW : WT n) (hv : 0 ≤ v.toInt ∧ v.toInt ≤ 4) : r.toInt = strI n v.toInt.toNat (u / 100) (u - u / (100 : Int32) * (100 : Int32)) t := by
  have q0 := il_0
  obtain ⟨-, l2, l3⟩ := hL
  have T := hT 0 (by omega)
  simp only [Nat.mul_zero, Nat.add_zero] at T
  have s8 := l2 2 (by omega)
  unfold strI
  unfold SP_X2_strength at h
  rcases h with ⟨z1_, h2_, z3_, h4_, (⟨h5_, hr_, hM_⟩ | ⟨h5_, (⟨h6_, hr_, hM_⟩ | ⟨h6_, j9_, h10_, z7_, e8_, (⟨h11_, j14_, h15_, z12_, e13_, z16_, h17_, z18_, h19_, z20_, h21_, z22_, h23_, r24_, hs28_, h27_, (⟨h29_, z30_, h31_, z32_, h33_, z34_, e35_, (⟨h36_, hr_, hM_⟩ | ⟨h36_, z37_, h38_, hr_, hM_⟩)⟩ | ⟨h29_, M39_, hM40_, j45_, h46_, z43_, e44_, M47_, hM48_, M51_, hM52_, M55_, hM56_, -, M60_, -, hF64_, r59_, hs66_, z67_, h68_, z69_, h70_, z71_, e72_, (⟨h73_, hr_, hM_⟩ | ⟨h73_, z74_, h75_, hr_, hM_⟩)⟩)⟩ | ⟨h11_, hr_, hM_⟩)⟩)⟩)⟩
  · omega
  · omega
  · obtain rfl : j9_ = v.toInt.toNat := by omega
    obtain rfl : j14_ = v.toInt.toNat := by omega
    have y0 := eT e8_
    rw [(l3 _ (by omega)).2] at y0
    have g := x1given hs28_
    rw [T.1] at g
    rw [h2_] at h11_
    rw [if_neg (by omega), hr_]
    have er : z22_ = raS n v.toInt.toNat (u / 100) (u - u / (100 : Int32) * (100 : Int32)) t := by
      unfold raS
      rw [if_pos (show (n 345).toInt ≤ 0 by omega), h23_, h21_, h19_, h17_, e13_, (l3 _ (by omega)).1, h4_]
    rw [← er]
    exact cl1 h31_ h33_ (by rw [← s8, ← e35_]; exact h36_)
  · obtain rfl : j9_ = v.toInt.toNat := by omega
    obtain rfl : j14_ = v.toInt.toNat := by omega
    have y0 := eT e8_
    rw [(l3 _ (by omega)).2] at y0
    have g := x1given hs28_
    rw [T.1] at g
    rw [h2_] at h11_
    rw [if_neg (by omega), hr_]
    have er : z22_ = raS n v.toInt.toNat (u / 100) (u - u / (100 : Int32) * (100 : Int32)) t := by
      unfold raS
      rw [if_pos (show (n 345).toInt ≤ 0 by omega), h23_, h21_, h19_, h17_, e13_, (l3 _ (by omega)).1, h4_]
    rw [← er]
    exact cl2 h31_ h33_ (by rw [← s8, ← e35_]; exact h36_) h38_
  · obtain rfl : j9_ = v.toInt.toNat := by omega
    obtain rfl : j14_ = v.toInt.toNat := by omega
    obtain rfl : j45_ = v.toInt.toNat := by omega
    have y0 := eT e8_
    rw [(l3 _ (by omega)).2] at y0
    have g := x1given hs28_
    rw [T.1] at g
    rw [h2_] at h11_
    have er : r59_ = raS n v.toInt.toNat (u / 100) (u - u / (100 : Int32) * (100 : Int32)) t := by
      unfold raS
      rw [if_neg (show ¬ (n 345).toInt ≤ 0 by omega)]
      have k : ∀ (c : rf) (j : Nat), c.1 ≠ 29 → M55_.1 c j = M.1 c j := fun c j hc => by
        rw [zupR hM56_ hc, zupR hM52_ hc, zupR hM48_ hc, zupR hM40_ hc]
      refine x1work (nn := 4) hs66_ (by omega) hW (by rw [k _ _ (by first | decide | simp | (dsimp only; omega))]; exact T.1) (fun i hi => by rw [k _ _ (by first | decide | simp | (dsimp only; omega))]; exact T.2 i hi) (fun i hi => ?_) (show 0 < (n 345).toInt by omega)
      rw [sval hM40_ hM48_ hM52_ hM56_ i hi, e44_, zupR hM40_ (by first | decide | simp | (dsimp only; omega)), (l3 _ (by omega)).1, h4_, h2_]; rfl
    rw [if_neg (by omega), hr_, ← er]
    have s9 : M60_.1 (2, b, 0) 2 = n 8 := by rw [S1_c hF64_ (by first | decide | simp | (dsimp only; omega)), zupR hM56_ (by first | decide | simp | (dsimp only; omega)), zupR hM52_ (by first | decide | simp | (dsimp only; omega)), zupR hM48_ (by first | decide | simp | (dsimp only; omega)), zupR hM40_ (by first | decide | simp | (dsimp only; omega))]; exact s8
    exact cl1 h68_ h70_ (by rw [← s9, ← e72_]; exact h73_)
  · obtain rfl : j9_ = v.toInt.toNat := by omega
    obtain rfl : j14_ = v.toInt.toNat := by omega
    obtain rfl : j45_ = v.toInt.toNat := by omega
    have y0 := eT e8_
    rw [(l3 _ (by omega)).2] at y0
    have g := x1given hs28_
    rw [T.1] at g
    rw [h2_] at h11_
    have er : r59_ = raS n v.toInt.toNat (u / 100) (u - u / (100 : Int32) * (100 : Int32)) t := by
      unfold raS
      rw [if_neg (show ¬ (n 345).toInt ≤ 0 by omega)]
      have k : ∀ (c : rf) (j : Nat), c.1 ≠ 29 → M55_.1 c j = M.1 c j := fun c j hc => by
        rw [zupR hM56_ hc, zupR hM52_ hc, zupR hM48_ hc, zupR hM40_ hc]
      refine x1work (nn := 4) hs66_ (by omega) hW (by rw [k _ _ (by first | decide | simp | (dsimp only; omega))]; exact T.1) (fun i hi => by rw [k _ _ (by first | decide | simp | (dsimp only; omega))]; exact T.2 i hi) (fun i hi => ?_) (show 0 < (n 345).toInt by omega)
      rw [sval hM40_ hM48_ hM52_ hM56_ i hi, e44_, zupR hM40_ (by first | decide | simp | (dsimp only; omega)), (l3 _ (by omega)).1, h4_, h2_]; rfl
    rw [if_neg (by omega), hr_, ← er]
    have s9 : M60_.1 (2, b, 0) 2 = n 8 := by rw [S1_c hF64_ (by first | decide | simp | (dsimp only; omega)), zupR hM56_ (by first | decide | simp | (dsimp only; omega)), zupR hM52_ (by first | decide | simp | (dsimp only; omega)), zupR hM48_ (by first | decide | simp | (dsimp only; omega)), zupR hM40_ (by first | decide | simp | (dsimp only; omega))]; exact s8
    exact cl2 h68_ h70_ (by rw [← s9, ← e72_]; exact h73_) h75_
  · obtain rfl : j9_ = v.toInt.toNat := by omega
    have y0 := eT e8_
    rw [(l3 _ (by omega)).2] at y0
    rw [h2_] at h11_
    rw [if_pos (by omega), hr_]; exact il_0
theorem x12strength {v u t s : Int32} {M M' : mM} {r : Int32} (h : SP_X12_strength v u t s M r M') (hD : InvD M) (hx : ∀ i : Nat, (i : Int) < (M.1 (50, 0, 0) 345).toInt → cOK 4 (M.1 (50, 0, 0) (346 + i))) (hv : 0 ≤ v.toInt ∧ v.toInt ≤ 4) : r.toInt = strI (M.1 (50, 0, 0)) v.toInt.toNat u t s := by
  have q0 := il_0
  unfold strI
  unfold SP_X12_strength at h
  obtain ⟨z1_, h2_, j5_, h6_, z3_, e4_, M7_, hM8_, M11_, hM12_, M15_, hM16_, M19_, hM20_, hI21_, r23_, hs27_, h26_, h⟩ := h
  obtain rfl : j5_ = 9 + v.toInt.toNat := by omega
  have k : ∀ (c : rf) (j : Nat), c.1 ≠ 58 → M19_.1 c j = M.1 c j := fun c j hc => by
    rw [zupR hM20_ hc, zupR hM16_ hc, zupR hM12_ hc, zupR hM8_ hc]
  have k50 : M19_.1 (50, 0, 0) = M.1 (50, 0, 0) := funext fun j => k _ _ (by first | decide | simp | (dsimp only; omega))
  have g := x12has (u := 0) hs27_ (by first | decide | simp | (dsimp only; omega))
  rw [k50] at g
  simp only [Nat.mul_zero, Nat.add_zero] at g
  rcases h with ⟨h28_, z29_, h30_, z31_, h32_, z33_, h34_, z35_, h36_, z37_, h38_, z39_, h40_, z41_, e42_, h⟩ | ⟨h28_, M61_, -, hF65_, r60_, hs67_, z68_, h69_, z70_, h71_, z72_, e73_, h⟩
  · have er : z35_ = raS (M.1 (50, 0, 0)) v.toInt.toNat u t s := by
      unfold raS
      rw [if_pos (by omega), h36_, h34_, h32_, h30_, e4_]
    have s9 : z41_ = M.1 (50, 0, 0) 8 := by rw [e42_, k50]
    rcases h with ⟨h43_, z44_, h45_, j48_, h49_, z46_, e47_, h⟩ | ⟨h43_, z51_, h52_, z53_, h54_, j57_, h58_, z55_, e56_, h⟩
    · obtain rfl : j48_ = 14 + v.toInt.toNat := by omega
      rw [k50] at e47_
      have y := eT e47_
      rcases h with ⟨h50_, hr_, hM_⟩ | ⟨h50_, hr_, hM_⟩
      · rw [if_neg (by omega), hr_, ← er]
        exact cl1 h38_ h40_ (by rw [← s9]; exact h43_)
      · rw [if_pos (by omega), hr_]; exact il_0
    · obtain rfl : j57_ = 14 + v.toInt.toNat := by omega
      rw [k50] at e56_
      have y := eT e56_
      rcases h with ⟨h50_, hr_, hM_⟩ | ⟨h50_, hr_, hM_⟩
      · rw [if_neg (by omega), hr_, ← er]
        exact cl2 h38_ h40_ (by rw [← s9]; exact h43_) h52_
      · rw [if_pos (by omega), hr_]; exact il_0
  · have er : r60_ = raS (M.1 (50, 0, 0)) v.toInt.toNat u t s := by
      unfold raS
      rw [if_neg (by omega), ← k50]
      refine x12given (nn := 4) hs67_ hI21_ ⟨by decide, by omega⟩ (fun i hi => ?_) (fun i hi => ?_) (by rw [k50]; simp only [Nat.mul_zero, Nat.add_zero]; omega)
      · rw [k50] at hi ⊢
        simp only [Nat.mul_zero, Nat.add_zero] at hi ⊢
        exact hx i hi
      · rw [sval hM8_ hM12_ hM16_ hM20_ i hi, e4_]
        unfold raV
        rw [k50]
    have g50 : M61_.1 (50, 0, 0) = M.1 (50, 0, 0) := (funext fun j => hF65_ _ _ (by simp [S_c_X12_given])).trans k50
    rw [g50] at e73_
    rcases h with ⟨h43_, z44_, h45_, j48_, h49_, z46_, e47_, h⟩ | ⟨h43_, z51_, h52_, z53_, h54_, j57_, h58_, z55_, e56_, h⟩
    · obtain rfl : j48_ = 14 + v.toInt.toNat := by omega
      rw [g50] at e47_
      have y := eT e47_
      rcases h with ⟨h50_, hr_, hM_⟩ | ⟨h50_, hr_, hM_⟩
      · rw [if_neg (by omega), hr_, ← er]
        exact cl1 h69_ h71_ (by rw [← e73_]; exact h43_)
      · rw [if_pos (by omega), hr_]; exact il_0
    · obtain rfl : j57_ = 14 + v.toInt.toNat := by omega
      rw [g50] at e56_
      have y := eT e56_
      rcases h with ⟨h50_, hr_, hM_⟩ | ⟨h50_, hr_, hM_⟩
      · rw [if_neg (by omega), hr_, ← er]
        exact cl2 h69_ h71_ (by rw [← e73_]; exact h43_) h52_
      · rw [if_pos (by omega), hr_]; exact il_0
