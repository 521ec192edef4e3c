/-! late, heard -/
def lateN (s y : Int) : Int := if s % 2 = 1 then 8 * y else 6 * y
theorem emod_bits (a : Int32) (k : Nat) (hk : k ≤ 30) : ((a.toBitVec.toNat % 2 ^ k : Nat) : Int) = a.toInt % ((2 ^ k : Nat) : Int) := by
  have h : a.toInt = a.toBitVec.toInt := rfl
  have hd : (2 ^ k : Nat) ∣ 2 ^ 32 := Nat.pow_dvd_pow 2 (by omega)
  obtain ⟨d, hd⟩ := hd
  rw [h, BitVec.toInt_eq_toNat_cond]
  split
  · exact Int.natCast_emod _ _
  · rw [hd]
    rw [Int.natCast_emod, Int.natCast_mul, Int.sub_mul_emod_self_left]
theorem and_mod (a : Int32) {m : Int32} (k : Nat) (hm : m.toBitVec.toNat = 2 ^ k - 1) (hk : k ≤ 30) : (a &&& m).toInt = a.toInt % ((2 ^ k : Nat) : Int) := by
  have h3 : 2 ^ k ≤ 2 ^ 30 := Nat.pow_le_pow_right (by first | decide | simp | (dsimp only; omega)) hk
  have h4 := Nat.mod_lt a.toBitVec.toNat (Nat.two_pow_pos k)
  rw [pk_and a k hm, nI_toInt (by omega), emod_bits a k hk]
theorem and1 {v : Int32} (h : 0 ≤ v.toInt ∧ v.toInt ≤ 7) : (v &&& (1 : Int32)).toInt = v.toInt % 2 := and_mod v 1 (by first | decide | simp | (dsimp only; omega)) (by omega)
theorem and3 (v : Int32) : (v &&& (3 : Int32)).toInt = v.toInt % 4 := and_mod v 2 (by first | decide | simp | (dsimp only; omega)) (by omega)
theorem and7 (v : Int32) : (v &&& (7 : Int32)).toInt = v.toInt % 8 := and_mod v 3 (by first | decide | simp | (dsimp only; omega)) (by omega)
theorem x2late {v u : Int32} {M : mM} {r : Int32} (h : SP_X2_late v u M r) (hv : 0 ≤ v.toInt ∧ v.toInt ≤ 7) (hu : 0 ≤ u.toInt ∧ u.toInt ≤ 16) : r.toInt = lateN v.toInt u.toInt := by
  have i6 : (6 : Int32).toInt = 6 := by decide
  have i8 : (8 : Int32).toInt = 8 := by decide
  unfold lateN
  have a := and1 hv
  unfold SP_X2_late at h
  rcases h with ⟨z1_, h3_, h2_, (⟨h4_, z5_, h6_, hr_⟩ | ⟨h4_, z7_, h8_, hr_⟩)⟩
  · rw [← h3_] at a
    rw [hr_, h6_, mulI rfl i6 (by omega) (by omega), if_neg (by omega)]; omega
  · rw [← h3_] at a
    rw [hr_, h8_, mulI rfl i8 (by omega) (by omega), if_pos (by omega)]; omega
theorem x12late {v u : Int32} {M : mM} {r : Int32} (h : SP_X12_late v u M r) (hv : 0 ≤ v.toInt ∧ v.toInt ≤ 7) (hu : 0 ≤ u.toInt ∧ u.toInt ≤ 16) : r.toInt = lateN v.toInt u.toInt := by
  have i6 : (6 : Int32).toInt = 6 := by decide
  have i8 : (8 : Int32).toInt = 8 := by decide
  have i2 : (2 : Int32).toInt = 2 := by decide
  unfold lateN
  have a := remI (x := v) (y := (2 : Int32)) rfl i2 hv.1 (by omega)
  unfold SP_X12_late at h
  rcases h with ⟨z1_, h2_, (⟨h3_, z4_, h5_, hr_⟩ | ⟨h3_, z6_, h7_, hr_⟩)⟩
  · rw [← h2_] at a
    rw [hr_, h5_, mulI i6 rfl (by omega) (by omega), if_neg (by omega)]
  · rw [← h2_] at a
    rw [hr_, h7_, mulI i8 rfl (by omega) (by omega), if_pos (by omega)]
def heV (n : Nat → Int32) (la st : Int32) : Nat → Int32 := fun i => if i = 0 then st else if i = 1 then n 6 else la
def hdS (n : Nat → Int32) (ears p : Int) (la st : Int32) : Prop := p ≤ ears ∧ (n 7).toInt < la.toInt ∧ ¬ st.toInt = 0 ∧ (((n 395).toInt ≤ 0 ∧ (n 6).toInt < st.toInt) ∨ (0 < (n 395).toInt ∧ ¬ (evR n 1 (heV n la st)).toInt = 0))
theorem sval3 {M M1 M2 M3 : mM} {c : rf} {a0 a1 a2 : Int32} (h1 : M1 = up M c 0 a0) (h2 : M2 = up M1 c 1 a1) (h3 : M3 = up M2 c 2 a2) : ∀ i, i < 3 → M3.1 c i = if i = 0 then a0 else if i = 1 then a1 else a2 := fun i hi => by
  obtain rfl | rfl | rfl : i = 0 ∨ i = 1 ∨ i = 2 := by omega
  · rw [zupN h3 (by simp), zupN h2 (by simp), zupE h1 rfl rfl]; rfl
  · rw [zupN h3 (by simp), zupE h2 rfl rfl]; rfl
  · rw [zupE h3 rfl rfl]; rfl
theorem x2isHeard {b : Nat} {v u t s : Int32} {M M' : mM} {r : Int32} {n : Nat → Int32} (h : SP_X2_isHeard b v u t s M r M') (hL : LWR b M.1 n) (hT : TXR b M.1 n) (hW : WT n) : (r.toInt = 1 ∧ hdS n v.toInt (u / (100 : Int32)).toInt t s) ∨ (r.toInt = 0 ∧ ¬ hdS n v.toInt (u / (100 : Int32)).toInt t s) := by
  have q0 := il_0
  have q1 := il_1
  obtain ⟨-, l2, l3⟩ := hL
  have T := hT 1 (by omega)
  simp only [Nat.mul_one, Nat.reduceAdd] at T
  have s6 : M.1 (2, b, 0) 0 = n 6 := l2 0 (by omega)
  have s7 : M.1 (2, b, 0) 1 = n 7 := l2 1 (by omega)
  unfold hdS
  unfold SP_X2_isHeard at h
  rcases h with ⟨z1_, h2_, (⟨h3_, hr_, hM_⟩ | ⟨h3_, z4_, e5_, (⟨h6_, hr_, hM_⟩ | ⟨h6_, (⟨h7_, r8_, hs12_, h11_, (⟨h13_, M14_, hM15_, z18_, e19_, M20_, hM21_, M24_, hM25_, -, M29_, -, hF33_, r28_, hs35_, (⟨h36_, hr_, hM_⟩ | ⟨h36_, hr_, hM_⟩)⟩ | ⟨h13_, z37_, e38_, (⟨h39_, hr_, hM_⟩ | ⟨h39_, hr_, hM_⟩)⟩)⟩ | ⟨h7_, hr_, hM_⟩)⟩)⟩)⟩
  · have := eT hr_; rw [h2_] at h3_; omega
  · have := eT hr_; have y := eT e5_; rw [s7] at y; omega
  · have g := x1given hs12_
    rw [T.1] at g
    have y := eT e5_; rw [s7] at y
    rw [h2_] at h3_
    have k : ∀ (c : rf) (j : Nat), c.1 ≠ 29 → M24_.1 c j = M.1 c j := fun c j hc => by
      rw [zupR hM25_ hc, zupR hM21_ hc, zupR hM15_ hc]
    have er : r28_ = evR n 1 (heV n t s) := by
      refine x1work (nn := 3) hs35_ (by omega) hW (by rw [k _ _ (by first | decide | simp | (dsimp only; omega))]; exact T.1) (fun i hi => by rw [k _ _ (by first | decide | simp | (dsimp only; omega))]; exact T.2 i hi) (fun i hi => ?_) (show 0 < (n 395).toInt by omega)
      rw [sval3 hM15_ hM21_ hM25_ i hi, e19_, zupR hM15_ (by first | decide | simp | (dsimp only; omega)), s6]; rfl
    have := eT hr_
    rw [er] at h36_
    omega
  · have g := x1given hs12_
    rw [T.1] at g
    have y := eT e5_; rw [s7] at y
    rw [h2_] at h3_
    have k : ∀ (c : rf) (j : Nat), c.1 ≠ 29 → M24_.1 c j = M.1 c j := fun c j hc => by
      rw [zupR hM25_ hc, zupR hM21_ hc, zupR hM15_ hc]
    have er : r28_ = evR n 1 (heV n t s) := by
      refine x1work (nn := 3) hs35_ (by omega) hW (by rw [k _ _ (by first | decide | simp | (dsimp only; omega))]; exact T.1) (fun i hi => by rw [k _ _ (by first | decide | simp | (dsimp only; omega))]; exact T.2 i hi) (fun i hi => ?_) (show 0 < (n 395).toInt by omega)
      rw [sval3 hM15_ hM21_ hM25_ i hi, e19_, zupR hM15_ (by first | decide | simp | (dsimp only; omega)), s6]; rfl
    have := eT hr_
    rw [er] at h36_
    omega
  · have g := x1given hs12_
    rw [T.1] at g
    have y := eT e5_; rw [s7] at y
    have y2 := eT e38_; rw [s6] at y2
    rw [h2_] at h3_
    have := eT hr_
    omega
  · have g := x1given hs12_
    rw [T.1] at g
    have y := eT e5_; rw [s7] at y
    have y2 := eT e38_; rw [s6] at y2
    rw [h2_] at h3_
    have := eT hr_
    omega
  · have := eT hr_; omega
/-- whether a kind would be heard, by both -/
def heS (n : Nat → Int32) (ears : Int) (k : Nat) (p l s y : Int32) : Prop := hdS n ears p.toInt (Int32.ofInt (lateN s.toInt y.toInt)) (Int32.ofInt (strI n k p l y))
theorem x2hears {b : Nat} {v u t s q : Int32} {M M' : mM} {r : Int32} {n : Nat → Int32} (h : SP_X2_hears b v u t s q M r M') (hL : LWR b M.1 n) (hT : TXR b M.1 n) (hW : WT n) (hu : 0 ≤ u.toInt ∧ u.toInt ≤ 4) (hs : 0 ≤ s.toInt ∧ s.toInt ≤ 16) (hq : 0 ≤ q.toInt ∧ q.toInt ≤ 7) :
    (r.toInt = 1 ∧ heS n v.toInt u.toInt.toNat (t / (100 : Int32)) (t - t / (100 : Int32) * (100 : Int32)) q s) ∨ (r.toInt = 0 ∧ ¬ heS n v.toInt u.toInt.toNat (t / (100 : Int32)) (t - t / (100 : Int32) * (100 : Int32)) q s) := by
  unfold heS
  unfold SP_X2_hears at h
  rcases h with ⟨r1_, hs5_, M7_, -, hF11_, r6_, hs13_, M15_, -, hF19_, r14_, hs21_, h17_, hr_, hM_⟩
  have a := x2late hs5_ hq hs
  have c := x2strength hs13_ hL hT hW hu
  have k : ∀ (d : rf) (j : Nat), d.1 ≠ 29 → d.1 ≠ 25 → M7_.1 d j = M.1 d j := fun d j h1 h2 => hF11_ d j (fun q => by simp only [S_c_X2_strength, or_false] at q; omega)
  have g := x2isHeard (n := n) hs21_ ⟨by rw [k _ _ (by first | decide | simp | (dsimp only; omega)) (by first | decide | simp | (dsimp only; omega))]; exact hL.1, fun j hj => by rw [k _ _ (by simp) (by simp)]; exact hL.2.1 j hj, fun j hj => by rw [k _ _ (by simp) (by simp), k _ _ (by simp) (by simp)]; exact hL.2.2 j hj⟩ (fun w hw => ⟨by rw [k _ _ (by simp) (by simp)]; exact (hT w hw).1, fun i hi => by rw [k _ _ (by simp) (by simp)]; exact (hT w hw).2 i hi⟩) hW
  rw [← ofIe a, ← ofIe c, hr_]
  exact g
theorem x12isHeard {q v u t s p : Int32} {M M' : mM} {r : Int32} (h : SP_X12_isHeard q v u t s p M r M') (hD : InvD M) (hx : ∀ w, w < 3 → ∀ i : Nat, (i : Int) < (M.1 (50, 0, 0) (345 + 50 * w)).toInt → cOK (nnU w) (M.1 (50, 0, 0) (346 + 50 * w + i))) (hv : 0 ≤ v.toInt ∧ v.toInt ≤ 4) (hs : 0 ≤ s.toInt ∧ s.toInt ≤ 7) (hp : 0 ≤ p.toInt ∧ p.toInt ≤ 16) :
    (r.toInt = 1 ∧ heS (M.1 (50, 0, 0)) q.toInt v.toInt.toNat u t s p) ∨ (r.toInt = 0 ∧ ¬ heS (M.1 (50, 0, 0)) q.toInt v.toInt.toNat u t s p) := by
  have q0 := il_0
  have q1 := il_1
  unfold heS
  unfold SP_X12_isHeard at h
  obtain ⟨r1_, hs5_, M7_, hI10_, hF11_, r6_, hs13_, h⟩ := h
  have a := x12late hs5_ hs hp
  have x0 := hx 0 (by omega)
  simp only [Nat.mul_zero, Nat.add_zero] at x0
  have c := x12strength hs13_ hD x0 hv
  rw [← ofIe a, ← ofIe c]
  have k7 : M7_.1 (50, 0, 0) = M.1 (50, 0, 0) := funext fun j => hF11_ _ _ (by simp [S_c_X12_strength])
  unfold hdS
  rcases h with ⟨h14_, hr_, -⟩ | ⟨h14_, z15_, e16_, h⟩
  · have := eT hr_; omega
  · rw [k7] at e16_
    have y7 := eT e16_
    rcases h with ⟨h17_, hr_, -⟩ | ⟨h17_, h⟩
    · have := eT hr_; omega
    · rcases h with ⟨h18_, M19_, hM20_, z23_, e24_, M25_, hM26_, M29_, hM30_, hI31_, r33_, hs37_, h36_, h⟩ | ⟨h18_, hr_, -⟩
      · have k29 : ∀ (d : rf) (j : Nat), d.1 ≠ 58 → M29_.1 d j = M7_.1 d j := fun d j hc => by
          rw [zupR hM30_ hc, zupR hM26_ hc, zupR hM20_ hc]
        have k50 : M29_.1 (50, 0, 0) = M.1 (50, 0, 0) := (funext fun j => k29 _ _ (by first | decide | simp | (dsimp only; omega))).trans k7
        have g := x12has (u := 1) hs37_ (by first | decide | simp | (dsimp only; omega))
        rw [k50] at g
        simp only [Nat.mul_one, Nat.reduceAdd] at g
        rcases h with ⟨h38_, z39_, e40_, h⟩ | ⟨h38_, M43_, hI46_, hF47_, r42_, hs49_, h⟩
        · rw [k50] at e40_
          have y6 := eT e40_
          rcases h with ⟨h41_, hr_, -⟩ | ⟨h41_, hr_, -⟩
          · have := eT hr_; omega
          · have := eT hr_; omega
        · have er : r42_ = evR (M.1 (50, 0, 0)) 1 (heV (M.1 (50, 0, 0)) r1_ r6_) := by
            rw [← k50]
            refine x12given (nn := 3) hs49_ hI31_ ⟨by decide, by omega⟩ (fun i hi => ?_) (fun i hi => ?_) (by rw [k50]; simp only [Nat.mul_one, Nat.reduceAdd]; omega)
            · rw [k50] at hi ⊢
              exact hx 1 (by omega) i hi
            · rw [sval3 hM20_ hM26_ hM30_ i hi, e24_, zupR hM20_ (by first | decide | simp | (dsimp only; omega)), k7, k50]
              unfold heV
              rfl
          rcases h with ⟨h50_, hr_, -⟩ | ⟨h50_, hr_, -⟩
          · have := eT hr_; rw [er] at h50_; omega
          · have := eT hr_; rw [er] at h50_; omega
      · have := eT hr_; omega
