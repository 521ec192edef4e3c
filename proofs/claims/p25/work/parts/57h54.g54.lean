/-! Long.bitCount -/
def pcB (f : Nat → Bool) : Nat → Nat
  | 0 => 0
  | k + 1 => pcB f k + (f k).toNat
theorem pcB_add (f : Nat → Bool) (a : Nat) : ∀ b, pcB f (a + b) = pcB f a + pcB (fun i => f (a + i)) b
  | 0 => rfl
  | b + 1 => by
    have ih := pcB_add f a b
    show pcB f (a + b) + (f (a + b)).toNat = pcB f a + (pcB (fun i => f (a + i)) b + (f (a + b)).toNat)
    omega
theorem pcB_cong {f g : Nat → Bool} : ∀ k, (∀ i, i < k → f i = g i) → pcB f k = pcB g k
  | 0, _ => rfl
  | k + 1, h => by
    show pcB f k + (f k).toNat = pcB g k + (g k).toNat
    rw [pcB_cong k (fun i hi => h i (by omega)), h k (by omega)]
theorem pcB_le (f : Nat → Bool) : ∀ k, pcB f k ≤ k
  | 0 => Nat.le_refl 0
  | k + 1 => by
    have ih := pcB_le f k
    have b := Bool.toNat_le (f k)
    show pcB f k + (f k).toNat ≤ k + 1
    omega
/-- digits of base 256 -/
def V8 (d : Nat → Nat) : Nat → Nat
  | 0 => 0
  | k + 1 => d 0 + 256 * V8 (fun i => d (i + 1)) k
theorem V8_cong : ∀ (k : Nat) (d e : Nat → Nat), (∀ i, i < k → d i = e i) → V8 d k = V8 e k
  | 0, _, _, _ => rfl
  | k + 1, d, e, h => by
    show d 0 + 256 * V8 (fun i => d (i + 1)) k = e 0 + 256 * V8 (fun i => e (i + 1)) k
    rw [h 0 (by omega), V8_cong k (fun i => d (i + 1)) (fun i => e (i + 1)) (fun i hi => h (i + 1) (by omega))]
theorem and_cb {a m : Nat} (A B : Nat) (ha : a < 256) (hm : m < 256) : (a + 256 * A) &&& (m + 256 * B) = (a &&& m) + 256 * (A &&& B) := by
  have e1 : ((a + 256 * A) &&& (m + 256 * B)) % 2 ^ 8 = a &&& m := by
    rw [Nat.and_mod_two_pow, show (a + 256 * A) % 2 ^ 8 = a by omega, show (m + 256 * B) % 2 ^ 8 = m by omega]
  have e2 : ((a + 256 * A) &&& (m + 256 * B)) / 2 ^ 8 = A &&& B := by
    rw [Nat.and_div_two_pow, show (a + 256 * A) / 2 ^ 8 = A by omega, show (m + 256 * B) / 2 ^ 8 = B by omega]
  omega
theorem V8_and : ∀ (k : Nat) (d e : Nat → Nat), (∀ i, d i < 256) → (∀ i, e i < 256) → V8 d k &&& V8 e k = V8 (fun i => d i &&& e i) k
  | 0, _, _, _, _ => Nat.and_self 0
  | k + 1, d, e, hd, he => by
    show (d 0 + 256 * V8 (fun i => d (i + 1)) k) &&& (e 0 + 256 * V8 (fun i => e (i + 1)) k) = (d 0 &&& e 0) + 256 * V8 (fun i => d (i + 1) &&& e (i + 1)) k
    rw [and_cb _ _ (hd 0) (he 0), V8_and k _ _ (fun i => hd (i + 1)) (fun i => he (i + 1))]
theorem V8_add : ∀ (k : Nat) (d e : Nat → Nat), V8 d k + V8 e k = V8 (fun i => d i + e i) k
  | 0, _, _ => rfl
  | k + 1, d, e => by
    have ih := V8_add k (fun i => d (i + 1)) (fun i => e (i + 1))
    show (d 0 + 256 * V8 (fun i => d (i + 1)) k) + (e 0 + 256 * V8 (fun i => e (i + 1)) k) = (d 0 + e 0) + 256 * V8 (fun i => d (i + 1) + e (i + 1)) k
    (try dsimp only at ih)
    omega
theorem V8_sub : ∀ (k : Nat) (d e : Nat → Nat), (∀ i, e i ≤ d i) → V8 e k ≤ V8 d k ∧ V8 d k - V8 e k = V8 (fun i => d i - e i) k
  | 0, _, _, _ => ⟨Nat.le_refl 0, rfl⟩
  | k + 1, d, e, h => by
    have ih := V8_sub k (fun i => d (i + 1)) (fun i => e (i + 1)) (fun i => h (i + 1))
    have h0 := h 0
    show e 0 + 256 * V8 (fun i => e (i + 1)) k ≤ d 0 + 256 * V8 (fun i => d (i + 1)) k ∧ (d 0 + 256 * V8 (fun i => d (i + 1)) k) - (e 0 + 256 * V8 (fun i => e (i + 1)) k) = (d 0 - e 0) + 256 * V8 (fun i => d (i + 1) - e (i + 1)) k
    (try dsimp only at ih)
    omega
theorem V8_lt : ∀ (k : Nat) (d : Nat → Nat), (∀ i, d i < 256) → V8 d k < 256 ^ k
  | 0, _, _ => by show 0 < 256 ^ 0; decide
  | k + 1, d, h => by
    have ih := V8_lt k (fun i => d (i + 1)) (fun i => h (i + 1))
    have h0 := h 0
    show d 0 + 256 * V8 (fun i => d (i + 1)) k < 256 ^ (k + 1)
    rw [Nat.pow_succ]
    omega
theorem V8_0 : ∀ (k : Nat) (d : Nat → Nat), (∀ i, d i = 0) → V8 d k = 0
  | 0, _, _ => rfl
  | k + 1, d, h => by
    show d 0 + 256 * V8 (fun i => d (i + 1)) k = 0
    rw [h 0, V8_0 k _ (fun i => h (i + 1))]
theorem V8_hd : ∀ (k : Nat) (d : Nat → Nat), (∀ i, k ≤ i → d i = 0) → V8 d k = d 0 + 256 * V8 (fun i => d (i + 1)) k
  | 0, d, h => by
    have h0 := h 0 (Nat.le_refl 0)
    show 0 = d 0 + 256 * 0
    omega
  | k + 1, d, h => by
    have ih := V8_hd k (fun i => d (i + 1)) (fun i hi => h (i + 1) (by omega))
    exact congrArg (fun z => d 0 + 256 * z) ih
theorem V8_tl {k : Nat} {d : Nat → Nat} (h : ∀ i, k ≤ i → d i = 0) (hd : d 0 < 256) : V8 d k / 256 = V8 (fun i => d (i + 1)) k := by
  rw [V8_hd k d h]
  omega
theorem V8_sh2 : ∀ (k : Nat) (d : Nat → Nat), (∀ i, k ≤ i → d i = 0) → V8 d k / 2 = V8 (fun i => d i / 2 + 128 * (d (i + 1) % 2)) k
  | 0, _, _ => by show 0 / 2 = 0; decide
  | k + 1, d, h => by
    have ih : V8 (fun i => d (i + 1)) k / 2 = V8 (fun i => d (i + 1) / 2 + 128 * (d (i + 1 + 1) % 2)) k := V8_sh2 k (fun i => d (i + 1)) (fun i hi => h (i + 1) (by omega))
    have hh : V8 (fun i => d (i + 1)) k = d 1 + 256 * V8 (fun i => d (i + 1 + 1)) k := V8_hd k (fun i => d (i + 1)) (fun i hi => h (i + 1) (by omega))
    show (d 0 + 256 * V8 (fun i => d (i + 1)) k) / 2 = (d 0 / 2 + 128 * (d 1 % 2)) + 256 * V8 (fun i => d (i + 1) / 2 + 128 * (d (i + 1 + 1) % 2)) k
    rw [← ih]
    omega
theorem V8_sh4 : ∀ (k : Nat) (d : Nat → Nat), (∀ i, k ≤ i → d i = 0) → V8 d k / 4 = V8 (fun i => d i / 4 + 64 * (d (i + 1) % 4)) k
  | 0, _, _ => by show 0 / 4 = 0; decide
  | k + 1, d, h => by
    have ih : V8 (fun i => d (i + 1)) k / 4 = V8 (fun i => d (i + 1) / 4 + 64 * (d (i + 1 + 1) % 4)) k := V8_sh4 k (fun i => d (i + 1)) (fun i hi => h (i + 1) (by omega))
    have hh : V8 (fun i => d (i + 1)) k = d 1 + 256 * V8 (fun i => d (i + 1 + 1)) k := V8_hd k (fun i => d (i + 1)) (fun i hi => h (i + 1) (by omega))
    show (d 0 + 256 * V8 (fun i => d (i + 1)) k) / 4 = (d 0 / 4 + 64 * (d 1 % 4)) + 256 * V8 (fun i => d (i + 1) / 4 + 64 * (d (i + 1 + 1) % 4)) k
    rw [← ih]
    omega
theorem V8_sh16 : ∀ (k : Nat) (d : Nat → Nat), (∀ i, k ≤ i → d i = 0) → V8 d k / 16 = V8 (fun i => d i / 16 + 16 * (d (i + 1) % 16)) k
  | 0, _, _ => by show 0 / 16 = 0; decide
  | k + 1, d, h => by
    have ih : V8 (fun i => d (i + 1)) k / 16 = V8 (fun i => d (i + 1) / 16 + 16 * (d (i + 1 + 1) % 16)) k := V8_sh16 k (fun i => d (i + 1)) (fun i hi => h (i + 1) (by omega))
    have hh : V8 (fun i => d (i + 1)) k = d 1 + 256 * V8 (fun i => d (i + 1 + 1)) k := V8_hd k (fun i => d (i + 1)) (fun i hi => h (i + 1) (by omega))
    show (d 0 + 256 * V8 (fun i => d (i + 1)) k) / 16 = (d 0 / 16 + 16 * (d 1 % 16)) + 256 * V8 (fun i => d (i + 1) / 16 + 16 * (d (i + 1 + 1) % 16)) k
    rw [← ih]
    omega
def g1B (x : Nat) : Nat := x - ((x / 2) &&& 85)
def g2B (y : Nat) : Nat := (y &&& 51) + ((y / 4) &&& 51)
def pc8 (x : Nat) : Nat := pcB (fun j => x.testBit j) 8
theorem tb1 : ∀ x, x < 256 → ∀ t, t < 2 → (x / 2 + 128 * t) &&& 85 = (x / 2) &&& 85 := by decide +kernel
theorem tb1b : ∀ x, x < 256 → (x / 2) &&& 85 ≤ x := by decide +kernel
theorem tb2 : ∀ y, y < 256 → ∀ t, t < 4 → (y / 4 + 64 * t) &&& 51 = (y / 4) &&& 51 := by decide +kernel
theorem tb3 : ∀ x, x < 256 → ∀ u, u < 5 → (g2B (g1B x) + (g2B (g1B x) / 16 + 16 * u)) &&& 15 = pc8 x := by decide +kernel
theorem tb3b : ∀ x, x < 256 → g1B x < 256 ∧ g2B (g1B x) < 70 ∧ g2B (g1B x) % 16 < 5 ∧ pc8 x ≤ 8 := by decide +kernel
theorem g1B_0 : g1B 0 = 0 := by decide +kernel
theorem g2B_0 : g2B 0 = 0 := by decide +kernel
theorem pc8_0 : pc8 0 = 0 := by decide +kernel
def dgN (n i : Nat) : Nat := n / 256 ^ i % 256
theorem V8_dg : ∀ (k n : Nat), n < 256 ^ k → V8 (dgN n) k = n
  | 0, n, h => by
    have : n < 1 := h
    show 0 = n
    omega
  | k + 1, n, h => by
    have e : (fun i => dgN n (i + 1)) = dgN (n / 256) := funext fun i => by
      unfold dgN
      rw [Nat.pow_succ, Nat.mul_comm, ← Nat.div_div_eq_div_mul]
    have ih := V8_dg k (n / 256) (by rw [Nat.pow_succ] at h; omega)
    show dgN n 0 + 256 * V8 (fun i => dgN n (i + 1)) k = n
    rw [e, ih]
    unfold dgN
    rw [Nat.pow_zero, Nat.div_one]
    omega
theorem dg_0 {n : Nat} (h : n < 256 ^ 8) : ∀ i, 8 ≤ i → dgN n i = 0 := fun i hi => by
  unfold dgN
  have : 256 ^ 8 ≤ 256 ^ i := Nat.pow_le_pow_right (by omega) hi
  rw [Nat.div_eq_of_lt (by omega), Nat.zero_mod]
theorem m55 : V8 (fun _ => 85) 8 = 6148914691236517205 := by decide +kernel
theorem m33 : V8 (fun _ => 51) 8 = 3689348814741910323 := by decide +kernel
theorem m0f : V8 (fun _ => 15) 8 = 1085102592571150095 := by decide +kernel
theorem p8 : (256 : Nat) ^ 8 = 18446744073709551616 := by decide +kernel
/-- the sums of bytes, step by step -/
theorem jl_nat {n a b c e f g : Nat} (hn : n < 18446744073709551616) (ha : a = n - ((n / 2) &&& 6148914691236517205)) (hb : b = (a &&& 3689348814741910323) + ((a / 4) &&& 3689348814741910323)) (hc : c = (b + b / 16) &&& 1085102592571150095) (he : e = c + c / 256) (hf : f = e + e / 65536) (hg : g = f + f / 4294967296) :
    ((n / 2) &&& 6148914691236517205 ≤ n ∧ a < 18446744073709551616 ∧ (a &&& 3689348814741910323) + ((a / 4) &&& 3689348814741910323) < 18446744073709551616 ∧ b + b / 16 < 18446744073709551616 ∧ c + c / 256 < 18446744073709551616 ∧ e + e / 65536 < 18446744073709551616 ∧ f + f / 4294967296 < 18446744073709551616) ∧
      g % 256 = pc8 (dgN n 0) + pc8 (dgN n 1) + pc8 (dgN n 2) + pc8 (dgN n 3) + pc8 (dgN n 4) + pc8 (dgN n 5) + pc8 (dgN n 6) + pc8 (dgN n 7) ∧ g % 256 ≤ 64 := by
  have d0 := dg_0 (n := n) (by rw [p8]; exact hn)
  have dl : ∀ i, dgN n i < 256 := fun i => Nat.mod_lt _ (by omega)
  have en : V8 (dgN n) 8 = n := V8_dg 8 n (by rw [p8]; exact hn)
  have T := fun i => tb3b (dgN n i) (dl i)
  -- pairs
  have s2 : n / 2 = V8 (fun i => dgN n i / 2 + 128 * (dgN n (i + 1) % 2)) 8 := by rw [← V8_sh2 8 (dgN n) d0, en]
  have y1 : (n / 2) &&& 6148914691236517205 = V8 (fun i => (dgN n i / 2) &&& 85) 8 := by
    rw [s2, ← m55, V8_and 8 _ _ (fun i => by have := dl i; omega) (fun _ => by omega)]
    exact V8_cong 8 _ _ (fun i _ => tb1 _ (dl i) _ (Nat.mod_lt _ (by omega)))
  have S1 := V8_sub 8 (dgN n) (fun i => (dgN n i / 2) &&& 85) (fun i => tb1b _ (dl i))
  rw [en, ← y1] at S1
  have ea : a = V8 (fun i => g1B (dgN n i)) 8 := by rw [ha, S1.2]; rfl
  have a0 : ∀ i, 8 ≤ i → g1B (dgN n i) = 0 := fun i hi => by rw [d0 i hi]; exact g1B_0
  -- fours
  have s4 : a / 4 = V8 (fun i => g1B (dgN n i) / 4 + 64 * (g1B (dgN n (i + 1)) % 4)) 8 := by rw [← V8_sh4 8 (fun i => g1B (dgN n i)) a0, ea]
  have w7 : a &&& 3689348814741910323 = V8 (fun i => g1B (dgN n i) &&& 51) 8 := by
    rw [ea, ← m33, V8_and 8 _ _ (fun i => (T i).1) (fun _ => by omega)]
  have w11 : (a / 4) &&& 3689348814741910323 = V8 (fun i => (g1B (dgN n i) / 4) &&& 51) 8 := by
    rw [s4, ← m33, V8_and 8 _ _ (fun i => by have := (T i).1; omega) (fun _ => by omega)]
    exact V8_cong 8 _ _ (fun i _ => tb2 _ (T i).1 _ (Nat.mod_lt _ (by omega)))
  have eb : b = V8 (fun i => g2B (g1B (dgN n i))) 8 := by rw [hb, w7, w11, V8_add]; rfl
  have b0 : ∀ i, 8 ≤ i → g2B (g1B (dgN n i)) = 0 := fun i hi => by rw [a0 i hi]; exact g2B_0
  -- eights
  have s16 : b / 16 = V8 (fun i => g2B (g1B (dgN n i)) / 16 + 16 * (g2B (g1B (dgN n (i + 1))) % 16)) 8 := by rw [← V8_sh16 8 (fun i => g2B (g1B (dgN n i))) b0, eb]
  have w17 : b + b / 16 = V8 (fun i => g2B (g1B (dgN n i)) + (g2B (g1B (dgN n i)) / 16 + 16 * (g2B (g1B (dgN n (i + 1))) % 16))) 8 := by rw [s16, eb, V8_add]
  have ec : c = V8 (fun i => pc8 (dgN n i)) 8 := by
    rw [hc, w17, ← m0f, V8_and 8 _ _ (fun i => by have := (T i).2.1; have := (T (i + 1)).2.2.1; omega) (fun _ => by omega)]
    exact V8_cong 8 _ _ (fun i _ => tb3 _ (dl i) _ (T (i + 1)).2.2.1)
  have c0 : ∀ i, 8 ≤ i → pc8 (dgN n i) = 0 := fun i hi => by rw [d0 i hi]; exact pc8_0
  have cl : ∀ i, pc8 (dgN n i) ≤ 8 := fun i => (T i).2.2.2
  have tl : ∀ (d : Nat → Nat), (∀ i, 8 ≤ i → d i = 0) → (∀ i, d i < 256) → V8 d 8 / 256 = V8 (fun i => d (i + 1)) 8 := fun d h1 h2 => V8_tl h1 (h2 0)
  have ee : e = V8 (fun i => pc8 (dgN n i) + pc8 (dgN n (i + 1))) 8 := by
    rw [he, ec, tl _ c0 (fun i => by have := cl i; omega), V8_add] <;> rfl
  have e0 : ∀ i, 8 ≤ i → pc8 (dgN n i) + pc8 (dgN n (i + 1)) = 0 := fun i hi => by rw [c0 i hi, c0 (i + 1) (by omega)]
  have el : ∀ i, pc8 (dgN n i) + pc8 (dgN n (i + 1)) ≤ 16 := fun i => by have := cl i; have := cl (i + 1); omega
  have ef : f = V8 (fun i => (pc8 (dgN n i) + pc8 (dgN n (i + 1))) + (pc8 (dgN n (i + 2)) + pc8 (dgN n (i + 3)))) 8 := by
    have q : e / 65536 = V8 (fun i => pc8 (dgN n (i + 2)) + pc8 (dgN n (i + 3))) 8 := by
      rw [show (65536 : Nat) = 256 * 256 from rfl, ← Nat.div_div_eq_div_mul, ee, tl _ e0 (fun i => by have := el i; omega), tl _ (fun i hi => e0 (i + 1) (by omega)) (fun i => by have := el (i + 1); omega)] <;> rfl
    rw [hf, q, ee, V8_add] <;> rfl
  have f0 : ∀ i, 8 ≤ i → (pc8 (dgN n i) + pc8 (dgN n (i + 1))) + (pc8 (dgN n (i + 2)) + pc8 (dgN n (i + 3))) = 0 := fun i hi => by rw [c0 i hi, c0 (i + 1) (by omega), c0 (i + 2) (by omega), c0 (i + 3) (by omega)]
  have fl : ∀ i, (pc8 (dgN n i) + pc8 (dgN n (i + 1))) + (pc8 (dgN n (i + 2)) + pc8 (dgN n (i + 3))) ≤ 32 := fun i => by have a1 := el i; have a2 : pc8 (dgN n (i + 2)) + pc8 (dgN n (i + 3)) ≤ 16 := el (i + 2); omega
  have eg : g = V8 (fun i => ((pc8 (dgN n i) + pc8 (dgN n (i + 1))) + (pc8 (dgN n (i + 2)) + pc8 (dgN n (i + 3)))) + ((pc8 (dgN n (i + 4)) + pc8 (dgN n (i + 5))) + (pc8 (dgN n (i + 6)) + pc8 (dgN n (i + 7))))) 8 := by
    have q : f / 4294967296 = V8 (fun i => (pc8 (dgN n (i + 4)) + pc8 (dgN n (i + 5))) + (pc8 (dgN n (i + 6)) + pc8 (dgN n (i + 7)))) 8 := by
      rw [show (4294967296 : Nat) = 256 * 256 * 256 * 256 from rfl, ← Nat.div_div_eq_div_mul, ← Nat.div_div_eq_div_mul, ← Nat.div_div_eq_div_mul, ef, tl _ f0 (fun i => by have := fl i; omega), tl _ (fun i hi => f0 (i + 1) (by omega)) (fun i => by have := fl (i + 1); omega), tl _ (fun i hi => f0 (i + 2) (by omega)) (fun i => by have := fl (i + 2); omega), tl _ (fun i hi => f0 (i + 3) (by omega)) (fun i => by have := fl (i + 3); omega)] <;> rfl
    rw [hg, q, ef, V8_add] <;> rfl
  have lt : ∀ (d : Nat → Nat), (∀ i, d i < 256) → V8 d 8 < 18446744073709551616 := fun d h => by rw [← p8]; exact V8_lt 8 d h
  have gl : ∀ i, ((pc8 (dgN n i) + pc8 (dgN n (i + 1))) + (pc8 (dgN n (i + 2)) + pc8 (dgN n (i + 3)))) + ((pc8 (dgN n (i + 4)) + pc8 (dgN n (i + 5))) + (pc8 (dgN n (i + 6)) + pc8 (dgN n (i + 7)))) ≤ 64 := fun i => by have a1 := fl i; have a2 : (pc8 (dgN n (i + 4)) + pc8 (dgN n (i + 5))) + (pc8 (dgN n (i + 6)) + pc8 (dgN n (i + 7))) ≤ 32 := fl (i + 4); omega
  have G0 : ((pc8 (dgN n 0) + pc8 (dgN n 1)) + (pc8 (dgN n 2) + pc8 (dgN n 3))) + ((pc8 (dgN n 4) + pc8 (dgN n 5)) + (pc8 (dgN n 6) + pc8 (dgN n 7))) ≤ 64 := gl 0
  have hd : g % 256 = ((pc8 (dgN n 0) + pc8 (dgN n 1)) + (pc8 (dgN n 2) + pc8 (dgN n 3))) + ((pc8 (dgN n 4) + pc8 (dgN n 5)) + (pc8 (dgN n 6) + pc8 (dgN n 7))) := by
    rw [eg]
    show ((((pc8 (dgN n 0) + pc8 (dgN n 1)) + (pc8 (dgN n 2) + pc8 (dgN n 3))) + ((pc8 (dgN n 4) + pc8 (dgN n 5)) + (pc8 (dgN n 6) + pc8 (dgN n 7)))) + 256 * _) % 256 = _
    rw [Nat.add_mul_mod_self_left, Nat.mod_eq_of_lt (by omega)]
  refine ⟨⟨S1.1, by omega, ?_, ?_, ?_, ?_, ?_⟩, by omega, by omega⟩
  · rw [← hb, eb]; exact lt _ (fun i => by have := (T i).2.1; omega)
  · rw [w17]; exact lt _ (fun i => by have := (T i).2.1; have := (T (i + 1)).2.2.1; omega)
  · rw [← he, ee]; exact lt _ (fun i => by have := el i; omega)
  · rw [← hf, ef]; exact lt _ (fun i => by have := fl i; omega)
  · rw [← hg, eg]; exact lt _ (fun i => by have := gl i; omega)
/-- the words -/
def bl (x : Int64) (j : Nat) : Bool := x.toBitVec.getLsbD j
def nL (x : Int64) : Nat := x.toBitVec.toNat
theorem nL_lt (x : Int64) : nL x < 18446744073709551616 := x.toBitVec.isLt
theorem ush_tab : (((1 : Int32).toInt64.toUInt64 &&& Int64.toUInt64 63).toBitVec % 64).toNat = 1 ∧ (((2 : Int32).toInt64.toUInt64 &&& Int64.toUInt64 63).toBitVec % 64).toNat = 2 ∧ (((4 : Int32).toInt64.toUInt64 &&& Int64.toUInt64 63).toBitVec % 64).toNat = 4 ∧ (((8 : Int32).toInt64.toUInt64 &&& Int64.toUInt64 63).toBitVec % 64).toNat = 8 ∧ (((16 : Int32).toInt64.toUInt64 &&& Int64.toUInt64 63).toBitVec % 64).toNat = 16 ∧ (((32 : Int32).toInt64.toUInt64 &&& Int64.toUInt64 63).toBitVec % 64).toNat = 32 := by decide +kernel
theorem nL_ush {x : Int64} {k : Int32} {m : Nat} (h : ((k.toInt64.toUInt64 &&& Int64.toUInt64 63).toBitVec % 64).toNat = m) : nL ((x.toUInt64 >>> (k.toInt64.toUInt64 &&& Int64.toUInt64 63)).toInt64) = nL x / 2 ^ m := by
  show (x.toUInt64 >>> (k.toInt64.toUInt64 &&& Int64.toUInt64 63)).toBitVec.toNat = x.toBitVec.toNat / 2 ^ m
  rw [UInt64.toBitVec_shiftRight]
  show (x.toBitVec >>> ((k.toInt64.toUInt64 &&& Int64.toUInt64 63).toBitVec % 64).toNat).toNat = _
  rw [h, BitVec.toNat_ushiftRight, Nat.shiftRight_eq_div_pow]
theorem nL_and (x y : Int64) : nL (x &&& y) = nL x &&& nL y := by
  show (x.toBitVec &&& y.toBitVec).toNat = _
  rw [BitVec.toNat_and]
  rfl
theorem nL_sub {x y : Int64} (h : nL y ≤ nL x) : nL (x - y) = nL x - nL y := by
  have a := nL_lt x
  have b := nL_lt y
  show (x.toBitVec - y.toBitVec).toNat = _
  rw [BitVec.toNat_sub]
  show (2 ^ 64 - nL y + nL x) % 2 ^ 64 = nL x - nL y
  omega
theorem nL_add {x y : Int64} (h : nL x + nL y < 18446744073709551616) : nL (x + y) = nL x + nL y := by
  show (x.toBitVec + y.toBitVec).toNat = _
  rw [BitVec.toNat_add]
  show (nL x + nL y) % 2 ^ 64 = nL x + nL y
  omega
theorem nL_cst : nL (6148914691236517205 : Int64) = 6148914691236517205 ∧ nL (3689348814741910323 : Int64) = 3689348814741910323 ∧ nL (1085102592571150095 : Int64) = 1085102592571150095 := by decide +kernel
theorem pc8_dg {v : Int64} {i : Nat} (hi : i < 8) : pc8 (dgN (nL v) i) = pcB (fun j => bl v (8 * i + j)) 8 := by
  unfold pc8
  refine pcB_cong 8 (fun j hj => ?_)
  show (dgN (nL v) i).testBit j = bl v (8 * i + j)
  unfold dgN bl
  rw [show (256 : Nat) = 2 ^ 8 from rfl, Nat.testBit_mod_two_pow, ← Nat.pow_mul, Nat.testBit_div_two_pow, decide_eq_true hj, Bool.true_and, show j + 8 * i = 8 * i + j by omega]
  rfl
theorem jlP {v : Int64} {r : Int32} {M : mM} (h : SP_JL_bitCount v M r) : r.toInt = (pcB (bl v) 64 : Int) := by
  refine xE_SP_JL_bitCount h (fun w1_ h2_ w3_ h4_ w5_ h6_ w7_ h8_ w9_ h10_ w11_ h12_ w13_ h14_ w15_ h16_ w17_ h18_ w19_ h20_ w21_ h22_ w23_ h24_ w25_ h26_ w27_ h28_ w29_ h30_ w31_ h32_ z33_ h34_ z35_ h37_ h36_ hr_ => ?_)
  obtain ⟨t1, t2, t4, t8, t16, t32⟩ := ush_tab
  obtain ⟨k5, k3, k0⟩ := nL_cst
  have x1 : nL w1_ = nL v / 2 := by rw [h2_]; exact nL_ush t1
  have x3 : nL w3_ = (nL v / 2) &&& 6148914691236517205 := by rw [h4_, nL_and, x1, k5]
  have J := jl_nat (n := nL v) (nL_lt v) rfl rfl rfl rfl rfl rfl
  obtain ⟨⟨j1, j2, j3, j4, j5, j6, j7⟩, j8, j9⟩ := J
  have x5 : nL w5_ = nL v - ((nL v / 2) &&& 6148914691236517205) := by rw [h6_, nL_sub (by rw [x3]; exact j1), x3]
  have x9 : nL w9_ = nL w5_ / 4 := by rw [h10_]; exact nL_ush t2
  have x7 : nL w7_ = nL w5_ &&& 3689348814741910323 := by rw [h8_, nL_and, k3]
  have x11 : nL w11_ = (nL w5_ / 4) &&& 3689348814741910323 := by rw [h12_, nL_and, k3, x9]
  rw [← x5] at j2 j3 j4 j5 j6 j7 j8 j9
  have x13 : nL w13_ = (nL w5_ &&& 3689348814741910323) + ((nL w5_ / 4) &&& 3689348814741910323) := by rw [h14_, nL_add (by rw [x7, x11]; exact j3), x7, x11]
  rw [← x13] at j4 j5 j6 j7 j8 j9
  have x15 : nL w15_ = nL w13_ / 16 := by rw [h16_]; exact nL_ush t4
  have x17 : nL w17_ = nL w13_ + nL w13_ / 16 := by rw [h18_, nL_add (by rw [x15]; exact j4), x15]
  have x19 : nL w19_ = (nL w13_ + nL w13_ / 16) &&& 1085102592571150095 := by rw [h20_, nL_and, x17, k0]
  rw [← x19] at j5 j6 j7 j8 j9
  have x21 : nL w21_ = nL w19_ / 256 := by rw [h22_]; exact nL_ush t8
  have x23 : nL w23_ = nL w19_ + nL w19_ / 256 := by rw [h24_, nL_add (by rw [x21]; exact j5), x21]
  rw [← x23] at j6 j7 j8 j9
  have x25 : nL w25_ = nL w23_ / 65536 := by rw [h26_]; exact nL_ush t16
  have x27 : nL w27_ = nL w23_ + nL w23_ / 65536 := by rw [h28_, nL_add (by rw [x25]; exact j6), x25]
  rw [← x27] at j7 j8 j9
  have x29 : nL w29_ = nL w27_ / 4294967296 := by rw [h30_]; exact nL_ush t32
  have x31 : nL w31_ = nL w27_ + nL w27_ / 4294967296 := by rw [h32_, nL_add (by rw [x29]; exact j7), x29]
  rw [← x31] at j8 j9
  have x33 : z33_.toBitVec.toNat = nL w31_ % 4294967296 := by
    rw [h34_]
    show (BitVec.signExtend 32 w31_.toBitVec).toNat = _
    rw [BitVec.signExtend_eq_setWidth_of_le _ (by omega), BitVec.toNat_setWidth]
    rfl
  have a := and_mod z33_ (m := (127 : Int32)) 7 (by decide) (by omega)
  have b := emod_bits z33_ 7 (by omega)
  have s := pcB_add (bl v) 56 8
  have s6 := pcB_add (bl v) 48 8
  have s5 := pcB_add (bl v) 40 8
  have s4 := pcB_add (bl v) 32 8
  have s3 := pcB_add (bl v) 24 8
  have s2 := pcB_add (bl v) 16 8
  have s1 := pcB_add (bl v) 8 8
  have s0 := pcB_add (bl v) 0 8
  have z0 : pcB (bl v) 0 = 0 := rfl
  have q0 := pc8_dg (v := v) (i := 0) (by omega)
  have q1 := pc8_dg (v := v) (i := 1) (by omega)
  have q2 := pc8_dg (v := v) (i := 2) (by omega)
  have q3 := pc8_dg (v := v) (i := 3) (by omega)
  have q4 := pc8_dg (v := v) (i := 4) (by omega)
  have q5 := pc8_dg (v := v) (i := 5) (by omega)
  have q6 := pc8_dg (v := v) (i := 6) (by omega)
  have q7 := pc8_dg (v := v) (i := 7) (by omega)
  simp only [Nat.mul_zero, Nat.mul_one, Nat.reduceMul] at q0 q1 q2 q3 q4 q5 q6 q7
  simp only [Nat.reduceAdd] at s s6 s5 s4 s3 s2 s1 s0
  rw [hr_, h37_, a, ← b, x33]
  omega
