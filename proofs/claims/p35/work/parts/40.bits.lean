/-! bits, out of kit/laws/BITS.to-paste; how many of seven bits are free -/
def bt (x : Int32) (i : Nat) : Bool := x.toBitVec.getLsbD i
theorem b_or (x y : Int32) (i : Nat) : bt (x ||| y) i = (bt x i || bt y i) := by unfold bt; rw [Int32.toBitVec_or, BitVec.getLsbD_or]
theorem b_and (x y : Int32) (i : Nat) : bt (x &&& y) i = (bt x i && bt y i) := by unfold bt; rw [Int32.toBitVec_and, BitVec.getLsbD_and]
theorem b_0 (i : Nat) : bt 0 i = false := BitVec.getLsbD_zero
theorem s_l : ∀ n, n < 32 → ((nI n &&& 31).toBitVec.smod 32).toNat = n := by decide +kernel
theorem b_shl (n : Nat) (hn : n < 32) (x : Int32) {i : Nat} (hi : i < 32) : bt (x <<< (nI n &&& 31)) i = (decide (n ≤ i) && bt x (i - n)) := by
  unfold bt
  rw [Int32.toBitVec_shiftLeft]
  show (x.toBitVec <<< ((nI n &&& 31).toBitVec.smod 32).toNat).getLsbD i = _
  rw [s_l n hn, BitVec.getLsbD_shiftLeft]
  rcases Nat.lt_or_ge i n with h | h
  · simp [h, Nat.not_le.mpr h]
  · simp [hi, h, Nat.not_lt.mpr h]
theorem b_sshr (n : Nat) (hn : n < 32) (x : Int32) {i : Nat} (hi : i < 32) : bt (x >>> (nI n &&& 31)) i = if n + i < 32 then bt x (n + i) else bt x 31 := by
  unfold bt
  rw [Int32.toBitVec_shiftRight]
  show (x.toBitVec.sshiftRight ((nI n &&& 31).toBitVec.smod 32).toNat).getLsbD i = _
  rw [s_l n hn, BitVec.getLsbD_sshiftRight, BitVec.msb_eq_getLsbD_last]
  simp [hi]
def nb (b : Bool) : Nat := match b with
  | true => 0
  | false => 1
def frb (u : Int32) : Nat := nb (bt u 0) + nb (bt u 1) + nb (bt u 2) + nb (bt u 3) + nb (bt u 4) + nb (bt u 5) + nb (bt u 6)
theorem nb_le (b : Bool) : nb b ≤ 1 := by cases b <;> decide
theorem frb_le (u : Int32) : frb u ≤ 7 := by
  unfold frb
  have := nb_le (bt u 0); have := nb_le (bt u 1); have := nb_le (bt u 2); have := nb_le (bt u 3); have := nb_le (bt u 4); have := nb_le (bt u 5); have := nb_le (bt u 6)
  omega
theorem bt_1 : ∀ k, k < 8 → bt 1 k = decide (k = 0) := by decide +kernel
theorem frb_0 : frb 0 = 7 := by decide +kernel
theorem frb_step {u l : Int32} (hl : 0 ≤ l.toInt ∧ l.toInt ≤ 6) (h : ((u >>> (l &&& 31)) &&& 1).toInt = 0) : frb (u ||| ((1 : Int32) <<< (l &&& 31))) + 1 = frb u := by
  obtain ⟨n, hn⟩ : ∃ n : Nat, l.toInt = (n : Int) := ⟨l.toInt.toNat, by omega⟩
  have hn7 : n < 7 := by omega
  have e : l = nI n := nI_of_toInt hn
  subst e
  have h0 : (u >>> (nI n &&& 31)) &&& 1 = 0 := Int32.toInt_inj.mp h
  have hb : bt u n = false := by
    have h1 : bt ((u >>> (nI n &&& 31)) &&& 1) 0 = false := by rw [h0]; exact b_0 0
    rw [b_and, b_sshr n (by omega) u (by omega), if_pos (by omega), bt_1 0 (by omega)] at h1
    simpa using h1
  have hs : ∀ i, i < 7 → bt (u ||| ((1 : Int32) <<< (nI n &&& 31))) i = (bt u i || decide (i = n)) := by
    intro i hi
    rw [b_or, b_shl n (by omega) 1 (by omega), bt_1 (i - n) (by omega)]
    by_cases q : i = n
    · subst q; simp
    · rcases Nat.lt_or_ge i n with q2 | q2
      · simp [q, Nat.not_le.mpr q2]
      · have q3 : ¬ i - n = 0 := by omega
        simp [q, q3]
  unfold frb
  rw [hs 0 (by omega), hs 1 (by omega), hs 2 (by omega), hs 3 (by omega), hs 4 (by omega), hs 5 (by omega), hs 6 (by omega)]
  obtain rfl | rfl | rfl | rfl | rfl | rfl | rfl : n = 0 ∨ n = 1 ∨ n = 2 ∨ n = 3 ∨ n = 4 ∨ n = 5 ∨ n = 6 := by omega
  all_goals (rw [hb]; simp [nb]; try omega)
theorem ne0I {z : Int32} (h : ¬ z.toInt = 0) : ¬ z = 0 := fun e => h (by rw [e]; rfl)
