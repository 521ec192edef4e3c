theorem cellr {x y : Int32} (h1 : ¬ x < 0) (h2 : ¬ 16 ≤ x) (h3 : ¬ y < 0) (h4 : ¬ 12 ≤ y) : inR (16 * y + x) 0 191 := by
  obtain ⟨a, ha, rfl⟩ := nI_of h1
  obtain ⟨b, hb, rfl⟩ := nI_of h3
  have h2' : a < 16 := by
    rcases Nat.lt_or_ge a 16 with q | q
    · exact q
    · exact absurd ((nI_leI (a := 16) (b := a) (by decide) ha).mpr q) h2
  have h4' : b < 12 := by
    rcases Nat.lt_or_ge b 12 with q | q
    · exact q
    · exact absurd ((nI_leI (a := 12) (b := b) (by decide) hb).mpr q) h4
  have e : (16 : Int32) * nI b + nI a = nI (16 * b + a) := by rw [show (16 : Int32) = nI 16 from rfl, pk_mul, nI_add]
  rw [e]
  exact ⟨(nI_leI (a := 0) (b := 16 * b + a) (by decide) (by omega)).mpr (by omega), (nI_leI (a := 16 * b + a) (b := 191) (by omega) (by decide)).mpr (by omega)⟩
theorem vin_len {v : Int32} {n : Nat} (h0 : ¬ v < 0) (h1 : ¬ nI n ≤ v) (hn : n < 2 ^ 31) : vp_in v n := by
  obtain ⟨a, ha, rfl⟩ := nI_of h0
  refine vp_in_nI ?_ hn
  rcases Nat.lt_or_ge a n with q | q
  · exact q
  · exact absurd ((nI_leI hn ha).mpr q) h1
theorem vin_len2 {v : Int32} {n : Nat} (h0 : 0 ≤ v) (h1 : v < nI n) (hn : n < 2 ^ 31) : vp_in v n := vin_len (Int32.not_lt.mpr h0) (Int32.not_le.mpr h1) hn
theorem vin_len3 {v : Int32} {n : Nat} (h0 : ¬ v < 0) (h1 : v < nI n) (hn : n < 2 ^ 31) : vp_in v n := vin_len h0 (Int32.not_le.mpr h1) hn
theorem min_in {a : Int32} {n : Nat} {i : Nat} (hn : n < 2 ^ 31) (hi : i < 2 ^ 31) (h : nI i < (if nI n < a then nI n else a)) : i < n := by
  rcases Nat.lt_or_ge i n with q | q
  · exact q
  · exfalso
    have h1 : nI n ≤ nI i := (nI_leI hn hi).mpr q
    by_cases c : nI n < a
    · rw [if_pos c] at h
      exact absurd h (Int32.not_lt.mpr h1)
    · rw [if_neg c] at h
      exact absurd (Int32.lt_of_lt_of_le h (Int32.not_lt.mp c)) (Int32.not_lt.mpr h1)
def hasT (v th : Int32) : Prop := 0 ≤ v ∧ v < th ∧ v < 40
