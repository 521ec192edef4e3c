theorem inRn {v lo hi : Int32} (h : inR v lo hi) (hl : 0 ≤ lo.toInt) : ∃ k : Nat, k < 2 ^ 31 ∧ v = nI k := by
  have h1 := Int32.le_iff_toInt_le.mp h.1
  refine nI_of (fun q => ?_)
  have h2 := Int32.lt_iff_toInt_lt.mp q
  have h3 : (0 : Int32).toInt = 0 := rfl
  omega
theorem inRb {k : Nat} {lo hi : Int32} (h : inR (nI k) lo hi) (hk : k < 2 ^ 31) {n : Nat} (hn : hi.toInt = n) : k ≤ n := by
  have h1 := Int32.le_iff_toInt_le.mp h.2
  rw [nI_toInt hk, hn] at h1
  omega
theorem sw9 (v : Int32) : v = 0 ∨ v = 1 ∨ v = 2 ∨ v = 3 ∨ v = 4 ∨ v = 5 ∨ v = 6 ∨ v = 7 ∨ v = 8 ∨ (v.toInt < 0 ∨ 8 < v.toInt) := by
  have e : v.toInt = 0 ∨ v.toInt = 1 ∨ v.toInt = 2 ∨ v.toInt = 3 ∨ v.toInt = 4 ∨ v.toInt = 5 ∨ v.toInt = 6 ∨ v.toInt = 7 ∨ v.toInt = 8 ∨ (v.toInt < 0 ∨ 8 < v.toInt) := by omega
  rcases e with e | e | e | e | e | e | e | e | e | e
  · exact Or.inl (Int32.toInt_inj.mp e)
  · exact Or.inr (Or.inl (Int32.toInt_inj.mp e))
  · exact Or.inr (Or.inr (Or.inl (Int32.toInt_inj.mp e)))
  · exact Or.inr (Or.inr (Or.inr (Or.inl (Int32.toInt_inj.mp e))))
  · exact Or.inr (Or.inr (Or.inr (Or.inr (Or.inl (Int32.toInt_inj.mp e)))))
  · exact Or.inr (Or.inr (Or.inr (Or.inr (Or.inr (Or.inl (Int32.toInt_inj.mp e))))))
  · exact Or.inr (Or.inr (Or.inr (Or.inr (Or.inr (Or.inr (Or.inl (Int32.toInt_inj.mp e)))))))
  · exact Or.inr (Or.inr (Or.inr (Or.inr (Or.inr (Or.inr (Or.inr (Or.inl (Int32.toInt_inj.mp e))))))))
  · exact Or.inr (Or.inr (Or.inr (Or.inr (Or.inr (Or.inr (Or.inr (Or.inr (Or.inl (Int32.toInt_inj.mp e)))))))))
  · exact Or.inr (Or.inr (Or.inr (Or.inr (Or.inr (Or.inr (Or.inr (Or.inr (Or.inr e))))))))
theorem not_in9 {v : Int32} (h : v.toInt < 0 ∨ 8 < v.toInt) : ¬ inR v 0 8 := by
  intro q
  have h1 := Int32.le_iff_toInt_le.mp q.1
  have h2 := Int32.le_iff_toInt_le.mp q.2
  have a : (0 : Int32).toInt = 0 := rfl
  have b : (8 : Int32).toInt = 8 := rfl
  omega
