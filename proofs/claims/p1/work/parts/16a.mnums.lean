theorem inR_emp {v lo hi : Int32} (h : inR v lo hi) (hh : hi.toInt < lo.toInt) : False := by
  have h1 := Int32.le_iff_toInt_le.mp h.1
  have h2 := Int32.le_iff_toInt_le.mp h.2
  omega
theorem in002 : inR 0 0 2 := ⟨by decide, by decide⟩
theorem in012 : inR 1 0 2 := ⟨by decide, by decide⟩
theorem in022 : inR 2 0 2 := ⟨by decide, by decide⟩
theorem nin3 {v : Int32} (h0 : ¬ v = 0) (h1 : ¬ v = 1) (h2 : ¬ v = 2) : ¬ inR v 0 2 := by
  intro h
  rcases in4 ⟨h.1, Int32.le_trans h.2 (by decide)⟩ with e | e | e | e
  · exact h0 e
  · exact h1 e
  · exact h2 e
  · subst e; exact absurd h.2 (by decide)
theorem in5 {v : Int32} (h : inR v 0 4) : v = 0 ∨ v = 1 ∨ v = 2 ∨ v = 3 ∨ v = 4 := by
  have h1 := Int32.le_iff_toInt_le.mp h.1
  have h2 := Int32.le_iff_toInt_le.mp h.2
  have e : v.toInt = 0 ∨ v.toInt = 1 ∨ v.toInt = 2 ∨ v.toInt = 3 ∨ v.toInt = 4 := by
    have a : (0 : Int32).toInt = 0 := rfl
    have b : (4 : Int32).toInt = 4 := rfl
    omega
  rcases e with e | e | e | e | e
  · exact Or.inl (Int32.toInt_inj.mp e)
  · exact Or.inr (Or.inl (Int32.toInt_inj.mp e))
  · exact Or.inr (Or.inr (Or.inl (Int32.toInt_inj.mp e)))
  · exact Or.inr (Or.inr (Or.inr (Or.inl (Int32.toInt_inj.mp e))))
  · exact Or.inr (Or.inr (Or.inr (Or.inr (Int32.toInt_inj.mp e))))
theorem updN {f : Nat → Int32} {a b : Nat} {x y : Int32} (ha : a < 2 ^ 31) (h : b ≠ a) (hy : f b = y) : upd f (nI a).toNatClampNeg x b = y := by
  rw [nI_clamp ha]
  unfold upd
  rw [if_neg h]
  exact hy
theorem vin96 {v : Int32} (h : inR v 0 3) {i : Nat} (hi : i < 24) : vp_in (24 * v + nI i) 96 := by
  rcases in4 h with e | e | e | e
  · rw [e, show (24 * 0 : Int32) = nI 0 by decide, nI_add]; exact vp_in_nI (by omega) (by decide)
  · rw [e, show (24 * 1 : Int32) = nI 24 by decide, nI_add]; exact vp_in_nI (by omega) (by decide)
  · rw [e, show (24 * 2 : Int32) = nI 48 by decide, nI_add]; exact vp_in_nI (by omega) (by decide)
  · rw [e, show (24 * 3 : Int32) = nI 72 by decide, nI_add]; exact vp_in_nI (by omega) (by decide)
def nw0 : Nat → Int32 := (upd (upd (upd (upd (upd (upd (upd (fun _ => 0) 6 5) 7 9) 9 50) 10 50) 11 50) 12 50) 13 50)
