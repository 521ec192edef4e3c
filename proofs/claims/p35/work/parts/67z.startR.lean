/-! at the start both hold the same -/
theorem start_R (fo0 fo1 fo2 fl0 fl1 fl2 : Nat → Int32) (h0 : ∀ j, j < 5 → fl0 j = 50) : RXz (Mz0 fo0 fo1 fo2 fl0 fl1 fl2).1 := by
  rintro ⟨r, b, w⟩ k ⟨r2, b2, w2⟩ j p g
  unfold PRz at p
  dsimp only at p g
  have hb1 : ¬ b = 1 := fun q => g q (by show (if (3 : Nat) = 7 then (-1 : Int32) else 0).toInt = 0; decide)
  rcases p with ⟨p0, p1, p2, p3, p⟩ | p | p
  · obtain rfl : b = 0 := by omega
    obtain rfl : r2 = 50 := by omega
    subst p2 p3
    rcases p with p | p | p | p | p | p
    · obtain ⟨rfl, rfl, rfl, rfl⟩ := p; show (0 : Int32) = nw0 0; decide
    · obtain ⟨rfl, rfl, rfl, rfl⟩ := p; show (0 : Int32) = nw0 3; decide
    · obtain ⟨rfl, hw, rfl, rfl⟩ := p
      obtain rfl | rfl : w = 0 ∨ w = 1 := by omega
      · show (0 : Int32) = nw0 4; decide
      · show (0 : Int32) = nw0 5; decide
    · obtain ⟨rfl, rfl, hk, rfl⟩ := p
      obtain rfl | rfl | rfl : k = 0 ∨ k = 1 ∨ k = 2 := by omega
      · show ([5, 9, 0] : List Int32).getD 0 0 = nw0 6; decide
      · show ([5, 9, 0] : List Int32).getD 1 0 = nw0 7; decide
      · show ([5, 9, 0] : List Int32).getD 2 0 = nw0 8; decide
    · obtain ⟨rfl, rfl, hk, rfl⟩ := p
      show fl0 k = nw0 (9 + k)
      rw [h0 k hk]
      obtain rfl | rfl | rfl | rfl | rfl : k = 0 ∨ k = 1 ∨ k = 2 ∨ k = 3 ∨ k = 4 := by omega
      all_goals decide
    · obtain ⟨rfl, rfl, hk, rfl⟩ := p
      show (0 : Int32) = nw0 (14 + k)
      obtain rfl | rfl | rfl | rfl | rfl : k = 0 ∨ k = 1 ∨ k = 2 ∨ k = 3 ∨ k = 4 := by omega
      all_goals decide
  · obtain ⟨rfl, rfl, rfl, rfl, rfl, rfl, rfl, rfl⟩ := p
    show (0 : Int32) = (if (3 : Nat) = 7 then (-1 : Int32) else 0)
    decide
  · obtain ⟨rfl, rfl, hw, rfl, rfl, rfl, p⟩ := p
    rcases p with ⟨rfl, rfl⟩ | ⟨rfl, rfl⟩ <;> rfl
