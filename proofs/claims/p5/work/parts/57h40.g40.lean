/-! the full relation -/
def RY (m : rf → Nat → Int32) : Prop := RXz m ∧ (m (12, 0, 0) 7).toInt = -1 ∧ RW 0 m (m (50, 0, 0)) ∧ (¬ (m (12, 0, 0) 3).toInt = 0 → RW 1 m (m (51, 0, 0))) ∧ SHR m m
/-- class cells, model cells -/
def cC (S : rf → Nat → Prop) : Prop := ∀ (c : rf) (k : Nat), S c k → ¬ (c.1 = 12 ∨ 50 ≤ c.1)
def cD (S : rf → Nat → Prop) : Prop := ∀ (c : rf) (k : Nat), S c k → c.1 = 12 ∨ 50 ≤ c.1
theorem wR_cls {r : Nat} (h : wR r) : ¬ (r = 12 ∨ 50 ≤ r) := by unfold wR at h; omega
/-- what a call's two halves tell of the memory behind both -/
theorem RY_of {S1 S2 : rf → Nat → Prop} {M M1 M2 : mM} (h : RY M.1) (hF1 : FR S1 M M1) (hF2 : FR S2 M1 M2) (s1 : cC S1) (s2 : cD S2) (hx : RXz M2.1) (hN : NW5 (M2.1 (50, 0, 0))) (hN1 : NW5 (M2.1 (51, 0, 0)))
    (h7 : (M2.1 (12, 0, 0) 7).toInt = -1) (hw : RW 0 M1.1 (M2.1 (50, 0, 0)))
    (hi : (M2.1 (12, 0, 0) 3 = M1.1 (12, 0, 0) 3 ∧ (∀ (c : rf) (k : Nat), wR c.1 → c.2.1 = 1 → ¬ S1 c k) ∧ ∀ k, ¬ S2 (51, 0, 0) k) ∨ (¬ (M2.1 (12, 0, 0) 3).toInt = 0 → RW 1 M1.1 (M2.1 (51, 0, 0)))) (hs : SHR M1.1 M2.1) : RY M2.1 := by
  have c2 : ∀ (c : rf) (k : Nat), ¬ (c.1 = 12 ∨ 50 ≤ c.1) → M2.1 c k = M1.1 c k := fun c k q => hF2 c k (fun z => q (s2 c k z))
  have c1 : ∀ (c : rf) (k : Nat), c.1 = 12 ∨ 50 ≤ c.1 → M1.1 c k = M.1 c k := fun c k q => hF1 c k (fun z => s1 c k z q)
  obtain ⟨-, -, -, h4, -⟩ := h
  refine ⟨hx, h7, RW_same hw hN (fun c k a _ => c2 c k (wR_cls a)), fun q => ?_, SHR_keep hs (fun c k a => c2 c k (by omega)) (fun _ _ _ => rfl)⟩
  refine RW_same ?_ hN1 (fun c k a _ => c2 c k (wR_cls a))
  rcases hi with ⟨i1, i2, i3⟩ | hi
  · have e51 : M2.1 (51, 0, 0) = M.1 (51, 0, 0) := funext fun k => by rw [hF2 _ _ (i3 k), c1 _ _ (by simp)]
    rw [i1, c1 _ _ (by simp)] at q
    rw [e51] at hN1 ⊢
    exact RW_same (h4 q) hN1 (fun c k a b => hF1 c k (i2 c k a b))
  · exact hi q
/-- a call that leaves all of it -/
theorem RY_fr {S1 S2 : rf → Nat → Prop} {M M1 M2 : mM} (h : RY M.1) (hF1 : FR S1 M M1) (hF2 : FR S2 M1 M2) (s1 : cC S1) (s2 : cD S2) (hx : RXz M2.1) (hN : NW5 (M2.1 (50, 0, 0))) (hN1 : NW5 (M2.1 (51, 0, 0)))
    (a1 : ∀ (c : rf) (k : Nat), wR c.1 ∨ c.1 = 6 → c.2.1 < 2 → ¬ S1 c k) (a2 : ∀ (c : rf) (k : Nat), c = (50, 0, 0) ∨ c = (51, 0, 0) ∨ (c = (12, 0, 0) ∧ (k = 3)) ∨ c.1 = 66 ∨ c.1 = 67 ∨ c.1 = 68 → ¬ S2 c k) (a34 : ∀ (c : rf) (k : Nat), c.1 = 6 ∨ c.1 = 34 → ¬ S1 c k) (h7 : (M2.1 (12, 0, 0) 7).toInt = -1) : RY M2.1 := by
  have c1 : ∀ (c : rf) (k : Nat), c.1 = 12 ∨ 50 ≤ c.1 → M1.1 c k = M.1 c k := fun c k q => hF1 c k (fun z => s1 c k z q)
  have e50 : M2.1 (50, 0, 0) = M.1 (50, 0, 0) := funext fun k => by rw [hF2 _ _ (a2 _ _ (Or.inl rfl)), c1 _ _ (by simp)]
  have h0 := h
  obtain ⟨-, -, h3, -, h5⟩ := h0
  refine RY_of h hF1 hF2 s1 s2 hx hN hN1 h7 ?_ (Or.inl ⟨hF2 _ _ (a2 _ _ (by simp)), fun c k a b => a1 c k (Or.inl a) (by omega), fun k => a2 _ _ (by simp)⟩) ?_
  · rw [e50] at hN ⊢
    exact RW_same h3 hN (fun c k a b => hF1 c k (a1 c k (Or.inl a) (by omega)))
  · exact SHR_keep h5 (fun c k a => hF1 c k (a34 c k a)) (fun c k a => by rw [hF2 c k (a2 c k (by omega)), c1 c k (by omega)])
