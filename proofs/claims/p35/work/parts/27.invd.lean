/-! the model's invariant: counts, kinds, cells, sides; texts that are well formed; sizes of sheets -/
def bI (v : Int32) (a b : Int) : Prop := a ≤ v.toInt ∧ v.toInt ≤ b
def PN (k : Nat) (v : Int32) : Prop :=
  (k = 1 → 0 ≤ v.toInt ∧ v.toInt ≤ 40) ∧ (k = 2 → 0 ≤ v.toInt ∧ v.toInt ≤ 8) ∧ (k = 3 → 0 ≤ v.toInt ∧ v.toInt ≤ 7) ∧ (k = 4 → 0 ≤ v.toInt ∧ v.toInt ≤ 48) ∧ (k = 5 → 0 ≤ v.toInt ∧ v.toInt ≤ 24) ∧
  (9 ≤ k → k ≤ 18 → 0 ≤ v.toInt ∧ v.toInt ≤ 99) ∧
  (20 ≤ k → k < 180 → (k % 4 = 0 → 0 ≤ v.toInt ∧ v.toInt ≤ 4) ∧ (k % 4 = 1 → -1 ≤ v.toInt ∧ v.toInt ≤ 191) ∧ (k % 4 = 2 → 0 ≤ v.toInt ∧ v.toInt ≤ 7)) ∧
  (180 ≤ k → k < 252 → (k % 9 = 0 → 0 ≤ v.toInt ∧ v.toInt ≤ 7) ∧ (k % 9 = 1 → 0 ≤ v.toInt ∧ v.toInt ≤ 191) ∧ (k % 9 = 2 → 0 ≤ v.toInt ∧ v.toInt ≤ 7))
/-- the pile behind one code -/
def stp (v : Int) (o : Option Nat) : Option Nat := match o with
  | none => none
  | some d => if 0 ≤ v ∧ v < 1005 then some (d + 1) else if v = 2008 then (if 1 ≤ d then some d else none) else if v = 2009 then (if 3 ≤ d then some (d - 2) else none) else if 2000 ≤ v ∧ v < 2008 then (if 2 ≤ d then some (d - 1) else none) else none
def dpt (f : Nat → Int32) (a : Nat) : Nat → Option Nat
  | 0 => some 0
  | n + 1 => stp (f (a + n)).toInt (dpt f a n)
theorem dpt_cong {f g : Nat → Int32} {a b : Nat} : ∀ n : Nat, (∀ i, i < n → f (a + i) = g (b + i)) → dpt f a n = dpt g b n
  | 0, _ => rfl
  | n + 1, h => by
    show stp _ _ = stp _ _
    rw [h n (Nat.lt_succ_self n), dpt_cong n (fun i hi => h i (Nat.lt_succ_of_lt hi))]
theorem dpt_le {f : Nat → Int32} {a n D : Nat} (h : dpt f a n = some D) : D ≤ n := by
  induction n generalizing D with
  | zero => rw [dpt] at h; cases h; exact Nat.le_refl 0
  | succ n ih =>
    rw [dpt] at h
    cases hq : dpt f a n with
    | none => rw [hq] at h; cases h
    | some e =>
      have := ih hq
      rw [hq] at h
      unfold stp at h
      dsimp only at h
      split at h
      · cases h; omega
      · split at h
        · split at h <;> cases h; omega
        · split at h
          · split at h <;> cases h; omega
          · split at h
            · split at h <;> cases h; omega
            · cases h
/-- what the next code is, where the whole text stands -/
theorem dpt_next {f : Nat → Int32} {a n m D E : Nat} (h : dpt f a n = some D) (hm : n < m) (h2 : dpt f a m = some E) : (0 ≤ (f (a + n)).toInt ∧ (f (a + n)).toInt < 1005 ∧ dpt f a (n + 1) = some (D + 1)) ∨ ((f (a + n)).toInt = 2008 ∧ 1 ≤ D ∧ dpt f a (n + 1) = some D) ∨ ((f (a + n)).toInt = 2009 ∧ 3 ≤ D ∧ dpt f a (n + 1) = some (D - 2)) ∨ (2000 ≤ (f (a + n)).toInt ∧ (f (a + n)).toInt < 2008 ∧ 2 ≤ D ∧ dpt f a (n + 1) = some (D - 1)) := by
  have hs : ∃ e, dpt f a (n + 1) = some e := by
    obtain ⟨k, rfl⟩ : ∃ k, m = n + 1 + k := ⟨m - (n + 1), by omega⟩
    clear hm h
    induction k generalizing E with
    | zero => exact ⟨E, h2⟩
    | succ k ih =>
      rw [show n + 1 + (k + 1) = (n + 1 + k) + 1 by omega, dpt] at h2
      cases hq : dpt f a (n + 1 + k) with
      | none => rw [hq] at h2; cases h2
      | some e => exact ih hq
  obtain ⟨e, he⟩ := hs
  have h3 := he
  rw [dpt, h] at h3
  rw [he]
  unfold stp at h3
  dsimp only at h3
  split at h3
  · rename_i q; cases h3; exact Or.inl ⟨q.1, q.2, rfl⟩
  · split at h3
    · rename_i q; split at h3 <;> cases h3; exact Or.inr (Or.inl ⟨q, by omega, rfl⟩)
    · split at h3
      · rename_i q; split at h3 <;> cases h3; exact Or.inr (Or.inr (Or.inl ⟨q, by omega, rfl⟩))
      · split at h3
        · rename_i q; split at h3 <;> cases h3; exact Or.inr (Or.inr (Or.inr ⟨q.1, q.2, by omega, rfl⟩))
        · cases h3
def WT (f : Nat → Int32) : Prop := ∀ u : Nat, u < 3 → ∃ n D : Nat, n ≤ 48 ∧ (f (345 + 50 * u)).toInt = (n : Int) ∧ dpt f (345 + 50 * u + 1) n = some D
def NW5 (f : Nat → Int32) : Prop := (∀ k, PN k (f k)) ∧ WT f
def IN12 (k : Nat) (v : Int32) : Prop := match k with
  | 9 => 0 ≤ v.toInt ∧ v.toInt ≤ 48
  | 10 => 0 ≤ v.toInt ∧ v.toInt ≤ 2
  | 11 => 0 ≤ v.toInt ∧ v.toInt ≤ 5
  | 13 => 0 ≤ v.toInt ∧ v.toInt ≤ 1
  | 14 => 0 ≤ v.toInt ∧ v.toInt ≤ 49
  | 22 => -1 ≤ v.toInt ∧ v.toInt ≤ 7
  | 26 => 0 ≤ v.toInt ∧ v.toInt ≤ 30
  | 27 => 0 ≤ v.toInt ∧ v.toInt ≤ 7
  | 28 => 0 ≤ v.toInt ∧ v.toInt ≤ 1
  | _ => True
abbrev EAq : List Int32 := [0, 1, 1, 1, 0, -1, -1, -1]
abbrev SOq : List Int32 := [-1, -1, 0, 1, 1, 1, 0, -1]
def IND (r k : Nat) (v : Int32) : Prop := match r with
  | 12 => IN12 k v
  | 54 => k < 8 → v = EAq.getD k 0
  | 55 => k < 8 → v = SOq.getD k 0
  | 67 => 0 ≤ v.toInt ∧ v.toInt ≤ 24
  | _ => True
def InvD (M : mM) : Prop := (∀ (c : rf) (k : Nat), IND c.1 k (M.1 c k)) ∧ NW5 (M.1 (50, 0, 0)) ∧ NW5 (M.1 (51, 0, 0)) ∧ NW5 (M.1 (52, 0, 0))
theorem InvD.put {M M' : mM} {c : rf} {k : Nat} {v : Int32} (h : InvD M) (he : M' = up M c k v) (hv : IND c.1 k v ∧ (c.1 < 50 ∨ 52 < c.1)) : InvD M' := by
  subst he
  have hn : ∀ r : Nat, 50 ≤ r → r ≤ 52 → ((r, 0, 0) : rf) ≠ c := fun r h1 h2 q => by
    have h3 := hv.2
    rw [← q] at h3
    dsimp only at h3
    omega
  refine ⟨fun c' k' => ?_, ?_, ?_, ?_⟩
  · by_cases e : c' = c ∧ k' = k
    · rw [e.1, e.2, up_same]; exact hv.1
    · rw [up_ne e]; exact h.1 c' k'
  · rw [up_other k v (hn 50 (by omega) (by omega))]; exact h.2.1
  · rw [up_other k v (hn 51 (by omega) (by omega))]; exact h.2.2.1
  · rw [up_other k v (hn 52 (by omega) (by omega))]; exact h.2.2.2
theorem WT_upd {f : Nat → Int32} {k : Nat} {v : Int32} (h : WT f) (hk : k < 345 ∨ 493 < k) : WT (upd f k v) := by
  intro u hu
  obtain ⟨n, D, h1, h2, h3⟩ := h u hu
  have hx : ∀ j, 345 ≤ j → j ≤ 493 → upd f k v j = f j := fun j a b => if_neg (by omega)
  exact ⟨n, D, h1, by rw [hx _ (by omega) (by omega)]; exact h2, by rw [dpt_cong n (fun i hi => hx _ (by omega) (by omega))]; exact h3⟩
theorem PN_upd {f : Nat → Int32} {k : Nat} {v : Int32} (h : ∀ k, PN k (f k)) (hv : PN k v) : ∀ j, PN j (upd f k v j) := fun j => by
  unfold upd
  by_cases e : j = k
  · rw [if_pos e, e]; exact hv
  · rw [if_neg e]; exact h j
/-- a number of 'now' is written: not in a text -/
theorem InvD.put50 {M M' : mM} {k : Nat} {v : Int32} (h : InvD M) (he : M' = up M (50, 0, 0) k v) (hv : PN k v ∧ (k < 345 ∨ 493 < k)) : InvD M' := by
  subst he
  refine ⟨fun c' k' => ?_, ?_, ?_, ?_⟩
  · by_cases e : c' = (50, 0, 0) ∧ k' = k
    · rw [e.1, e.2, up_same]; trivial
    · rw [up_ne e]; exact h.1 c' k'
  · rw [up_row]; exact ⟨PN_upd h.2.1.1 hv.1, WT_upd h.2.1.2 hv.2⟩
  · rw [up_other k v (by decide)]; exact h.2.2.1
  · rw [up_other k v (by decide)]; exact h.2.2.2
/-- reading -/
theorem pn_1 {M : mM} {z : Int32} (h : InvD M) (hz : z = M.1 (50, 0, 0) 1) : 0 ≤ z.toInt ∧ z.toInt ≤ 40 := by rw [hz]; exact (h.2.1.1 1).1 rfl
theorem pn_2 {M : mM} {z : Int32} (h : InvD M) (hz : z = M.1 (50, 0, 0) 2) : 0 ≤ z.toInt ∧ z.toInt ≤ 8 := by rw [hz]; exact (h.2.1.1 2).2.1 rfl
theorem pn_3 {M : mM} {z : Int32} (h : InvD M) (hz : z = M.1 (50, 0, 0) 3) : 0 ≤ z.toInt ∧ z.toInt ≤ 7 := by rw [hz]; exact (h.2.1.1 3).2.2.1 rfl
theorem pn_4 {M : mM} {z : Int32} (h : InvD M) (hz : z = M.1 (50, 0, 0) 4) : 0 ≤ z.toInt ∧ z.toInt ≤ 48 := by rw [hz]; exact (h.2.1.1 4).2.2.2.1 rfl
theorem pn_5 {M : mM} {z : Int32} (h : InvD M) (hz : z = M.1 (50, 0, 0) 5) : 0 ≤ z.toInt ∧ z.toInt ≤ 24 := by rw [hz]; exact (h.2.1.1 5).2.2.2.2.1 rfl
theorem pn_ls {M : mM} {z : Int32} {j : Nat} (h : InvD M) (hz : z = M.1 (50, 0, 0) j) (hj : 9 ≤ j ∧ j ≤ 18) : 0 ≤ z.toInt ∧ z.toInt ≤ 99 := by rw [hz]; exact (h.2.1.1 j).2.2.2.2.2.1 hj.1 hj.2
theorem pn_tk {M : mM} {z : Int32} {j : Nat} (h : InvD M) (hz : z = M.1 (50, 0, 0) j) (hj : 20 ≤ j ∧ j < 180 ∧ j % 4 = 0) : 0 ≤ z.toInt ∧ z.toInt ≤ 4 := by rw [hz]; exact ((h.2.1.1 j).2.2.2.2.2.2.1 hj.1 hj.2.1).1 hj.2.2
theorem pn_tc {M : mM} {z : Int32} {j : Nat} (h : InvD M) (hz : z = M.1 (50, 0, 0) j) (hj : 20 ≤ j ∧ j < 180 ∧ j % 4 = 1) : -1 ≤ z.toInt ∧ z.toInt ≤ 191 := by rw [hz]; exact ((h.2.1.1 j).2.2.2.2.2.2.1 hj.1 hj.2.1).2.1 hj.2.2
theorem pn_ts {M : mM} {z : Int32} {j : Nat} (h : InvD M) (hz : z = M.1 (50, 0, 0) j) (hj : 20 ≤ j ∧ j < 180 ∧ j % 4 = 2) : 0 ≤ z.toInt ∧ z.toInt ≤ 7 := by rw [hz]; exact ((h.2.1.1 j).2.2.2.2.2.2.1 hj.1 hj.2.1).2.2 hj.2.2
theorem pn_wk {M : mM} {z : Int32} {j : Nat} (h : InvD M) (hz : z = M.1 (50, 0, 0) j) (hj : 180 ≤ j ∧ j < 252 ∧ j % 9 = 0) : 0 ≤ z.toInt ∧ z.toInt ≤ 7 := by rw [hz]; exact ((h.2.1.1 j).2.2.2.2.2.2.2 hj.1 hj.2.1).1 hj.2.2
theorem pn_wc {M : mM} {z : Int32} {j : Nat} (h : InvD M) (hz : z = M.1 (50, 0, 0) j) (hj : 180 ≤ j ∧ j < 252 ∧ j % 9 = 1) : 0 ≤ z.toInt ∧ z.toInt ≤ 191 := by rw [hz]; exact ((h.2.1.1 j).2.2.2.2.2.2.2 hj.1 hj.2.1).2.1 hj.2.2
theorem pn_ws {M : mM} {z : Int32} {j : Nat} (h : InvD M) (hz : z = M.1 (50, 0, 0) j) (hj : 180 ≤ j ∧ j < 252 ∧ j % 9 = 2) : 0 ≤ z.toInt ∧ z.toInt ≤ 7 := by rw [hz]; exact ((h.2.1.1 j).2.2.2.2.2.2.2 hj.1 hj.2.1).2.2 hj.2.2
theorem pn_67 {M : mM} {z : Int32} {j : Nat} (h : InvD M) (hz : z = M.1 (67, 0, 0) j) : 0 ≤ z.toInt ∧ z.toInt ≤ 24 := by rw [hz]; exact h.1 (67, 0, 0) j
theorem ea_bnd : ∀ j, j < 8 → -1 ≤ (EAq.getD j 0).toInt ∧ (EAq.getD j 0).toInt ≤ 1 := by decide +kernel
theorem so_bnd : ∀ j, j < 8 → -1 ≤ (SOq.getD j 0).toInt ∧ (SOq.getD j 0).toInt ≤ 1 := by decide +kernel
/-- sizes of a sheet are small -/
def SZ (f : Nat → Int32) (s : Int32) (hi : Int) : Prop := ∀ j : Nat, (j : Int) = s.toInt → (f j).toInt ≤ hi
/-! where a side leads -/
def onX (c s y : Int32) : Int32 := (c - c / 16 * 16) + y * EAq.getD s.toInt.toNat 0
def onY (c s y : Int32) : Int32 := c / 16 + y * SOq.getD s.toInt.toNat 0
def onIn (c s y : Int32) : Prop := (0 ≤ (onX c s y).toInt ∧ (onX c s y).toInt ≤ 15) ∧ (0 ≤ (onY c s y).toInt ∧ (onY c s y).toInt ≤ 11)
def onP (c s y r : Int32) : Prop := (onIn c s y ∧ r.toInt = 16 * (onY c s y).toInt + (onX c s y).toInt) ∨ (¬ onIn c s y ∧ r.toInt = -1)
theorem onP_bnd {c s y r : Int32} (h : onP c s y r) : -1 ≤ r.toInt ∧ r.toInt ≤ 191 := by
  unfold onP onIn at h
  omega
theorem onP_in {c s y r : Int32} (h : onP c s y r) (h0 : 0 ≤ r.toInt) : onIn c s y := by
  rcases h with h | h
  · exact h.1
  · omega
theorem onP_of {c s y r : Int32} (h : onP c s y r) (h0 : onIn c s y) : 0 ≤ r.toInt := by
  rcases h with h | h
  · have := h.1; unfold onIn at this; omega
  · exact absurd h0 h.1
