/-! what is kept -/
theorem LWR_keep {b : Nat} {q q2 : rf → Nat → Int32} {n n2 : Nat → Int32} (h : LWR b q n) (hq : ∀ (r k : Nat), r = 10 ∧ k = 7 ∨ r = 2 ∨ r = 26 ∨ r = 27 → q2 (r, b, 0) k = q (r, b, 0) k) (hn : ∀ j, j = 0 ∨ (6 ≤ j ∧ j < 20) → n2 j = n j) : LWR b q2 n2 :=
  ⟨by rw [hq 10 7 (by simp), hn 0 (by omega)]; exact h.1, fun k hk => by rw [hq 2 k (by simp), hn _ (by omega)]; exact h.2.1 k hk, fun k hk => by rw [hq 26 k (by simp), hq 27 k (by simp), hn _ (by omega), hn _ (by omega)]; exact h.2.2 k hk⟩
theorem THR_keep {b : Nat} {q q2 : rf → Nat → Int32} {n n2 : Nat → Int32} (h : THR b q n) (hb : nTh n ≤ 40) (hq : ∀ (r k : Nat), r = 7 ∧ k = 5 ∨ r = 36 ∨ r = 37 ∨ r = 38 ∨ r = 39 → q2 (r, b, 0) k = q (r, b, 0) k) (hn : ∀ j, j = 1 ∨ (20 ≤ j ∧ j < 180) → n2 j = n j) : THR b q2 n2 := by
  have e : nTh n2 = nTh n := by unfold nTh; rw [hn 1 (by omega)]
  refine ⟨by rw [hq 7 5 (by simp), hn 1 (by omega)]; exact h.1, fun t ht => ?_⟩
  rw [e] at ht
  rw [hq 36 t (by simp), hq 37 t (by simp), hq 38 t (by simp), hq 39 t (by simp), hn _ (by omega), hn _ (by omega), hn _ (by omega), hn _ (by omega)]
  exact h.2 t ht
theorem WAR_keep {b : Nat} {q q2 : rf → Nat → Int32} {n n2 : Nat → Int32} (h : WAR b q n) (hb : nWa n ≤ 8) (hq : ∀ (r w k : Nat), r = 9 ∨ r = 40 ∨ r = 41 → q2 (r, b, w) k = q (r, b, w) k) (hc : q2 (10, b, 0) 6 = q (10, b, 0) 6) (hn : ∀ j, j = 2 ∨ (180 ≤ j ∧ j < 252) ∨ (495 ≤ j ∧ j < 3567) → n2 j = n j) : WAR b q2 n2 := by
  have e : nWa n2 = nWa n := by unfold nWa; rw [hn 2 (by omega)]
  refine ⟨by rw [hc, hn 2 (by omega)]; exact h.1, fun w hw => ?_⟩
  rw [e] at hw
  refine ⟨fun k hk => ?_, fun c hc => ?_⟩
  · rw [hq 9 w k (by simp), hn _ (by omega)]; exact (h.2 w hw).1 k hk
  · rw [hq 40 w c (by simp), hq 41 w c (by simp), hn _ (by omega), hn _ (by omega)]; exact (h.2 w hw).2 c hc
theorem TXR_keep {b : Nat} {q q2 : rf → Nat → Int32} {n n2 : Nat → Int32} (h : TXR b q n) (hz : ∀ u, u < 3 → (n (345 + 50 * u)).toInt ≤ 48) (hq : ∀ (r u k : Nat), r = 1 ∨ r = 24 → u < 3 → q2 (r, b, u) k = q (r, b, u) k) (hn : ∀ j, 345 ≤ j → j < 495 → n2 j = n j) : TXR b q2 n2 := fun u hu => by
  have hs := hz u hu
  rw [hq 1 u 2 (by simp) hu, hn _ (by omega) (by omega)]
  refine ⟨(h u hu).1, fun i hi => ?_⟩
  rw [hq 24 u i (by simp) hu, hn _ (by omega) (by omega)]
  exact (h u hu).2 i hi
theorem OCC_keep {b : Nat} {q q2 : rf → Nat → Int32} {n n2 : Nat → Int32} (h : OCC b q n) (ht : nTh n ≤ 40) (hw : nWa n ≤ 8) (hq : ∀ k, q2 (35, b, 0) k = q (35, b, 0) k) (hn1 : ∀ j, j = 1 ∨ (20 ≤ j ∧ j < 180 ∧ j % 4 = 1) → n2 j = n j) (hn2 : ∀ j, j = 2 ∨ (180 ≤ j ∧ j < 252 ∧ j % 9 = 1) → n2 j = n j) : OCC b q2 n2 := by
  have eo : occ b q2 = occ b q := funext fun k => by unfold occ; rw [hq]
  have et : nTh n2 = nTh n := by unfold nTh; rw [hn1 1 (by omega)]
  have ew : nWa n2 = nWa n := by unfold nWa; rw [hn2 2 (by omega)]
  have tc : ∀ t : Nat, (t : Int) < nTh n → tcl n2 t = tcl n t := fun t h => by unfold tcl; rw [hn1 _ (by omega)]
  have wc : ∀ t : Nat, (t : Int) < nWa n → wcl n2 t = wcl n t := fun t h => by unfold wcl; rw [hn2 _ (by omega)]
  obtain ⟨h1, h2, h3⟩ := h
  unfold OCC
  rw [eo, et, ew]
  refine ⟨fun t a c => ?_, fun w a => ?_, fun c hc => ?_⟩
  · rw [tc t a] at c ⊢; exact h1 t a c
  · rw [wc w a]; exact h2 w a
  · rcases h3 c hc with o | ⟨o1, o2, o3⟩ | ⟨o1, o2, o3⟩
    · exact Or.inl o
    · exact Or.inr (Or.inl ⟨o1, o2, by rw [tc _ (by omega)]; exact o3⟩)
    · exact Or.inr (Or.inr ⟨o1, o2, by rw [wc _ (by omega)]; exact o3⟩)
theorem MIR_keep {n n2 : Nat → Int32} (h : MIR n) (ht : nTh n ≤ 40) (hb : nWa n ≤ 8) (hn : ∀ j, j = 1 ∨ j = 2 ∨ (20 ≤ j ∧ j < 180 ∧ (j % 4 = 0 ∨ j % 4 = 3)) ∨ (180 ≤ j ∧ j < 252 ∧ (j % 9 = 3 ∨ j % 9 = 4)) → n2 j = n j) (hz : ∀ w : Nat, nWa n ≤ (w : Int) → w < 8 → (∀ k, k < 9 → n2 (180 + 9 * w + k) = n (180 + 9 * w + k)) ∧ (∀ c, c < 384 → n2 (495 + 384 * w + c) = n (495 + 384 * w + c))) : MIR n2 := by
  have et : nTh n2 = nTh n := by unfold nTh; rw [hn 1 (by omega)]
  have ew : nWa n2 = nWa n := by unfold nWa; rw [hn 2 (by omega)]
  obtain ⟨h1, h2, h3⟩ := h
  unfold MIR
  rw [et, ew]
  refine ⟨fun w hw => ?_, fun t hh => ?_, fun w a c => ⟨fun k hk => ?_, fun k hk => ?_⟩⟩
  · rw [hn _ (by omega), hn _ (by omega)]; exact h1 w hw
  · rw [hn _ (by omega), hn _ (by omega)]; exact h2 t hh
  · rw [(hz w a c).1 k hk]; exact (h3 w a c).1 k hk
  · rw [(hz w a c).2 k hk]; exact (h3 w a c).2 k hk
theorem TXz {n : Nat → Int32} (h : NW5 n) : ∀ u, u < 3 → (n (345 + 50 * u)).toInt ≤ 48 := fun u hu => by
  obtain ⟨m, D, h1, h2, h3⟩ := h.2 u hu
  omega
/-- scratch cells of the class change -/
theorem WRR_q {b : Nat} {q q2 : rf → Nat → Int32} {n : Nat → Int32} (h : WRR b q n) (hN : NW5 n) (hq : ∀ (c : rf) (k : Nat), c.1 ≠ 25 → c.1 ≠ 29 → q2 c k = q c k) : WRR b q2 n :=
  ⟨LWR_keep h.1 (fun r k hr => hq _ _ (by dsimp only; omega) (by dsimp only; omega)) (fun _ _ => rfl),
   THR_keep h.2.1 (nTh_b hN).2 (fun r k hr => hq _ _ (by dsimp only; omega) (by dsimp only; omega)) (fun _ _ => rfl),
   WAR_keep h.2.2.1 (nWa_b hN).2 (fun r w k hr => hq _ _ (by dsimp only; omega) (by dsimp only; omega)) (hq _ _ (by first | decide | simp | (dsimp only; omega)) (by first | decide | simp | (dsimp only; omega))) (fun _ _ => rfl),
   TXR_keep h.2.2.2.1 (TXz hN) (fun r u k hr hu => hq _ _ (by dsimp only; omega) (by dsimp only; omega)) (fun _ _ _ => rfl),
   OCC_keep h.2.2.2.2.1 (nTh_b hN).2 (nWa_b hN).2 (fun k => hq _ _ (by first | decide | simp | (dsimp only; omega)) (by first | decide | simp | (dsimp only; omega))) (fun _ _ => rfl) (fun _ _ => rfl), h.2.2.2.2.2⟩
theorem updN {f : Nat → Int32} {k j : Nat} {x : Int32} (h : ¬ j = k) : upd f k x j = f j := if_neg h
theorem updE {f : Nat → Int32} {k j : Nat} {x : Int32} (h : j = k) : upd f k x j = x := if_pos h
/-! two loops that go along with each other -/
theorem RTC_cnt {α : Type} {S : α → α → Prop} {f : α → Int} {N : Int} (hS : ∀ x z, S x z → f x < N ∧ f z = f x + 1) {a : α} : ∀ (n : Nat) (z : α), RTC S a n z → f z = f a + n ∧ (0 < n → f z ≤ N)
  | 0, z, h => by
    have e : a = z := h
    subst e
    exact ⟨by omega, fun q => absurd q (Nat.lt_irrefl 0)⟩
  | n + 1, z, h => by
    obtain ⟨x, h1, h2⟩ := h
    have ih := RTC_cnt hS n x h1
    have s := hS x z h2
    exact ⟨by omega, fun _ => by omega⟩
theorem lock {α β : Type} {S : α → α → Prop} {T : β → β → Prop} (f : α → Int) (g : β → Int) (R : α → β → Prop) (N : Int) {a z : α} {b w : β} (ha : RCH S a z) (hb : RCH T b w)
    (hS : ∀ x z, S x z → f x < N ∧ f z = f x + 1) (hT : ∀ x z, T x z → g x < N ∧ g z = g x + 1) (h0 : R a b) (hf : f a = g b) (hz : N ≤ f z) (hw : N ≤ g w)
    (hst : ∀ x z y w, R x y → f x = g y → S x z → T y w → R z w) : R z w := by
  obtain ⟨n, hn⟩ := ha
  obtain ⟨m, hm⟩ := hb
  have c1 := RTC_cnt hS _ _ hn
  have c2 := RTC_cnt hT _ _ hm
  have e : n = m := by
    rcases Nat.eq_zero_or_pos n with q | q <;> rcases Nat.eq_zero_or_pos m with p | p
    · omega
    · have := c2.2 p; omega
    · have := c1.2 q; omega
    · have := c2.2 p; have := c1.2 q; omega
  subst e
  clear c1 c2 hz hw
  induction n generalizing z w with
  | zero =>
    have e1 : a = z := hn
    have e2 : b = w := hm
    subst e1 e2
    exact h0
  | succ n ih =>
    obtain ⟨x, h1, h2⟩ := hn
    obtain ⟨y, g1, g2⟩ := hm
    have d1 := (RTC_cnt hS _ _ h1).1
    have d2 := (RTC_cnt hT _ _ g1).1
    exact hst x z y w (ih h1 g1) (by omega) h2 g2
