/-! worlds alike, all of them -/
def wR (r : Nat) : Prop := r = 1 ∨ r = 2 ∨ r = 7 ∨ r = 9 ∨ r = 10 ∨ r = 24 ∨ r = 26 ∨ r = 27 ∨ (30 ≤ r ∧ r ≤ 33) ∨ (35 ≤ r ∧ r ≤ 41)
def LER (b : Nat) (q : rf → Nat → Int32) (n : Nat → Int32) : Prop := ∀ l : Nat, (l : Int) < (n 3).toInt → q (30, b, 0) l = n (252 + 3 * l) ∧ q (31, b, 0) l = n (253 + 3 * l) ∧ q (32, b, 0) l = n (254 + 3 * l)
def TAR (b : Nat) (q : rf → Nat → Int32) (n : Nat → Int32) : Prop := ∀ i : Nat, (i : Int) < (n 4).toInt → q (33, b, 0) i = n (273 + i) ∧ 0 ≤ (n (273 + i)).toInt ∧ (n (273 + i)).toInt ≤ 255
def WTR (b : Nat) (q : rf → Nat → Int32) (n : Nat → Int32) : Prop := ∀ i : Nat, (i : Int) < (n 5).toInt → q (33, b, 1) i = n (321 + i)
def RW (b : Nat) (q : rf → Nat → Int32) (n : Nat → Int32) : Prop := WRR b q n ∧ LER b q n ∧ TAR b q n ∧ WTR b q n
theorem n345_b {n : Nat → Int32} (h : NW5 n) : (0 ≤ (n 3).toInt ∧ (n 3).toInt ≤ 7) ∧ (0 ≤ (n 4).toInt ∧ (n 4).toInt ≤ 48) ∧ (0 ≤ (n 5).toInt ∧ (n 5).toInt ≤ 24) := ⟨(h.1 3).2.2.1 rfl, (h.1 4).2.2.2.1 rfl, (h.1 5).2.2.2.2.1 rfl⟩
theorem LER_keep {b : Nat} {q q2 : rf → Nat → Int32} {n n2 : Nat → Int32} (h : LER b q n) (hb : (n 3).toInt ≤ 7) (hq : ∀ r k, r = 30 ∨ r = 31 ∨ r = 32 → q2 (r, b, 0) k = q (r, b, 0) k) (hn : ∀ j, j = 3 ∨ (252 ≤ j ∧ j < 273) → n2 j = n j) : LER b q2 n2 := fun l hl => by
  rw [hn 3 (by omega)] at hl
  rw [hq 30 l (by omega), hq 31 l (by omega), hq 32 l (by omega), hn _ (by omega), hn _ (by omega), hn _ (by omega)]
  exact h l hl
theorem TAR_keep {b : Nat} {q q2 : rf → Nat → Int32} {n n2 : Nat → Int32} (h : TAR b q n) (hb : (n 4).toInt ≤ 48) (hq : ∀ k, q2 (33, b, 0) k = q (33, b, 0) k) (hn : ∀ j, j = 4 ∨ (273 ≤ j ∧ j < 321) → n2 j = n j) : TAR b q2 n2 := fun l hl => by
  rw [hn 4 (by omega)] at hl
  rw [hq l, hn _ (by omega)]
  exact h l hl
theorem WTR_keep {b : Nat} {q q2 : rf → Nat → Int32} {n n2 : Nat → Int32} (h : WTR b q n) (hb : (n 5).toInt ≤ 24) (hq : ∀ k, q2 (33, b, 1) k = q (33, b, 1) k) (hn : ∀ j, j = 5 ∨ (321 ≤ j ∧ j < 345) → n2 j = n j) : WTR b q2 n2 := fun l hl => by
  rw [hn 5 (by omega)] at hl
  rw [hq l, hn _ (by omega)]
  exact h l hl
theorem WRR_same {b : Nat} {q q2 : rf → Nat → Int32} {n : Nat → Int32} (h : WRR b q n) (hN : NW5 n) (hq : ∀ (c : rf) (k : Nat), wR c.1 → c.2.1 = b → q2 c k = q c k) : WRR b q2 n :=
  ⟨LWR_keep h.1 (fun r k hr => hq _ _ (by unfold wR; dsimp only; omega) rfl) (fun _ _ => rfl),
   THR_keep h.2.1 (nTh_b hN).2 (fun r k hr => hq _ _ (by unfold wR; dsimp only; omega) rfl) (fun _ _ => rfl),
   WAR_keep h.2.2.1 (nWa_b hN).2 (fun r w k hr => hq _ _ (by unfold wR; dsimp only; omega) rfl) (hq _ _ (by unfold wR; dsimp only; omega) rfl) (fun _ _ => rfl),
   TXR_keep h.2.2.2.1 (TXz hN) (fun r u k hr hu => hq _ _ (by unfold wR; dsimp only; omega) rfl) (fun _ _ _ => rfl),
   OCC_keep h.2.2.2.2.1 (nTh_b hN).2 (nWa_b hN).2 (fun k => hq _ _ (by unfold wR; dsimp only; omega) rfl) (fun _ _ => rfl) (fun _ _ => rfl), h.2.2.2.2.2⟩
theorem RW_same {b : Nat} {q q2 : rf → Nat → Int32} {n : Nat → Int32} (h : RW b q n) (hN : NW5 n) (hq : ∀ (c : rf) (k : Nat), wR c.1 → c.2.1 = b → q2 c k = q c k) : RW b q2 n :=
  ⟨WRR_same h.1 hN hq, LER_keep h.2.1 (n345_b hN).1.2 (fun r k hr => hq _ _ (by unfold wR; dsimp only; omega) rfl) (fun _ _ => rfl), TAR_keep h.2.2.1 (n345_b hN).2.1.2 (fun k => hq _ _ (by unfold wR; dsimp only; omega) rfl) (fun _ _ => rfl), WTR_keep h.2.2.2 (n345_b hN).2.2.2 (fun k => hq _ _ (by unfold wR; dsimp only; omega) rfl) (fun _ _ => rfl)⟩
/-- what is behind a tenth, where the rest stays -/
theorem RW_of {b : Nat} {q q2 : rf → Nat → Int32} {n n2 : Nat → Int32} (h : RW b q n) (hN : NW5 n) (hw : WRR b q2 n2) (hq : ∀ (c : rf) (k : Nat), c.1 = 30 ∨ c.1 = 31 ∨ c.1 = 32 ∨ c.1 = 33 → q2 c k = q c k) (hn : ∀ j, j = 3 ∨ j = 4 ∨ j = 5 ∨ (252 ≤ j ∧ j < 345) → n2 j = n j) : RW b q2 n2 :=
  ⟨hw, LER_keep h.2.1 (n345_b hN).1.2 (fun r k hr => hq _ _ (by dsimp only; omega)) (fun j hj => hn j (by omega)), TAR_keep h.2.2.1 (n345_b hN).2.1.2 (fun k => hq _ _ (by dsimp only; omega)) (fun j hj => hn j (by omega)), WTR_keep h.2.2.2 (n345_b hN).2.2.2 (fun k => hq _ _ (by dsimp only; omega)) (fun j hj => hn j (by omega))⟩
/-- numbers of a thing change, not its cell -/
theorem WRR_thf {b t : Nat} {q q2 : rf → Nat → Int32} {n n2 : Nat → Int32} (h : WRR b q n) (hN : NW5 n) (ht : (t : Int) < nTh n) (hq : ∀ (c : rf) (k : Nat), ¬ ((c = (36, b, 0) ∨ c = (38, b, 0) ∨ c = (39, b, 0)) ∧ k = t) → wR c.1 → q2 c k = q c k) (hn : ∀ j, ¬ (j = 20 + 4 * t ∨ j = 22 + 4 * t ∨ j = 23 + 4 * t) → n2 j = n j)
    (e : q2 (36, b, 0) t = n2 (20 + 4 * t) ∧ q2 (38, b, 0) t = n2 (22 + 4 * t) ∧ q2 (39, b, 0) t = n2 (23 + 4 * t)) (hm : 0 ≤ (n2 (23 + 4 * t)).toInt ∧ ((n2 (20 + 4 * t)).toInt < 3 → (n2 (23 + 4 * t)).toInt = 0)) : WRR b q2 n2 := by
  have b1 := nTh_b hN
  have b2 := nWa_b hN
  have qq : ∀ (r u k : Nat), wR r → r ≠ 36 → r ≠ 38 → r ≠ 39 → q2 (r, b, u) k = q (r, b, u) k := fun r u k h0 h1 h2 h3 => hq _ _ (fun z => by
    rcases z.1 with z | z | z
    · exact h1 (congrArg (fun c : rf => c.1) z)
    · exact h2 (congrArg (fun c : rf => c.1) z)
    · exact h3 (congrArg (fun c : rf => c.1) z)) h0
  have et : nTh n2 = nTh n := by unfold nTh; rw [hn 1 (by omega)]
  have ew : nWa n2 = nWa n := by unfold nWa; rw [hn 2 (by omega)]
  refine ⟨LWR_keep h.1 (fun r k hr => qq _ _ _ (by unfold wR; omega) (by omega) (by omega) (by omega)) (fun j hj => hn j (by omega)), ?_, WAR_keep h.2.2.1 b2.2 (fun r w k hr => qq _ _ _ (by unfold wR; omega) (by omega) (by omega) (by omega)) (qq _ _ _ (by unfold wR; omega) (by omega) (by omega) (by omega)) (fun j hj => hn j (by omega)),
    TXR_keep h.2.2.2.1 (TXz hN) (fun r u k hr hu => qq _ _ _ (by unfold wR; omega) (by omega) (by omega) (by omega)) (fun j h1 h2 => hn j (by omega)), OCC_keep h.2.2.2.2.1 b1.2 b2.2 (fun k => qq _ _ _ (by unfold wR; omega) (by omega) (by omega) (by omega)) (fun j hj => hn j (by omega)) (fun j hj => hn j (by omega)), ?_⟩
  · refine ⟨by rw [qq 7 0 5 (by unfold wR; omega) (by omega) (by omega) (by omega), hn 1 (by omega)]; exact h.2.1.1, fun s hs => ?_⟩
    rw [et] at hs
    have g := h.2.1.2 s hs
    by_cases z : s = t
    · subst z
      exact ⟨e.1, by rw [qq 37 0 s (by unfold wR; omega) (by omega) (by omega) (by omega), hn _ (by omega)]; exact g.2.1, e.2.1, e.2.2⟩
    · rw [hq _ _ (fun y => z y.2) (by unfold wR; dsimp only; omega), hq _ _ (fun y => z y.2) (by unfold wR; dsimp only; omega), hq _ _ (fun y => z y.2) (by unfold wR; dsimp only; omega), hq _ _ (fun y => z y.2) (by unfold wR; dsimp only; omega), hn _ (by omega), hn _ (by omega), hn _ (by omega), hn _ (by omega)]
      exact g
  · obtain ⟨h1, h2, h3⟩ := h.2.2.2.2.2
    unfold MIR
    rw [et, ew]
    refine ⟨fun w hw => by rw [hn _ (by omega), hn _ (by omega)]; exact h1 w hw, fun s hs => ?_, fun w a c => ⟨fun k hk => by rw [hn _ (by omega)]; exact (h3 w a c).1 k hk, fun k hk => by rw [hn _ (by omega)]; exact (h3 w a c).2 k hk⟩⟩
    by_cases z : s = t
    · rw [z]; exact hm
    · rw [hn _ (by omega), hn _ (by omega)]; exact h2 s hs
/-- numbers of a walker change, not its cell -/
theorem WRR_wkf {b w : Nat} {q q2 : rf → Nat → Int32} {n n2 : Nat → Int32} (h : WRR b q n) (hN : NW5 n) (hw : (w : Int) < nWa n) (hq : ∀ (c : rf) (k : Nat), ¬ (c = (9, b, w) ∧ k ≠ 1) → wR c.1 → q2 c k = q c k) (hn : ∀ j, (j < 180 + 9 * w ∨ 189 + 9 * w ≤ j ∨ j = 181 + 9 * w) → n2 j = n j)
    (e : ∀ k, k < 9 → k ≠ 1 → q2 (9, b, w) k = n2 (180 + 9 * w + k)) (hm : (1 ≤ (n2 (183 + 9 * w)).toInt ∧ (n2 (183 + 9 * w)).toInt ≤ 9) ∧ (1 ≤ (n2 (184 + 9 * w)).toInt ∧ (n2 (184 + 9 * w)).toInt ≤ 99)) : WRR b q2 n2 := by
  have b1 := nTh_b hN
  have b2 := nWa_b hN
  have qq : ∀ (r u k : Nat), wR r → r ≠ 9 → q2 (r, b, u) k = q (r, b, u) k := fun r u k h0 h1 => hq _ _ (fun z => h1 (congrArg (fun c : rf => c.1) z.1)) h0
  have et : nTh n2 = nTh n := by unfold nTh; rw [hn 1 (by omega)]
  have ew : nWa n2 = nWa n := by unfold nWa; rw [hn 2 (by omega)]
  refine ⟨LWR_keep h.1 (fun r k hr => qq _ _ _ (by unfold wR; omega) (by omega)) (fun j hj => hn j (by omega)), THR_keep h.2.1 b1.2 (fun r k hr => qq _ _ _ (by unfold wR; omega) (by omega)) (fun j hj => hn j (by omega)), ?_,
    TXR_keep h.2.2.2.1 (TXz hN) (fun r u k hr hu => qq _ _ _ (by unfold wR; omega) (by omega)) (fun j h1 h2 => hn j (by omega)), OCC_keep h.2.2.2.2.1 b1.2 b2.2 (fun k => qq _ _ _ (by unfold wR; omega) (by omega)) (fun j hj => hn j (by omega)) (fun j hj => hn j (by omega)), ?_⟩
  · refine ⟨by rw [qq 10 0 6 (by unfold wR; omega) (by omega), hn 2 (by omega)]; exact h.2.2.1.1, fun u hu => ?_⟩
    rw [ew] at hu
    have g := h.2.2.1.2 u hu
    refine ⟨fun k hk => ?_, fun c hc => by rw [qq 40 u c (by unfold wR; omega) (by omega), qq 41 u c (by unfold wR; omega) (by omega), hn _ (by omega), hn _ (by omega)]; exact g.2 c hc⟩
    by_cases z : u = w
    · subst z
      by_cases y : k = 1
      · subst y
        rw [hq _ _ (fun x => x.2 rfl) (by unfold wR; dsimp only; omega), hn _ (by omega)]; exact g.1 1 hk
      · exact e k hk y
    · rw [hq _ _ (fun x => z (congrArg (fun c : rf => c.2.2) x.1)) (by unfold wR; dsimp only; omega), hn _ (by omega)]; exact g.1 k hk
  · obtain ⟨h1, h2, h3⟩ := h.2.2.2.2.2
    unfold MIR
    rw [et, ew]
    refine ⟨fun u hu => ?_, fun s hs => by rw [hn _ (by omega), hn _ (by omega)]; exact h2 s hs, fun u a c => ⟨fun k hk => by rw [hn _ (by omega)]; exact (h3 u a c).1 k hk, fun k hk => by rw [hn _ (by omega)]; exact (h3 u a c).2 k hk⟩⟩
    by_cases z : u = w
    · rw [z]; exact hm
    · rw [hn _ (by omega), hn _ (by omega)]; exact h1 u hu
