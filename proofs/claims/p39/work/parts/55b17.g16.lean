/-! what a call does to both worlds -/
theorem cne {r b w r2 b2 w2 : Nat} (h : ¬ r = r2) : ¬ ((r, b, w) : rf) = (r2, b2, w2) := fun z => h (congrArg (fun c : rf => c.1) z)
/-- a thing comes -/
theorem WRR_add {b t cell : Nat} {q q2 : rf → Nat → Int32} {n n2 : Nat → Int32} (h : WRR b q n) (hN : NW5 n) (ht : nTh n = (t : Int)) (h40 : t < 40) (hc : cell < 192) (hf : occ b q cell = -1)
    (hq : ∀ (c : rf) (k : Nat), wR c.1 → ¬ (c.1 = 36 ∨ c.1 = 37 ∨ c.1 = 38 ∨ c.1 = 39) → ¬ (c = (35, b, 0) ∧ k = cell) → ¬ (c = (7, b, 0) ∧ k = 5) → q2 c k = q c k) (hq2 : ∀ r k, 36 ≤ r → r ≤ 39 → ¬ k = t → q2 (r, b, 0) k = q (r, b, 0) k)
    (hn : ∀ j, ¬ j = 1 → j < 20 + 4 * t ∨ 24 + 4 * t ≤ j → n2 j = n j) (e7 : q2 (7, b, 0) 5 = n2 1) (e1 : (n2 1).toInt = (t : Int) + 1) (e36 : q2 (36, b, 0) t = n2 (20 + 4 * t)) (e37 : q2 (37, b, 0) t = n2 (21 + 4 * t)) (e38 : q2 (38, b, 0) t = n2 (22 + 4 * t)) (e39 : q2 (39, b, 0) t = n2 (23 + 4 * t)) (ec : (n2 (21 + 4 * t)).toInt = (cell : Int)) (es : (n2 (23 + 4 * t)).toInt = 0) (e35 : (q2 (35, b, 0) cell).toInt = (t : Int)) : WRR b q2 n2 := by
  have b1 := nTh_b hN
  have b2 := nWa_b hN
  have qq : ∀ (r u k : Nat), wR r → r ≠ 36 → r ≠ 37 → r ≠ 38 → r ≠ 39 → r ≠ 35 → r ≠ 7 → q2 (r, b, u) k = q (r, b, u) k := fun r u k h0 h1 h2 h3 h4 h5 h6 => hq _ _ h0 (by dsimp only; omega) (fun z => h5 (congrArg (fun c : rf => c.1) z.1)) (fun z => h6 (congrArg (fun c : rf => c.1) z.1))
  have et : nTh n2 = (t : Int) + 1 := e1
  have ew : nWa n2 = nWa n := by unfold nWa; rw [hn 2 (by omega) (by omega)]
  have tN : ∀ s : Nat, s < t → tcl n2 s = tcl n s := fun s hs => by unfold tcl; rw [hn _ (by omega) (by omega)]
  have tE : tcl n2 t = (cell : Int) := ec
  have wN : ∀ w : Nat, (w : Int) < nWa n → wcl n2 w = wcl n w := fun w hw => by unfold wcl; rw [hn _ (by omega) (by omega)]
  have oN : ∀ k, ¬ k = cell → occ b q2 k = occ b q k := fun k hk => by unfold occ; rw [hq (35, b, 0) k (by unfold wR; dsimp only; omega) (by simp) (fun z => hk z.2) (fun z => cne (by omega) z.1)]
  refine ⟨LWR_keep h.1 (fun r k hr => qq _ _ _ (by unfold wR; omega) (by omega) (by omega) (by omega) (by omega) (by omega) (by omega)) (fun j hj => hn j (by omega) (by omega)), ⟨e7, fun s hs => ?_⟩, WAR_keep h.2.2.1 b2.2 (fun r w k hr => qq _ _ _ (by unfold wR; omega) (by omega) (by omega) (by omega) (by omega) (by omega) (by omega)) (qq _ _ _ (by unfold wR; omega) (by omega) (by omega) (by omega) (by omega) (by omega) (by omega)) (fun j hj => hn j (by omega) (by omega)),
    TXR_keep h.2.2.2.1 (TXz hN) (fun r u k hr hu => qq _ _ _ (by unfold wR; omega) (by omega) (by omega) (by omega) (by omega) (by omega) (by omega)) (fun j h1 h2 => hn j (by omega) (by omega)), ?_, ?_⟩
  · rw [et] at hs
    by_cases z : s = t
    · subst z
      exact ⟨e36, e37, e38, e39⟩
    · have g := h.2.1.2 s (by omega)
      rw [hq2 36 s (by omega) (by omega) z, hq2 37 s (by omega) (by omega) z, hq2 38 s (by omega) (by omega) z, hq2 39 s (by omega) (by omega) z, hn _ (by omega) (by omega), hn _ (by omega) (by omega), hn _ (by omega) (by omega), hn _ (by omega) (by omega)]
      exact g
  · obtain ⟨h1, h2, h3⟩ := h.2.2.2.2.1
    unfold OCC
    rw [et, ew]
    refine ⟨fun s hs hp => ?_, fun w hw => ?_, fun c hcc => ?_⟩
    · by_cases z : s = t
      · rw [z, tE, Int.toNat_natCast]; exact e35
      · rw [tN s (by omega)] at hp ⊢
        have g := h1 s (by omega) hp
        rw [oN _ (fun y => by rw [y] at g; omega)]; exact g
    · rw [wN w hw]
      have g := h2 w hw
      rw [oN _ (fun y => by rw [y] at g; omega)]; exact g
    · by_cases z : c = cell
      · have e : occ b q2 c = (t : Int) := by rw [z]; exact e35
        rw [e]
        exact Or.inr (Or.inl ⟨by omega, by omega, by rw [Int.toNat_natCast, tE, z]⟩)
      · rw [oN c z]
        rcases h3 c hcc with o | ⟨o1, o2, o3⟩ | ⟨o1, o2, o3⟩
        · exact Or.inl o
        · exact Or.inr (Or.inl ⟨o1, by omega, by rw [tN _ (by omega)]; exact o3⟩)
        · exact Or.inr (Or.inr ⟨o1, o2, by rw [wN _ (by omega)]; exact o3⟩)
  · obtain ⟨h1, h2, h3⟩ := h.2.2.2.2.2
    unfold MIR
    rw [et, ew]
    refine ⟨fun w hw => by rw [hn _ (by omega) (by omega), hn _ (by omega) (by omega)]; exact h1 w hw, fun s hs => ?_, fun w a c => ⟨fun k hk => by rw [hn _ (by omega) (by omega)]; exact (h3 w a c).1 k hk, fun k hk => by rw [hn _ (by omega) (by omega)]; exact (h3 w a c).2 k hk⟩⟩
    by_cases z : s = t
    · rw [z, es]; exact ⟨by omega, fun _ => rfl⟩
    · rw [hn _ (by omega) (by omega), hn _ (by omega) (by omega)]; exact h2 s (by omega)
/-- a walker comes -/
theorem WRR_addw {b w cell : Nat} {q q2 : rf → Nat → Int32} {n n2 : Nat → Int32} (h : WRR b q n) (hN : NW5 n) (hw : nWa n = (w : Int)) (h8 : w < 8) (hc : cell < 192) (hf : occ b q cell = -1)
    (hq : ∀ (c : rf) (k : Nat), wR c.1 → ¬ c = (9, b, w) → ¬ c = (40, b, w) → ¬ c = (41, b, w) → ¬ (c = (35, b, 0) ∧ k = cell) → ¬ (c = (10, b, 0) ∧ k = 6) → q2 c k = q c k)
    (hn : ∀ j, ¬ j = 2 → j < 180 + 9 * w ∨ 185 + 9 * w ≤ j → n2 j = n j) (e10 : q2 (10, b, 0) 6 = n2 2) (e2 : (n2 2).toInt = (w : Int) + 1) (e9 : ∀ k, k < 5 → q2 (9, b, w) k = n2 (180 + 9 * w + k)) (e9z : ∀ k, 5 ≤ k → k < 9 → q2 (9, b, w) k = 0) (e40 : ∀ k, k < 192 → q2 (40, b, w) k = 0 ∧ q2 (41, b, w) k = 0)
    (ec : (n2 (181 + 9 * w)).toInt = (cell : Int)) (ep : (1 ≤ (n2 (183 + 9 * w)).toInt ∧ (n2 (183 + 9 * w)).toInt ≤ 9) ∧ (1 ≤ (n2 (184 + 9 * w)).toInt ∧ (n2 (184 + 9 * w)).toInt ≤ 99)) (e35 : (q2 (35, b, 0) cell).toInt = 100 + (w : Int)) : WRR b q2 n2 := by
  have b1 := nTh_b hN
  have b2 := nWa_b hN
  have qq : ∀ (r u k : Nat), wR r → r ≠ 9 → r ≠ 40 → r ≠ 41 → r ≠ 35 → r ≠ 10 → q2 (r, b, u) k = q (r, b, u) k := fun r u k h0 h1 h2 h3 h4 h5 => hq _ _ h0 (cne h1) (cne h2) (cne h3) (fun z => cne h4 z.1) (fun z => cne h5 z.1)
  have et : nTh n2 = nTh n := by unfold nTh; rw [hn 1 (by omega) (by omega)]
  have ew : nWa n2 = (w : Int) + 1 := e2
  have tN : ∀ s : Nat, (s : Int) < nTh n → tcl n2 s = tcl n s := fun s hs => by unfold tcl; rw [hn _ (by omega) (by omega)]
  have wN : ∀ u : Nat, ¬ u = w → wcl n2 u = wcl n u := fun u hu => by unfold wcl; rw [hn _ (by omega) (by omega)]
  have wE : wcl n2 w = (cell : Int) := ec
  have oN : ∀ k, ¬ k = cell → occ b q2 k = occ b q k := fun k hk => by unfold occ; rw [hq (35, b, 0) k (by unfold wR; dsimp only; omega) (cne (by omega)) (cne (by omega)) (cne (by omega)) (fun z => hk z.2) (fun z => cne (by omega) z.1)]
  obtain ⟨m1, m2, m3⟩ := h.2.2.2.2.2
  have mz := m3 w (by omega) h8
  refine ⟨⟨?_, fun k hk => ?_, fun k hk => ?_⟩, THR_keep h.2.1 b1.2 (fun r k hr => qq _ _ _ (by unfold wR; omega) (by omega) (by omega) (by omega) (by omega) (by omega)) (fun j hj => hn j (by omega) (by omega)), ⟨e10, fun u hu => ?_⟩,
    TXR_keep h.2.2.2.1 (TXz hN) (fun r u k hr hu => qq _ _ _ (by unfold wR; omega) (by omega) (by omega) (by omega) (by omega) (by omega)) (fun j h1 h2 => hn j (by omega) (by omega)), ?_, ?_⟩
  · rw [hq (10, b, 0) 7 (by unfold wR; dsimp only; omega) (cne (by omega)) (cne (by omega)) (cne (by omega)) (fun z => cne (by omega) z.1) (fun z => absurd z.2 (by omega)), hn 0 (by omega) (by omega)]; exact h.1.1
  · rw [qq 2 0 k (by unfold wR; omega) (by omega) (by omega) (by omega) (by omega) (by omega), hn _ (by omega) (by omega)]; exact h.1.2.1 k hk
  · rw [qq 26 0 k (by unfold wR; omega) (by omega) (by omega) (by omega) (by omega) (by omega), qq 27 0 k (by unfold wR; omega) (by omega) (by omega) (by omega) (by omega) (by omega), hn _ (by omega) (by omega), hn _ (by omega) (by omega)]; exact h.1.2.2 k hk
  · rw [ew] at hu
    by_cases z : u = w
    · subst z
      refine ⟨fun k hk => ?_, fun c hcc => ?_⟩
      · by_cases y : k < 5
        · exact e9 k y
        · rw [e9z k (by omega) hk, hn _ (by omega) (by omega)]; exact (mz.1 k hk).symm
      · have z1 := mz.2 c (by omega)
        have z2 := mz.2 (192 + c) (by omega)
        rw [(e40 c hcc).1, (e40 c hcc).2, hn _ (by omega) (by omega), hn _ (by omega) (by omega), z1]
        rw [show 495 + 384 * u + (192 + c) = 687 + 384 * u + c by omega] at z2
        exact ⟨rfl, z2.symm⟩
    · have g := h.2.2.1.2 u (by omega)
      refine ⟨fun k hk => ?_, fun c hcc => ?_⟩
      · rw [hq _ _ (by unfold wR; dsimp only; omega) (fun y => z (congrArg (fun c : rf => c.2.2) y)) (cne (by omega)) (cne (by omega)) (fun y => cne (by omega) y.1) (fun y => cne (by omega) y.1), hn _ (by omega) (by omega)]; exact g.1 k hk
      · rw [hq (40, b, u) c (by unfold wR; dsimp only; omega) (cne (by omega)) (fun y => z (congrArg (fun c : rf => c.2.2) y)) (cne (by omega)) (fun y => cne (by omega) y.1) (fun y => cne (by omega) y.1), hq (41, b, u) c (by unfold wR; dsimp only; omega) (cne (by omega)) (cne (by omega)) (fun y => z (congrArg (fun c : rf => c.2.2) y)) (fun y => cne (by omega) y.1) (fun y => cne (by omega) y.1), hn _ (by omega) (by omega), hn _ (by omega) (by omega)]
        exact g.2 c hcc
  · obtain ⟨h1, h2, h3⟩ := h.2.2.2.2.1
    unfold OCC
    rw [et, ew]
    refine ⟨fun s hs hp => ?_, fun u hu => ?_, fun c hcc => ?_⟩
    · rw [tN s hs] at hp ⊢
      have g := h1 s hs hp
      rw [oN _ (fun y => by rw [y] at g; omega)]; exact g
    · by_cases z : u = w
      · rw [z, wE, Int.toNat_natCast]; exact e35
      · rw [wN u z]
        have g := h2 u (by omega)
        rw [oN _ (fun y => by rw [y] at g; omega)]; exact g
    · by_cases z : c = cell
      · have e : occ b q2 c = 100 + (w : Int) := by rw [z]; exact e35
        rw [e]
        exact Or.inr (Or.inr ⟨by omega, by omega, by rw [show (100 + (w : Int) - 100).toNat = w by omega, wE, z]⟩)
      · rw [oN c z]
        rcases h3 c hcc with o | ⟨o1, o2, o3⟩ | ⟨o1, o2, o3⟩
        · exact Or.inl o
        · exact Or.inr (Or.inl ⟨o1, o2, by rw [tN _ (by omega)]; exact o3⟩)
        · exact Or.inr (Or.inr ⟨o1, by omega, by rw [wN _ (by omega)]; exact o3⟩)
  · unfold MIR
    rw [et, ew]
    refine ⟨fun u hu => ?_, fun s hs => by rw [hn _ (by omega) (by omega), hn _ (by omega) (by omega)]; exact m2 s hs, fun u a c => ⟨fun k hk => by rw [hn _ (by omega) (by omega)]; exact (m3 u (by omega) c).1 k hk, fun k hk => by rw [hn _ (by omega) (by omega)]; exact (m3 u (by omega) c).2 k hk⟩⟩
    by_cases z : u = w
    · rw [z]; exact ep
    · rw [hn _ (by omega) (by omega), hn _ (by omega) (by omega)]; exact m1 u (by omega)
/-- a thing is away -/
theorem WRR_away {b t c0 : Nat} {M D : mM} (h : WRR b M.1 (D.1 (50, 0, 0))) (hN : NW5 (D.1 (50, 0, 0))) (ht : (t : Int) < nTh (D.1 (50, 0, 0))) (h0 : tcl (D.1 (50, 0, 0)) t = (c0 : Int)) :
    WRR b (up (up M (35, b, 0) c0 (-1)) (37, b, 0) t (-1)).1 ((up D (50, 0, 0) (21 + 4 * t) (-1)).1 (50, 0, 0)) := by
  have b1 := nTh_b hN
  have b2 := nWa_b hN
  rw [up_row]
  have nn : ∀ j, ¬ j = 21 + 4 * t → upd (D.1 (50, 0, 0)) (21 + 4 * t) (-1) j = D.1 (50, 0, 0) j := fun j hj => updN hj
  have qq : ∀ (c : rf) (k : Nat), ¬ c.1 = 35 → ¬ c.1 = 37 → (up (up M (35, b, 0) c0 (-1)) (37, b, 0) t (-1)).1 c k = M.1 c k := fun c k h1 h2 => by
    rw [zupR rfl h2, zupR rfl h1]
  refine ⟨LWR_keep h.1 (fun r k hr => qq _ _ (by dsimp only; omega) (by dsimp only; omega)) (fun j hj => nn j (by omega)), ?_, WAR_keep h.2.2.1 b2.2 (fun r w k hr => qq _ _ (by dsimp only; omega) (by dsimp only; omega)) (qq _ _ (by simp) (by simp)) (fun j hj => nn j (by omega)),
    TXR_keep h.2.2.2.1 (TXz hN) (fun r u k hr hu => qq _ _ (by dsimp only; omega) (by dsimp only; omega)) (fun j h1 h2 => nn j (by omega)), ?_, MIR_keep h.2.2.2.2.2 b1.2 b2.2 (fun j hj => nn j (by omega)) (fun w h1 h2 => ⟨fun k hk => nn _ (by omega), fun c hc => nn _ (by omega)⟩)⟩
  · have g := THR_one (q2 := (up (up M (35, b, 0) c0 (-1)) (37, b, 0) t (-1)).1) (t := t) (f := 1) (x := -1) h.2.1 b1.2 (by omega) (qq _ _ (by simp) (by simp)) (fun g k hg => by
      by_cases e : g = 1 ∧ k = t
      · rw [if_pos e]; exact zupE rfl (by rw [e.1]) e.2
      · rw [if_neg e, zupN rfl (fun z => e ⟨by have := congrArg (fun c : rf => c.1) z.1; dsimp only at this; omega, z.2⟩), zupR rfl (by dsimp only; omega)])
    rw [show 20 + 4 * t + 1 = 21 + 4 * t by omega] at g
    exact g
  · obtain ⟨h1, h2, h3⟩ := h.2.2.2.2.1
    have o0 := h1 t ht (by omega)
    rw [h0, Int.toNat_natCast] at o0
    have ho : ∀ k, occ b (up (up M (35, b, 0) c0 (-1)) (37, b, 0) t (-1)).1 k = if k = c0 then -1 else occ b M.1 k := fun k => by
      unfold occ
      rw [zupR (c' := (35, b, 0)) rfl (by simp)]
      by_cases e2 : k = c0
      · rw [if_pos e2, zupE rfl rfl e2]; exact il_m1
      · rw [if_neg e2, zupN rfl (fun z => e2 z.2)]
    have et : nTh (upd (D.1 (50, 0, 0)) (21 + 4 * t) (-1)) = nTh (D.1 (50, 0, 0)) := by unfold nTh; rw [nn _ (by omega)]
    have ew : nWa (upd (D.1 (50, 0, 0)) (21 + 4 * t) (-1)) = nWa (D.1 (50, 0, 0)) := by unfold nWa; rw [nn _ (by omega)]
    have tE : tcl (upd (D.1 (50, 0, 0)) (21 + 4 * t) (-1)) t = -1 := by unfold tcl; rw [updE rfl]; exact il_m1
    have tN : ∀ s : Nat, ¬ s = t → tcl (upd (D.1 (50, 0, 0)) (21 + 4 * t) (-1)) s = tcl (D.1 (50, 0, 0)) s := fun s hs => by unfold tcl; rw [nn _ (by omega)]
    have wN : ∀ w : Nat, wcl (upd (D.1 (50, 0, 0)) (21 + 4 * t) (-1)) w = wcl (D.1 (50, 0, 0)) w := fun w => by unfold wcl; rw [nn _ (by omega)]
    unfold OCC
    rw [et, ew]
    refine ⟨fun s hs hp => ?_, fun w hw => ?_, fun c hc => ?_⟩
    · by_cases e : s = t
      · rw [e, tE] at hp; omega
      · rw [tN s e] at hp ⊢
        have g := h1 s hs hp
        rw [ho, if_neg (fun z => by rw [z] at g; omega)]
        exact g
    · rw [wN]
      have g := h2 w hw
      rw [ho, if_neg (fun z => by rw [z] at g; omega)]
      exact g
    · rw [ho]
      by_cases e2 : c = c0
      · rw [if_pos e2]; exact Or.inl rfl
      · rw [if_neg e2]
        rcases h3 c hc with o | ⟨o1, o2, o3⟩ | ⟨o1, o2, o3⟩
        · exact Or.inl o
        · refine Or.inr (Or.inl ⟨o1, o2, ?_⟩)
          rw [tN _ (fun z => by rw [z, h0] at o3; omega)]
          exact o3
        · exact Or.inr (Or.inr ⟨o1, o2, by rw [wN]; exact o3⟩)
