/-! a walker goes on -/
theorem OCC_wmove {b : Nat} {q q2 : rf → Nat → Int32} {n : Nat → Int32} {w : Nat} {x : Int32} {to c0 : Nat} (h : OCC b q n) (hN : nTh n ≤ 40) (hW : nWa n ≤ 8) (hw : (w : Int) < nWa n) (h0 : wcl n w = (c0 : Int)) (hx : x.toInt = (to : Int)) (hto : to < 192) (hf : occ b q to = -1)
    (ho : ∀ k, occ b q2 k = if k = to then 100 + (w : Int) else if k = c0 then -1 else occ b q k) : OCC b q2 (upd n (181 + 9 * w) x) := by
  obtain ⟨h1, h2, h3⟩ := h
  have o0 := h2 w hw
  rw [h0, Int.toNat_natCast] at o0
  have et : nTh (upd n (181 + 9 * w) x) = nTh n := by unfold nTh; rw [updN (by omega)]
  have ew : nWa (upd n (181 + 9 * w) x) = nWa n := by unfold nWa; rw [updN (by omega)]
  have wE : wcl (upd n (181 + 9 * w) x) w = (to : Int) := by unfold wcl; rw [updE rfl]; exact hx
  have wN : ∀ s : Nat, ¬ s = w → wcl (upd n (181 + 9 * w) x) s = wcl n s := fun s hs => by unfold wcl; rw [updN (by omega)]
  have tN : ∀ t : Nat, (t : Int) < nTh n → tcl (upd n (181 + 9 * w) x) t = tcl n t := fun t ht => by unfold tcl; rw [updN (by omega)]
  unfold OCC
  rw [et, ew]
  refine ⟨fun s hs hp => ?_, fun u hu => ?_, fun c hc => ?_⟩
  · rw [tN s hs] at hp ⊢
    have g := h1 s hs hp
    rw [ho, if_neg (fun z => by rw [z] at g; omega), if_neg (fun z => by rw [z] at g; omega)]
    exact g
  · by_cases e : u = w
    · rw [e, wE, ho, if_pos (by omega)]
    · rw [wN u e]
      have g := h2 u hu
      rw [ho, if_neg (fun z => by rw [z] at g; omega), if_neg (fun z => by rw [z] at g; omega)]
      exact g
  · rw [ho]
    by_cases e : c = to
    · rw [if_pos e]
      exact Or.inr (Or.inr ⟨by omega, by omega, by rw [show (100 + (w : Int) - 100).toNat = w by omega, wE, e]⟩)
    · rw [if_neg e]
      by_cases e2 : c = c0
      · rw [if_pos e2]; exact Or.inl rfl
      · rw [if_neg e2]
        rcases h3 c hc with o | ⟨o1, o2, o3⟩ | ⟨o1, o2, o3⟩
        · exact Or.inl o
        · exact Or.inr (Or.inl ⟨o1, o2, by rw [tN _ (by omega)]; exact o3⟩)
        · refine Or.inr (Or.inr ⟨o1, o2, ?_⟩)
          rw [wN _ (fun z => by rw [z, h0] at o3; omega)]
          exact o3
theorem WRR_wmove {b : Nat} {M D : mM} {w to c0 : Nat} {x i : Int32} (h : WRR b M.1 (D.1 (50, 0, 0))) (hN : NW5 (D.1 (50, 0, 0))) (hw : (w : Int) < nWa (D.1 (50, 0, 0))) (hi : i.toInt = 100 + (w : Int)) (h0 : wcl (D.1 (50, 0, 0)) w = (c0 : Int)) (hx : x.toInt = (to : Int)) (hto : to < 192) (hf : occ b M.1 to = -1) :
    WRR b (up (up (up M (35, b, 0) c0 (-1)) (35, b, 0) to i) (9, b, w) 1 x).1 ((up D (50, 0, 0) (181 + 9 * w) x).1 (50, 0, 0)) := by
  have b1 := nTh_b hN
  have b2 := nWa_b hN
  rw [up_row]
  have nn : ∀ j, ¬ j = 181 + 9 * w → upd (D.1 (50, 0, 0)) (181 + 9 * w) x j = D.1 (50, 0, 0) j := fun j hj => updN hj
  have qq : ∀ (c : rf) (k : Nat), ¬ c.1 = 35 → ¬ c.1 = 9 → (up (up (up M (35, b, 0) c0 (-1)) (35, b, 0) to i) (9, b, w) 1 x).1 c k = M.1 c k := fun c k h1 h2 => by
    rw [zupR rfl h2, zupR rfl h1, zupR rfl h1]
  have ew : nWa (upd (D.1 (50, 0, 0)) (181 + 9 * w) x) = nWa (D.1 (50, 0, 0)) := by unfold nWa; rw [nn 2 (by omega)]
  refine ⟨LWR_keep h.1 (fun r k hr => qq _ _ (by dsimp only; omega) (by dsimp only; omega)) (fun j hj => nn j (by omega)), THR_keep h.2.1 b1.2 (fun r k hr => qq _ _ (by dsimp only; omega) (by dsimp only; omega)) (fun j hj => nn j (by omega)), ?_,
    TXR_keep h.2.2.2.1 (TXz hN) (fun r u k hr hu => qq _ _ (by dsimp only; omega) (by dsimp only; omega)) (fun j h1 h2 => nn j (by omega)), ?_, MIR_keep h.2.2.2.2.2 b1.2 b2.2 (fun j hj => nn j (by omega)) (fun u h1 h2 => ⟨fun k hk => nn _ (by omega), fun c hc => nn _ (by omega)⟩)⟩
  · refine ⟨by rw [qq _ _ (by simp) (by simp), nn 2 (by omega)]; exact h.2.2.1.1, fun u hu => ⟨fun k hk => ?_, fun c hc => ?_⟩⟩
    · rw [ew] at hu
      by_cases e : u = w ∧ k = 1
      · rw [e.1, e.2, zupE rfl rfl rfl, updE (by omega)]
      · rw [zupN rfl (fun z => e ⟨congrArg (fun c : rf => c.2.2) z.1, z.2⟩), zupR rfl (by simp), zupR rfl (by simp), nn _ (by omega)]; exact (h.2.2.1.2 u hu).1 k hk
    · rw [ew] at hu
      rw [qq _ _ (by simp) (by simp), qq _ _ (by simp) (by simp), nn _ (by omega), nn _ (by omega)]
      exact (h.2.2.1.2 u hu).2 c hc
  · refine OCC_wmove h.2.2.2.2.1 b1.2 b2.2 hw h0 hx hto hf (fun k => ?_)
    unfold occ
    rw [zupR (c' := (35, b, 0)) rfl (by simp)]
    by_cases e : k = to
    · rw [if_pos e, zupE rfl rfl e]; exact hi
    · rw [if_neg e, zupN rfl (fun z => e z.2)]
      by_cases e2 : k = c0
      · rw [if_pos e2, zupE rfl rfl e2]; exact il_m1
      · rw [if_neg e2, zupN rfl (fun z => e2 z.2)]
/-- two loops that stop together -/
theorem RTC_pre {α : Type} {S : α → α → Prop} {a : α} : ∀ (n m : Nat) (z : α), n < m → RTC S a m z → ∃ y y', RTC S a n y ∧ S y y'
  | n, 0, _, h, _ => absurd h (Nat.not_lt_zero n)
  | n, m + 1, z, h, ⟨x, h1, h2⟩ => by
    rcases Nat.lt_or_ge n m with q | q
    · exact RTC_pre n m x q h1
    · obtain rfl : n = m := by omega
      exact ⟨x, z, h1, h2⟩
theorem lockE {α β : Type} {S : α → α → Prop} {T : β → β → Prop} (R : α → β → Prop) {a z : α} {b w : β} (ha : RCH S a z) (hb : RCH T b w) (h0 : R a b)
    (hst : ∀ x z y w, R x y → S x z → T y w → R z w) (n1 : ∀ y y', R z y → T y y' → False) (n2 : ∀ x x', R x w → S x x' → False) : R z w := by
  obtain ⟨n, hn⟩ := ha
  obtain ⟨m, hm⟩ := hb
  have all : ∀ (k : Nat) (x : α) (y : β), RTC S a k x → RTC T b k y → R x y := fun k => by
    induction k with
    | zero =>
      intro x y h1 h2
      have e1 : a = x := h1
      have e2 : b = y := h2
      subst e1 e2
      exact h0
    | succ k ih =>
      rintro x y ⟨x0, h1, h2⟩ ⟨y0, g1, g2⟩
      exact hst x0 x y0 y (ih x0 y0 h1 g1) h2 g2
  rcases Nat.lt_trichotomy n m with q | q | q
  · obtain ⟨y, y', h1, h2⟩ := RTC_pre n m w q hm
    exact (n1 y y' (all n z y hn h1) h2).elim
  · subst q
    exact all n z w hn hm
  · obtain ⟨x, x', h1, h2⟩ := RTC_pre m n z q hn
    exact (n2 x x' (all m x w h1 hm) h2).elim
/-- a number of a head's yes changes -/
theorem WRR_yes {b w k : Nat} {M D : mM} {x : Int32} (h : WRR b M.1 (D.1 (50, 0, 0))) (hN : NW5 (D.1 (50, 0, 0))) (hw : (w : Int) < nWa (D.1 (50, 0, 0))) (hk : k < 192) : WRR b (up M (40, b, w) k x).1 ((up D (50, 0, 0) (495 + 384 * w + k) x).1 (50, 0, 0)) := by
  rw [up_row]
  refine WRR_heads h hN hw (fun c j h1 h2 h3 h4 => by rw [up_other _ _ h3]) (fun j hj => updN (by omega)) (fun j hj => ⟨?_, ?_⟩)
  · by_cases e : j = k
    · rw [updE (by omega)]; exact zupE rfl rfl e
    · rw [updN (by omega), zupN rfl (fun z => e z.2)]; exact ((h.2.2.1.2 w hw).2 j hj).1
  · rw [updN (by omega), zupR rfl (by simp)]; exact ((h.2.2.1.2 w hw).2 j hj).2
def goR (b : Nat) (v : Int32) (M D : mM) : Prop := WRR b M.1 (D.1 (50, 0, 0)) ∧ InvD D ∧ (D.1 (12, 0, 0) 7).toInt = -1 ∧ v.toInt < nWa (D.1 (50, 0, 0))
theorem free_both {b : Nat} {c s r r2 f g : Int32} {M D : mM} (h1 : SP_X7_cellFrom c s 1 M r) (h2 : SP_X7_isFree b r M f) (h3 : onP c s 1 r2) (h4 : 0 ≤ r2.toInt → SP_X12_isFree r2 D g) (hO : OCC b M.1 (D.1 (50, 0, 0))) (hu : (D.1 (12, 0, 0) 7).toInt = -1) (hc : 0 ≤ c.toInt ∧ c.toInt ≤ 191) (hs : 0 ≤ s.toInt ∧ s.toInt ≤ 7) :
    r = r2 ∧ (-1 ≤ r.toInt ∧ r.toInt ≤ 191) ∧ ((f.toInt = 1 ∧ 0 ≤ r.toInt ∧ g.toInt = 1 ∧ occ b M.1 r.toInt.toNat = -1) ∨ (f.toInt = 0 ∧ (r.toInt < 0 ∨ (0 ≤ r.toInt ∧ g.toInt = 0)))) := by
  have q1 := il_1
  have cf := cF_spec h1
  have on := on_spec h3 hc hs (by omega)
  have ob := onI_b (c := c.toInt) (s := s.toInt) (y := (1 : Int32).toInt)
  obtain rfl : r = r2 := i32e (by omega)
  have fr := x7free h2
  refine ⟨rfl, by omega, ?_⟩
  by_cases p : 0 ≤ r.toInt
  · have gr := x12free (h4 p) hO (by omega) (by omega)
    omega
  · omega
