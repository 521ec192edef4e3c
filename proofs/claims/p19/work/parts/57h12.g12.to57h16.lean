section
/-! a walker goes on -/
theorem OCC_wmove {b : Nat} {q q2 : rf → Nat → Int32} {n : Nat → Int32} {w : Nat} {x : Int32} {to c0 : Nat} (h : OCC b q n) (hN : nTh n ≤ 40) (hW : nWa n ≤ 8) (hw : (w : Int) < nWa n) (h0 : wcl n w = (c0 : Int)) (hx : x.toInt = (to : Int)) (hto : to < 192) (hf : occ b q to = -1)
    (ho : ∀ k, occ b q2 k = if k = to then 100 + (w : Int) else if k = c0 then -1 else occ b q k) : OCC b q2 (upd n (181 + 9 * w) x) := by
  obtain ⟨h1, h2, h3⟩ := h
  have o0 := h2 w hw
  rw [h0, Int.toNat_natCast] at o0
  have et : nTh (upd n (181 + 9 * w) x) = nTh n := by unfold nTh; rw [updN (by omega)]
  have ew : nWa (upd n (181 + 9 * w) x) = nWa n := by unfold nWa; rw [updN (by omega)]
  have wE : wcl (upd n (181 + 9 * w) x) w = (to : Int) := by unfold wcl; rw [updE rfl]; exact hx
  have wN : ∀ s : Nat, ¬ s = w → wcl (upd n (181 + 9 * w) x) s = wcl n s := fun s hs => by unfold wcl; rw [updN (by omega)]
  have tN : ∀ t : Nat, (t : Int) < nTh n → tcl (upd n (181 + 9 * w) x) t = tcl n t := fun t ht => by unfold tcl; rw [updN (by omega)]
  unfold OCC
  rw [et, ew]
  refine ⟨fun s hs hp => ?_, fun u hu => ?_, fun c hc => ?_⟩
  · rw [tN s hs] at hp ⊢
    have g := h1 s hs hp
    rw [ho, if_neg (fun z => by rw [z] at g; omega), if_neg (fun z => by rw [z] at g; omega)]
    exact g
  · by_cases e : u = w
    · rw [e, wE, ho, if_pos (by omega)]
    · rw [wN u e]
      have g := h2 u hu
      rw [ho, if_neg (fun z => by rw [z] at g; omega), if_neg (fun z => by rw [z] at g; omega)]
      exact g
  · rw [ho]
    by_cases e : c = to
    · rw [if_pos e]
      exact Or.inr (Or.inr ⟨by omega, by omega, by rw [show (100 + (w : Int) - 100).toNat = w by omega, wE, e]⟩)
    · rw [if_neg e]
      by_cases e2 : c = c0
      · rw [if_pos e2]; exact Or.inl rfl
      · rw [if_neg e2]
        rcases h3 c hc with o | ⟨o1, o2, o3⟩ | ⟨o1, o2, o3⟩
        · exact Or.inl o
        · exact Or.inr (Or.inl ⟨o1, o2, by rw [tN _ (by omega)]; exact o3⟩)
        · refine Or.inr (Or.inr ⟨o1, o2, ?_⟩)
          rw [wN _ (fun z => by rw [z, h0] at o3; omega)]
          exact o3
theorem WRR_wmove {b : Nat} {M D : mM} {w to c0 : Nat} {x i : Int32} (h : WRR b M.1 (D.1 (50, 0, 0))) (hN : NW5 (D.1 (50, 0, 0))) (hw : (w : Int) < nWa (D.1 (50, 0, 0))) (hi : i.toInt = 100 + (w : Int)) (h0 : wcl (D.1 (50, 0, 0)) w = (c0 : Int)) (hx : x.toInt = (to : Int)) (hto : to < 192) (hf : occ b M.1 to = -1) :
    WRR b (up (up (up M (35, b, 0) c0 (-1)) (35, b, 0) to i) (9, b, w) 1 x).1 ((up D (50, 0, 0) (181 + 9 * w) x).1 (50, 0, 0)) := by
  have b1 := nTh_b hN
  have b2 := nWa_b hN
  rw [up_row]
  have nn : ∀ j, ¬ j = 181 + 9 * w → upd (D.1 (50, 0, 0)) (181 + 9 * w) x j = D.1 (50, 0, 0) j := fun j hj => updN hj
  have qq : ∀ (c : rf) (k : Nat), ¬ c.1 = 35 → ¬ c.1 = 9 → (up (up (up M (35, b, 0) c0 (-1)) (35, b, 0) to i) (9, b, w) 1 x).1 c k = M.1 c k := fun c k h1 h2 => by
    rw [zupR rfl h2, zupR rfl h1, zupR rfl h1]
  have ew : nWa (upd (D.1 (50, 0, 0)) (181 + 9 * w) x) = nWa (D.1 (50, 0, 0)) := by unfold nWa; rw [nn 2 (by omega)]
  refine ⟨LWR_keep h.1 (fun r k hr => qq _ _ (by dsimp only; omega) (by dsimp only; omega)) (fun j hj => nn j (by omega)), THR_keep h.2.1 b1.2 (fun r k hr => qq _ _ (by dsimp only; omega) (by dsimp only; omega)) (fun j hj => nn j (by omega)), ?_,
    TXR_keep h.2.2.2.1 (TXz hN) (fun r u k hr hu => qq _ _ (by dsimp only; omega) (by dsimp only; omega)) (fun j h1 h2 => nn j (by omega)), ?_, MIR_keep h.2.2.2.2.2 b1.2 b2.2 (fun j hj => nn j (by omega)) (fun u h1 h2 => ⟨fun k hk => nn _ (by omega), fun c hc => nn _ (by omega)⟩)⟩
  · refine ⟨by rw [qq _ _ (by simp) (by simp), nn 2 (by omega)]; exact h.2.2.1.1, fun u hu => ⟨fun k hk => ?_, fun c hc => ?_⟩⟩
    · rw [ew] at hu
      by_cases e : u = w ∧ k = 1
      · rw [e.1, e.2, zupE rfl rfl rfl, updE (by omega)]
      · rw [zupN rfl (fun z => e ⟨congrArg (fun c : rf => c.2.2) z.1, z.2⟩), zupR rfl (by simp), zupR rfl (by simp), nn _ (by omega)]; exact (h.2.2.1.2 u hu).1 k hk
    · rw [ew] at hu
      rw [qq _ _ (by simp) (by simp), qq _ _ (by simp) (by simp), nn _ (by omega), nn _ (by omega)]
      exact (h.2.2.1.2 u hu).2 c hc
  · refine OCC_wmove h.2.2.2.2.1 b1.2 b2.2 hw h0 hx hto hf (fun k => ?_)
    unfold occ
    rw [zupR (c' := (35, b, 0)) rfl (by simp)]
    by_cases e : k = to
    · rw [if_pos e, zupE rfl rfl e]; exact hi
    · rw [if_neg e, zupN rfl (fun z => e z.2)]
      by_cases e2 : k = c0
      · rw [if_pos e2, zupE rfl rfl e2]; exact il_m1
      · rw [if_neg e2, zupN rfl (fun z => e2 z.2)]
/-- two loops that stop together -/
theorem RTC_pre {α : Type} {S : α → α → Prop} {a : α} : ∀ (n m : Nat) (z : α), n < m → RTC S a m z → ∃ y y', RTC S a n y ∧ S y y'
  | n, 0, _, h, _ => absurd h (Nat.not_lt_zero n)
  | n, m + 1, z, h, ⟨x, h1, h2⟩ => by
    rcases Nat.lt_or_ge n m with q | q
    · exact RTC_pre n m x q h1
    · obtain rfl : n = m := by omega
      exact ⟨x, z, h1, h2⟩
theorem lockE {α β : Type} {S : α → α → Prop} {T : β → β → Prop} (R : α → β → Prop) {a z : α} {b w : β} (ha : RCH S a z) (hb : RCH T b w) (h0 : R a b)
    (hst : ∀ x z y w, R x y → S x z → T y w → R z w) (n1 : ∀ y y', R z y → T y y' → False) (n2 : ∀ x x', R x w → S x x' → False) : R z w := by
  obtain ⟨n, hn⟩ := ha
  obtain ⟨m, hm⟩ := hb
  have all : ∀ (k : Nat) (x : α) (y : β), RTC S a k x → RTC T b k y → R x y := fun k => by
    induction k with
    | zero =>
      intro x y h1 h2
      have e1 : a = x := h1
      have e2 : b = y := h2
      subst e1 e2
      exact h0
    | succ k ih =>
      rintro x y ⟨x0, h1, h2⟩ ⟨y0, g1, g2⟩
      exact hst x0 x y0 y (ih x0 y0 h1 g1) h2 g2
  rcases Nat.lt_trichotomy n m with q | q | q
  · obtain ⟨y, y', h1, h2⟩ := RTC_pre n m w q hm
    exact (n1 y y' (all n z y hn h1) h2).elim
  · subst q
    exact all n z w hn hm
  · obtain ⟨x, x', h1, h2⟩ := RTC_pre m n z q hn
    exact (n2 x x' (all m x w h1 hm) h2).elim
/-- a number of a head's yes changes -/
theorem WRR_yes {b w k : Nat} {M D : mM} {x : Int32} (h : WRR b M.1 (D.1 (50, 0, 0))) (hN : NW5 (D.1 (50, 0, 0))) (hw : (w : Int) < nWa (D.1 (50, 0, 0))) (hk : k < 192) : WRR b (up M (40, b, w) k x).1 ((up D (50, 0, 0) (495 + 384 * w + k) x).1 (50, 0, 0)) := by
  rw [up_row]
  refine WRR_heads h hN hw (fun c j h1 h2 h3 h4 => by rw [up_other _ _ h3]) (fun j hj => updN (by omega)) (fun j hj => ⟨?_, ?_⟩)
  · by_cases e : j = k
    · rw [updE (by omega)]; exact zupE rfl rfl e
    · rw [updN (by omega), zupN rfl (fun z => e z.2)]; exact ((h.2.2.1.2 w hw).2 j hj).1
  · rw [updN (by omega), zupR rfl (by simp)]; exact ((h.2.2.1.2 w hw).2 j hj).2
def goR (b : Nat) (v : Int32) (M D : mM) : Prop := WRR b M.1 (D.1 (50, 0, 0)) ∧ InvD D ∧ (D.1 (12, 0, 0) 7).toInt = -1 ∧ v.toInt < nWa (D.1 (50, 0, 0))
theorem free_both {b : Nat} {c s r r2 f g : Int32} {M D : mM} (h1 : SP_X7_cellFrom c s 1 M r) (h2 : SP_X7_isFree b r M f) (h3 : onP c s 1 r2) (h4 : 0 ≤ r2.toInt → SP_X12_isFree r2 D g) (hO : OCC b M.1 (D.1 (50, 0, 0))) (hu : (D.1 (12, 0, 0) 7).toInt = -1) (hc : 0 ≤ c.toInt ∧ c.toInt ≤ 191) (hs : 0 ≤ s.toInt ∧ s.toInt ≤ 7) :
    r = r2 ∧ (-1 ≤ r.toInt ∧ r.toInt ≤ 191) ∧ ((f.toInt = 1 ∧ 0 ≤ r.toInt ∧ g.toInt = 1 ∧ occ b M.1 r.toInt.toNat = -1) ∨ (f.toInt = 0 ∧ (r.toInt < 0 ∨ (0 ≤ r.toInt ∧ g.toInt = 0)))) := by
  have q1 := il_1
  have cf := cF_spec h1
  have on := on_spec h3 hc hs (by omega)
  have ob := onI_b (c := c.toInt) (s := s.toInt) (y := (1 : Int32).toInt)
  obtain rfl : r = r2 := i32e (by omega)
  have fr := x7free h2
  refine ⟨rfl, by omega, ?_⟩
  by_cases p : 0 ≤ r.toInt
  · have gr := x12free (h4 p) hO (by omega) (by omega)
    omega
  · omega
end
section
theorem RCH_mono {α : Type} {S T : α → α → Prop} {a z : α} (h : RCH S a z) (hs : ∀ x y, S x y → T x y) : RCH T a z := rind h (fun z => RCH T a z) RCH.refl (fun x y p s => RCH.tail p (hs x y s))
/-- the model's steps on -/
def gsD (w : Nat) (x y : Int32 × mM) : Prop := 0 < x.1.toInt ∧ y.1.toInt = x.1.toInt - 1 ∧ ∃ r g : Int32, onP (x.2.1 (50, 0, 0) (181 + 9 * w)) (x.2.1 (50, 0, 0) (182 + 9 * w)) 1 r ∧ 0 ≤ r.toInt ∧ SP_X12_isFree r x.2 g ∧ ¬ g.toInt = 0 ∧ y.2 = up x.2 (50, 0, 0) (181 + 9 * w) r
def geD (w : Nat) (x : Int32 × mM) (D : mM) : Prop := (x.1.toInt ≤ 0 ∧ D = x.2) ∨ (0 < x.1.toInt ∧ ∃ r g : Int32, onP (x.2.1 (50, 0, 0) (181 + 9 * w)) (x.2.1 (50, 0, 0) (182 + 9 * w)) 1 r ∧
  ((r.toInt < 0 ∧ D = up x.2 (50, 0, 0) (187 + 9 * w) (x.2.1 (50, 0, 0) (187 + 9 * w) + (1 : Int32))) ∨ (0 ≤ r.toInt ∧ SP_X12_isFree r x.2 g ∧ g.toInt = 0 ∧ D = up (up x.2 (50, 0, 0) (187 + 9 * w) (x.2.1 (50, 0, 0) (187 + 9 * w) + (1 : Int32))) (50, 0, 0) (495 + 384 * w + r.toInt.toNat) (bmp (x.2.1 (50, 0, 0) (495 + 384 * w + r.toInt.toNat)) 3))))
theorem goDx {v : Int32} {M M' : mM} (h : SP_X12_goesOn v M M') (hv : 0 ≤ v.toInt ∧ v.toInt ≤ 7) : ∃ (s0 : Int32) (z : Int32 × mM), s0.toInt = speedI (M.1 (50, 0, 0) (180 + 9 * v.toInt.toNat)).toInt ∧ RCH (gsD v.toInt.toNat) (s0, M) z ∧ InvD z.2 ∧ geD v.toInt.toNat z M' := by
  have i1 : (1 : Int32).toInt = 1 := by decide
  have i2 : (2 : Int32).toInt = 2 := by decide
  unfold SP_X12_goesOn at h
  obtain ⟨r1_, hs5_, h4_, r6_, hs10_, h9_, h⟩ := h
  have kd := x12kindOf hs10_ hv
  have st1 : ∀ x y : Int32 × mM, ST_X12_goesOn_22 M r1_ x.1 x.2 y.1 y.2 → gsD v.toInt.toNat x y := fun x y st => by
    obtain ⟨x1, x2⟩ := x
    obtain ⟨y1, y2⟩ := y
    unfold gsD
    (try dsimp only at st ⊢)
    refine xE_ST_X12_goesOn_22 st (fun p_hv0_22 _ p_hF_22 p_h13_ p_z14_ p_h15_ p_j18_ p_h19_ p_z16_ p_e17_ p_h20_ p_z21_ p_h22_ p_j25_ p_h26_ p_z23_ p_e24_ p_h27_ p_r28_ p_hs32_ p_h31_ p_h33_ p_r49_ p_hs53_ p_h52_ p_h54_ p_z55_ p_h56_ p_j59_ p_h60_ p_M57_ p_hM58_ p_z63_ p_h64_ p_hq_v3_22y p_hM_ => ?_)
    obtain rfl : p_j18_ = 181 + 9 * v.toInt.toNat := by omega
    obtain rfl : p_j25_ = 182 + 9 * v.toInt.toNat := by omega
    obtain rfl : p_j59_ = 181 + 9 * v.toInt.toNat := by omega
    rw [← p_e17_, ← p_e24_]
    exact ⟨p_h13_, by rw [p_hq_v3_22y]; omega, p_r28_, p_r49_, p_h31_.1, p_h33_, p_hs53_, p_h54_, by rw [p_hM_, p_hM58_]⟩
  have st2 : ∀ x y : Int32 × mM, ST_X12_goesOn_22b M r1_ x.1 x.2 y.1 y.2 → gsD v.toInt.toNat x y := fun x y st => by
    obtain ⟨x1, x2⟩ := x
    obtain ⟨y1, y2⟩ := y
    unfold gsD
    (try dsimp only at st ⊢)
    refine xE_ST_X12_goesOn_22b st (fun p_hv0_22 _ p_hF_22 p_h93_ p_z94_ p_h95_ p_j98_ p_h99_ p_z96_ p_e97_ p_h100_ p_z101_ p_h102_ p_j105_ p_h106_ p_z103_ p_e104_ p_h107_ p_r108_ p_hs112_ p_h111_ p_h113_ p_r129_ p_hs133_ p_h132_ p_h134_ p_z135_ p_h136_ p_j139_ p_h140_ p_M137_ p_hM138_ p_z143_ p_h144_ p_hq_v3_22y p_hM_ => ?_)
    obtain rfl : p_j98_ = 181 + 9 * v.toInt.toNat := by omega
    obtain rfl : p_j105_ = 182 + 9 * v.toInt.toNat := by omega
    obtain rfl : p_j139_ = 181 + 9 * v.toInt.toNat := by omega
    rw [← p_e97_, ← p_e104_]
    exact ⟨p_h93_, by rw [p_hq_v3_22y]; omega, p_r108_, p_r129_, p_h111_.1, p_h113_, p_hs133_, p_h134_, by rw [p_hM_, p_hM138_]⟩
  rcases h with ⟨h11_, v3_22, hv0_22, M_22, hL_22, hI_22, hF_22, h⟩ | ⟨h11_, v3_22, hv0_22, M_22, hL_22, hI_22, hF_22, h⟩
  · refine ⟨1, (v3_22, M_22), by rw [kd] at h11_; unfold speedI; rw [if_neg h11_, i1], RCH_mono hL_22 st1, hI_22, ?_⟩
    unfold geD
    (try dsimp only)
    rcases h with ⟨h13_, hM_⟩ | ⟨h13_, z14_, h15_, j18_, h19_, z16_, e17_, h20_, z21_, h22_, j25_, h26_, z23_, e24_, h27_, r28_, hs32_, h31_, h⟩
    · exact Or.inl ⟨h13_, hM_⟩
    · obtain rfl : j18_ = 181 + 9 * v.toInt.toNat := by omega
      obtain rfl : j25_ = 182 + 9 * v.toInt.toNat := by omega
      rw [← e17_, ← e24_]
      rcases h with ⟨h33_, z34_, h35_, j38_, h39_, z36_, e37_, z40_, h41_, j44_, h45_, M42_, hM43_, h48_, hM_⟩ | ⟨h33_, r49_, hs53_, h52_, h54_, z65_, h66_, j69_, h70_, z67_, e68_, z71_, h72_, j75_, h76_, M73_, hM74_, h79_, hI77_, r80_, hs84_, h83_, M85_, hI88_, hF89_, hs91_, hM_⟩
      · obtain rfl : j38_ = 187 + 9 * v.toInt.toNat := by omega
        obtain rfl : j44_ = 187 + 9 * v.toInt.toNat := by omega
        exact Or.inr ⟨h13_, r28_, r28_, h31_.1, Or.inl ⟨h33_, by rw [hM_, hM43_, h41_, e37_]⟩⟩
      · obtain rfl : j69_ = 187 + 9 * v.toInt.toNat := by omega
        obtain rfl : j75_ = 187 + 9 * v.toInt.toNat := by omega
        have ad := x12more hs91_
        rw [show r80_.toInt.toNat = 495 + 384 * v.toInt.toNat + r28_.toInt.toNat by omega] at ad
        exact Or.inr ⟨h13_, r28_, r49_, h31_.1, Or.inr ⟨h33_, hs53_, h54_, by rw [hM_, ad, hM74_, h72_, e68_, up_row, updN (by omega)]⟩⟩
  · refine ⟨2, (v3_22, M_22), by rw [kd] at h11_; unfold speedI; rw [if_pos h11_, i2], RCH_mono hL_22 st2, hI_22, ?_⟩
    unfold geD
    (try dsimp only)
    rcases h with ⟨h13_, hM_⟩ | ⟨h13_, z14_, h15_, j18_, h19_, z16_, e17_, h20_, z21_, h22_, j25_, h26_, z23_, e24_, h27_, r28_, hs32_, h31_, h⟩
    · exact Or.inl ⟨h13_, hM_⟩
    · obtain rfl : j18_ = 181 + 9 * v.toInt.toNat := by omega
      obtain rfl : j25_ = 182 + 9 * v.toInt.toNat := by omega
      rw [← e17_, ← e24_]
      rcases h with ⟨h33_, z34_, h35_, j38_, h39_, z36_, e37_, z40_, h41_, j44_, h45_, M42_, hM43_, h48_, hM_⟩ | ⟨h33_, r49_, hs53_, h52_, h54_, z65_, h66_, j69_, h70_, z67_, e68_, z71_, h72_, j75_, h76_, M73_, hM74_, h79_, hI77_, r80_, hs84_, h83_, M85_, hI88_, hF89_, hs91_, hM_⟩
      · obtain rfl : j38_ = 187 + 9 * v.toInt.toNat := by omega
        obtain rfl : j44_ = 187 + 9 * v.toInt.toNat := by omega
        exact Or.inr ⟨h13_, r28_, r28_, h31_.1, Or.inl ⟨h33_, by rw [hM_, hM43_, h41_, e37_]⟩⟩
      · obtain rfl : j69_ = 187 + 9 * v.toInt.toNat := by omega
        obtain rfl : j75_ = 187 + 9 * v.toInt.toNat := by omega
        have ad := x12more hs91_
        rw [show r80_.toInt.toNat = 495 + 384 * v.toInt.toNat + r28_.toInt.toNat by omega] at ad
        exact Or.inr ⟨h13_, r28_, r49_, h31_.1, Or.inr ⟨h33_, hs53_, h54_, by rw [hM_, ad, hM74_, h72_, e68_, up_row, updN (by omega)]⟩⟩
/-- the class's steps on -/
def gsC (b : Nat) (v : Int32) (w : Nat) (x y : Int32 × mM) : Prop := ∃ sp r f : Int32, SP_X9_speed b w x.2 sp ∧ x.1.toInt < sp.toInt ∧ y.1.toInt = x.1.toInt + 1 ∧ SP_X7_cellFrom (x.2.1 (9, b, w) 1) (x.2.1 (9, b, w) 2) 1 x.2 r ∧ SP_X7_isFree b r x.2 f ∧ f.toInt = 1 ∧ 0 ≤ r.toInt ∧ r.toInt ≤ 191 ∧
  ∃ z : Int32, z.toInt = 100 + v.toInt ∧ ((0 ≤ (x.2.1 (9, b, w) 1).toInt ∧ (x.2.1 (9, b, w) 1).toInt ≤ 191) → y.2 = up (up (up x.2 (35, b, 0) (x.2.1 (9, b, w) 1).toInt.toNat (-1)) (35, b, 0) r.toInt.toNat z) (9, b, w) 1 r)
def geC (b : Nat) (w : Nat) (x : Int32 × mM) (M : mM) : Prop := ∃ sp : Int32, SP_X9_speed b w x.2 sp ∧ ((sp.toInt ≤ x.1.toInt ∧ M = x.2) ∨ (x.1.toInt < sp.toInt ∧ ∃ r f : Int32, SP_X7_cellFrom (x.2.1 (9, b, w) 1) (x.2.1 (9, b, w) 2) 1 x.2 r ∧ SP_X7_isFree b r x.2 f ∧ f.toInt = 0 ∧
  ((r.toInt < 0 ∧ M = up x.2 (9, b, w) 7 (x.2.1 (9, b, w) 7 + (1 : Int32))) ∨ (0 ≤ r.toInt ∧ r.toInt ≤ 191 ∧ M = up (up x.2 (9, b, w) 7 (x.2.1 (9, b, w) 7 + (1 : Int32))) (40, b, w) r.toInt.toNat (bmp (x.2.1 (40, b, w) r.toInt.toNat) 3)))))
theorem goCx {b : Nat} {v : Int32} {M M' : mM} (h : SP_X10_goOn b v M M') (hv : 0 ≤ v.toInt ∧ v.toInt < (M.1 (10, b, 0) 6).toInt ∧ v.toInt < 8) : ∃ z : Int32 × mM, RCH (gsC b v v.toInt.toNat) (0, M) z ∧ geC b v.toInt.toNat z M' := by
  have q0 := il_0
  have q1 := il_1
  have st : ∀ x y : Int32 × mM, ST_X10_goOn_18 b v M v.toInt.toNat x.1 x.2 y.1 y.2 → gsC b v v.toInt.toNat x y := fun x y st => by
    obtain ⟨x1, x2⟩ := x
    obtain ⟨y1, y2⟩ := y
    unfold gsC
    (try dsimp only at st ⊢)
    refine xE_ST_X10_goOn_18 st (fun p_hv0_18 _ p_hF_18 p_r11_ p_hs15_ p_h14_ p_h16_ p_z17_ p_e18_ p_z19_ p_e20_ p_r21_ p_hs25_ p_h24_ p_hs30_ p_h29_ p_M34_ _ p_hF38_ p_hs40_ p_z41_ p_h42_ p_M43_ _ p_hF47_ p_hs49_ p_M50_ p_hM51_ p_z54_ p_h55_ p_hq_v3_18y p_hM_ => ?_)
    rw [p_e18_, p_e20_] at p_hs25_
    refine ⟨p_r11_, p_r21_, 1, p_hs15_, p_h16_, by rw [p_hq_v3_18y]; omega, p_hs25_, p_hs30_, il_1, p_h29_.1, p_h29_.2, p_z41_, p_h42_, fun cb => ?_⟩
    rw [p_hM_, p_hM51_, x7settle p_hs49_ p_h29_, x7settle p_hs40_ (by rw [p_e18_]; exact cb), p_e18_]
  refine xE_SP_X10_goOn h ⟨(fun hs5_ h4_ j7_ h8_ h9_ v3_18 hv0_18 M_18 hL_18 _ hF_18 r11_ hs15_ h14_ => ⟨(fun h16_ hM_ => ?_), (fun h16_ z17_ e18_ z19_ e20_ r21_ hs25_ h24_ hs30_ z57_ e58_ z59_ h60_ M61_ hM62_ _ M65_ _ hF69_ hs71_ hM_ => ?_)⟩), (fun hs5_ hM_ => ?_)⟩
  · obtain rfl : j7_ = v.toInt.toNat := by omega
    exact ⟨(v3_18, M_18), RCH_mono hL_18 st, r11_, hs15_, Or.inl ⟨h16_, hM_⟩⟩
  · obtain rfl : j7_ = v.toInt.toNat := by omega
    rw [e18_, e20_] at hs25_
    refine ⟨(v3_18, M_18), RCH_mono hL_18 st, r11_, hs15_, Or.inr ⟨h16_, r21_, 0, hs25_, hs30_, il_0, ?_⟩⟩
    (try dsimp only)
    by_cases p : 0 ≤ r21_.toInt
    · have ad := x9addYes hs71_ ⟨p, h24_.2⟩
      exact Or.inr ⟨p, h24_.2, by rw [hM_, ad, hM62_, h60_, e58_, zupR rfl (by simp)]⟩
    · refine Or.inl ⟨by omega, ?_⟩
      rw [hM_]
      refine xE_SP_X9_addYes hs71_ ⟨(fun k_hs5_ k_h4_ k_j9_ k_h10_ k_z7_ k_e8_ k_z11_ k_h12_ k_z13_ k_h14_ k_j17_ k_h18_ k_M15_ k_hM16_ k_hM_ => ?_), (fun k_hs5_ k_h4_ k_hM_ => ?_)⟩
      · omega
      · rw [k_hM_, hM62_, h60_, e58_]
  · have := x10has hs5_
    omega
theorem go_both {b : Nat} {v : Int32} {M M' D D2 : mM} (h1 : SP_X10_goOn b v M M') (h2 : SP_X12_goesOn v D D2) (hR : WRR b M.1 (D.1 (50, 0, 0))) (hD : InvD D) (hu : (D.1 (12, 0, 0) 7).toInt = -1) (hv : 0 ≤ v.toInt ∧ v.toInt < nWa (D.1 (50, 0, 0))) : WRR b M'.1 (D2.1 (50, 0, 0)) := by
  have q0 := il_0
  have nw := nWa_b hD.2.1
  have hc := eT hR.2.2.1.1
  obtain ⟨z, c1, c2⟩ := goCx h1 ⟨hv.1, by unfold nWa at hv; omega, by omega⟩
  obtain ⟨s0, y, d0, d1, d2, d3⟩ := goDx h2 ⟨hv.1, by omega⟩
  -- what both hold as they go along
  have facts : ∀ {x : Int32 × mM} {y : Int32 × mM}, WRR b x.2.1 (y.2.1 (50, 0, 0)) → NW5 (y.2.1 (50, 0, 0)) → v.toInt < nWa (y.2.1 (50, 0, 0)) → x.2.1 (9, b, v.toInt.toNat) 1 = y.2.1 (50, 0, 0) (181 + 9 * v.toInt.toNat) ∧ x.2.1 (9, b, v.toInt.toNat) 2 = y.2.1 (50, 0, 0) (182 + 9 * v.toInt.toNat) ∧ x.2.1 (9, b, v.toInt.toNat) 0 = y.2.1 (50, 0, 0) (180 + 9 * v.toInt.toNat) ∧ x.2.1 (9, b, v.toInt.toNat) 7 = y.2.1 (50, 0, 0) (187 + 9 * v.toInt.toNat) ∧
      (0 ≤ (y.2.1 (50, 0, 0) (180 + 9 * v.toInt.toNat)).toInt ∧ (y.2.1 (50, 0, 0) (180 + 9 * v.toInt.toNat)).toInt ≤ 7) ∧ (0 ≤ (y.2.1 (50, 0, 0) (181 + 9 * v.toInt.toNat)).toInt ∧ (y.2.1 (50, 0, 0) (181 + 9 * v.toInt.toNat)).toInt ≤ 191) ∧ (0 ≤ (y.2.1 (50, 0, 0) (182 + 9 * v.toInt.toNat)).toInt ∧ (y.2.1 (50, 0, 0) (182 + 9 * v.toInt.toNat)).toInt ≤ 7) := fun {x y} r i l => by
    have w9 := (r.2.2.1.2 v.toInt.toNat (by omega)).1
    have a1 := w9 1 (by omega)
    have a2 := w9 2 (by omega)
    have a0 := w9 0 (by omega)
    have a7 := w9 7 (by omega)
    rw [show 180 + 9 * v.toInt.toNat + 1 = 181 + 9 * v.toInt.toNat by omega] at a1
    rw [show 180 + 9 * v.toInt.toNat + 2 = 182 + 9 * v.toInt.toNat by omega] at a2
    rw [show 180 + 9 * v.toInt.toNat + 0 = 180 + 9 * v.toInt.toNat by omega] at a0
    rw [show 180 + 9 * v.toInt.toNat + 7 = 187 + 9 * v.toInt.toNat by omega] at a7
    exact ⟨a1, a2, a0, a7, ((i.1 (180 + 9 * v.toInt.toNat)).2.2.2.2.2.2.2 (by omega) (by omega)).1 (by omega), ((i.1 (181 + 9 * v.toInt.toNat)).2.2.2.2.2.2.2 (by omega) (by omega)).2.1 (by omega), ((i.1 (182 + 9 * v.toInt.toNat)).2.2.2.2.2.2.2 (by omega) (by omega)).2.2 (by omega)⟩
  have spd : ∀ {x : Int32 × mM} {sp : Int32} {k : Int32}, SP_X9_speed b v.toInt.toNat x.2 sp → x.2.1 (9, b, v.toInt.toNat) 0 = k → 0 ≤ k.toInt ∧ k.toInt ≤ 7 → sp.toInt = speedI k.toInt := fun {x sp k} h e hk => by
    have := x9speed h (by rw [e]; exact hk)
    rw [this, e]
  have L := lockE (fun x y : Int32 × mM => WRR b x.2.1 (y.2.1 (50, 0, 0)) ∧ NW5 (y.2.1 (50, 0, 0)) ∧ (y.2.1 (12, 0, 0) 7).toInt = -1 ∧ v.toInt < nWa (y.2.1 (50, 0, 0)) ∧ y.2.1 (50, 0, 0) (180 + 9 * v.toInt.toNat) = D.1 (50, 0, 0) (180 + 9 * v.toInt.toNat) ∧ x.1.toInt + y.1.toInt = s0.toInt) c1 d1 ⟨hR, hD.2.1, hu, hv.2, rfl, by dsimp only; omega⟩
    (fun x z y w r s t => by
      obtain ⟨r1, r2, r3, r4, r5, r6⟩ := r
      obtain ⟨sp, rr, f, s1, s2, s3, s4, s5, s6, s7, s8, zz, s9, s10⟩ := s
      obtain ⟨t1, t2, rd, g, t3, t4, t5, t6, t7⟩ := t
      obtain ⟨f1, f2, f0, f7, b0, b1, b2⟩ := facts r1 r2 r4
      rw [f1, f2] at s4
      have fb := free_both s4 s5 t3 (fun _ => t5) r1.2.2.2.2.1 r3 b1 b2
      obtain rfl : rr = rd := fb.1
      have s10 := s10 (by rw [f1]; exact b1)
      rw [f1] at s10
      have rw2 := WRR_wmove (x := rr) (i := zz) (to := rr.toInt.toNat) (c0 := (y.2.1 (50, 0, 0) (181 + 9 * v.toInt.toNat)).toInt.toNat) r1 r2 (w := v.toInt.toNat) (by omega) (by omega) (by unfold wcl; omega) (by omega) (by omega) (by omega)
      rw [← s10, ← t7] at rw2
      refine ⟨rw2, ?_, by rw [t7, up_other _ _ (by simp)]; exact r3, by rw [t7, up_row]; unfold nWa; rw [updN (by omega)]; exact r4, by rw [t7, up_row, updN (by omega)]; exact r5, by omega⟩
      rw [t7, up_row]
      refine ⟨PN_upd r2.1 ?_, WT_upd r2.2 (by omega)⟩
      unfold PN
      omega)
    (fun y y' r t => by
      obtain ⟨r1, r2, r3, r4, r5, r6⟩ := r
      obtain ⟨sp, e1, e2⟩ := c2
      obtain ⟨t1, t2, rd, g, t3, t4, t5, t6, t7⟩ := t
      obtain ⟨f1, f2, f0, f7, b0, b1, b2⟩ := facts r1 r2 r4
      have es := spd e1 f0 b0
      rw [r5, ← d0] at es
      rcases e2 with e2 | ⟨e2, rr, f, e3, e4, e5, e6⟩
      · omega
      · rw [f1, f2] at e3
        have fb := free_both e3 e4 t3 (fun _ => t5) r1.2.2.2.2.1 r3 b1 b2
        have := fb.1
        subst this
        omega)
    (fun x x' r s => by
      obtain ⟨r1, r2, r3, r4, r5, r6⟩ := r
      obtain ⟨sp, rr, f, s1, s2, s3, s4, s5, s6, s7, s8, zz, s9, s10⟩ := s
      obtain ⟨f1, f2, f0, f7, b0, b1, b2⟩ := facts r1 r2 r4
      have es := spd s1 f0 b0
      rw [r5, ← d0] at es
      rcases d3 with d3 | ⟨d3, rd, g, d4, d5⟩
      · omega
      · rw [f1, f2] at s4
        rcases d5 with d5 | ⟨d5, d6, d7, d8⟩
        · have cf := cF_spec s4
          have on := on_spec d4 b1 b2 (by have := il_1; omega)
          omega
        · have fb := free_both s4 s5 d4 (fun _ => d6) r1.2.2.2.2.1 r3 b1 b2
          have := fb.1
          subst this
          omega)
  obtain ⟨r1, r2, r3, r4, r5, r6⟩ := L
  obtain ⟨sp, e1, e2⟩ := c2
  obtain ⟨f1, f2, f0, f7, b0, b1, b2⟩ := facts r1 r2 r4
  have es := spd e1 f0 b0
  rw [r5, ← d0] at es
  rcases e2 with ⟨e2, e3⟩ | ⟨e2, rr, f, e3, e4, e5, e6⟩ <;> rcases d3 with ⟨d3, d4⟩ | ⟨d3, rd, g, d4, d5⟩
  · rw [e3, d4]; exact r1
  · omega
  · omega
  · rw [f1, f2] at e3
    have on := on_spec d4 b1 b2 (by have := il_1; omega)
    have cf := cF_spec e3
    have B := WRR_wf (f := 7) (x := z.2.1 (9, b, v.toInt.toNat) 7 + (1 : Int32)) r1 r2 (w := v.toInt.toNat) (by omega) (by omega)
    rw [show 180 + 9 * v.toInt.toNat + 7 = 187 + 9 * v.toInt.toNat by omega] at B
    have er : rr = rd := i32e (by have := onI_b (c := (y.2.1 (50, 0, 0) (181 + 9 * v.toInt.toNat)).toInt) (s := (y.2.1 (50, 0, 0) (182 + 9 * v.toInt.toNat)).toInt) (y := (1 : Int32).toInt); have := il_1; omega)
    subst er
    rcases e6 with ⟨e6, e7⟩ | ⟨e6, e7, e8⟩ <;> rcases d5 with ⟨d5, d6⟩ | ⟨d5, d6, d7, d8⟩
    · rw [e7, d6, ← f7]; exact B
    · omega
    · omega
    · rw [e8, d8, ← f7]
      have wa := ((r1.2.2.1.2 v.toInt.toNat (by omega)).2 rr.toInt.toNat (by omega)).1
      rw [← wa]
      refine WRR_yes B ?_ (by rw [up_row]; unfold nWa at r4 ⊢; rw [updN (by omega)]; omega) (by omega)
      rw [up_row]
      refine ⟨PN_upd r2.1 ?_, WT_upd r2.2 (by omega)⟩
      unfold PN
      omega
end
section
/-! a walker's turn, a tenth -/
theorem x9turn {b w : Nat} {v : Int32} {M M' : mM} (h : SP_X9_turn b w v M M') : M' = up M (9, b, w) 2 ((M.1 (9, b, w) 2 + v) &&& (7 : Int32)) := by
  refine xE_SP_X9_turn h (fun z1_ e2_ z3_ h4_ z5_ h7_ h6_ M8_ hM9_ hM_ => ?_)
  rw [hM_, hM9_, h7_, h4_, e2_]
theorem hab_both {b : Nat} {v : Int32} {M M' D D2 : mM} (h1 : HabC b v v.toInt.toNat M M') (h2 : HabD v D D2) (hR : WRR b M.1 (D.1 (50, 0, 0))) (hD : InvD D) (hu : (D.1 (12, 0, 0) 7).toInt = -1) (hv : 0 ≤ v.toInt ∧ v.toInt < nWa (D.1 (50, 0, 0))) : WRR b M'.1 (D2.1 (50, 0, 0)) := by
  have i6 : (6 : Int32).toInt = 6 := by decide
  have i2 : (2 : Int32).toInt = 2 := by decide
  have im2 : (-2 : Int32).toInt = -2 := by decide
  have nw := nWa_b hD.2.1
  obtain ⟨s, rf_, sl, rl_, sr, rr, bu, now, r, M1, e1, y1, e2, y2, e3, y3, e4, e5, hF, hH, h⟩ := h1
  obtain ⟨t, D1, iD1, hF1, hO, g⟩ := h2
  have w9 := (hR.2.2.1.2 v.toInt.toNat (by omega)).1
  have hh := (hR.2.2.1.2 v.toInt.toNat (by omega)).2
  have a1 := w9 1 (by omega)
  have a2 := w9 2 (by omega)
  have a7 := w9 7 (by omega)
  rw [show 180 + 9 * v.toInt.toNat + 1 = 181 + 9 * v.toInt.toNat by omega] at a1
  rw [show 180 + 9 * v.toInt.toNat + 2 = 182 + 9 * v.toInt.toNat by omega] at a2
  rw [show 180 + 9 * v.toInt.toNat + 7 = 187 + 9 * v.toInt.toNat by omega] at a7
  have cb := ((hD.2.1.1 (181 + 9 * v.toInt.toNat)).2.2.2.2.2.2.2 (by omega) (by omega)).2.1 (by omega)
  have sb := ((hD.2.1.1 (182 + 9 * v.toInt.toNat)).2.2.2.2.2.2.2 (by omega) (by omega)).2.2 (by omega)
  rw [a2] at e1
  rw [← e1] at sb
  have k1 : ∀ (c : rf) (k : Nat), c.1 ≠ 25 → c.1 ≠ 29 → M1.1 c k = M.1 c k := fun c k q1 q2 => hF c k (fun q => by simp only [S_c_X2_habitValue, or_false] at q; omega)
  have kd : ∀ (c : rf) (k : Nat), c.1 ≠ 58 → c.1 ≠ 59 → D1.1 c k = D.1 c k := fun c k q1 q2 => hF1 c k (fun q => by simp only [S_c_X12_habitOf, or_false] at q; omega)
  have row : D1.1 (50, 0, 0) = D.1 (50, 0, 0) := funext fun k => kd _ _ (by simp) (by simp)
  have R1 : WRR b M1.1 (D1.1 (50, 0, 0)) := by rw [row]; exact WRR_q hR hD.2.1 k1
  have sl7 : 0 ≤ sl.toInt ∧ sl.toInt ≤ 7 := by rw [e2, and7]; omega
  have sr7 : 0 ≤ sr.toInt ∧ sr.toInt ≤ 7 := by rw [e3, and7]; omega
  have F1 := x9full y1 sb a1 cb hh
  have F2 := x9full y2 sl7 a1 cb hh
  have F3 := x9full y3 sr7 a1 cb hh
  have hab := x2habit hH hR.2.2.2.1 hD.2.1.2
  have act : t = fmX r := by
    refine xE_SP_X12_habitOf hO (fun k_r1_ k_hs5_ k_h4_ k_z6_ k_h7_ k_j10_ k_h11_ k_z8_ k_e9_ k_h12_ k_r13_ k_hs17_ k_M18_ k_hM19_ k_z22_ k_h23_ k_hI20_ k_r24_ k_hs28_ k_M29_ k_hM30_ k_z33_ k_h34_ k_hI31_ k_r35_ k_hs39_ k_M40_ k_hM41_ k_hI42_ k_r44_ k_hs48_ k_h47_ k_z49_ k_h50_ k_j53_ k_h54_ k_z51_ k_e52_ k_M55_ k_hM56_ k_z59_ k_e60_ k_M61_ k_hM62_ k_hI63_ k_r65_ k_hs69_ k_h68_ => ?_)
    obtain rfl : k_j10_ = 182 + 9 * v.toInt.toNat := by omega
    obtain rfl : k_j53_ = 187 + 9 * v.toInt.toNat := by omega
    have ks : k_z8_ = s := by rw [k_e9_, e1]
    subst ks
    have w18 : k_M18_.1 (50, 0, 0) = D.1 (50, 0, 0) := by rw [k_hM19_, up_other _ _ (by simp)]
    have w29 : k_M29_.1 (50, 0, 0) = D.1 (50, 0, 0) := by rw [k_hM30_, up_other _ _ (by simp)]; exact w18
    have w40 : k_M40_.1 (50, 0, 0) = D.1 (50, 0, 0) := by rw [k_hM41_, up_other _ _ (by simp)]; exact w29
    have w55 : k_M55_.1 (50, 0, 0) = D.1 (50, 0, 0) := by rw [k_hM56_, up_other _ _ (by simp)]; exact w40
    have w61 : k_M61_.1 (50, 0, 0) = D.1 (50, 0, 0) := by rw [k_hM62_, up_other _ _ (by simp)]; exact w55
    have G1 := x12full k_hs17_ ⟨hv.1, by omega⟩
    have G2 := x12full k_hs28_ ⟨hv.1, by omega⟩
    have G3 := x12full k_hs39_ ⟨hv.1, by omega⟩
    rw [w18] at G2
    rw [w29] at G3
    have z22 : k_z22_ = k_z8_ + (6 : Int32) := i32e (by rw [k_h23_, addI (x := k_z8_) rfl i6 (by omega) (by omega)])
    have z33 : k_z33_ = k_z8_ + (2 : Int32) := i32e (by rw [k_h34_, addI (x := k_z8_) rfl i2 (by omega) (by omega)])
    rw [z22, ← e2] at G2
    rw [z33, ← e3] at G3
    rw [show (k_z8_ &&& (7 : Int32)).toInt = k_z8_.toInt by rw [and7]; omega] at G1
    obtain rfl : rf_ = k_r13_ := i32e (FullP_uniq F1 G1)
    obtain rfl : rl_ = k_r24_ := i32e (FullP_uniq F2 G2)
    obtain rfl : rr = k_r35_ := i32e (FullP_uniq F3 G3)
    have hz51 : k_z51_ = bu := by rw [k_e52_, w40, e4, a7]
    have hz59 : k_z59_ = now := by rw [k_e60_, w55, e5]; exact hR.1.1.symm
    have sv := sval5 k_hM19_ k_hM30_ k_hM41_ k_hM56_ k_hM62_
    have tx := x12has (u := 2) k_hs69_ (by first | decide | simp | (dsimp only; omega))
    simp only [show 345 + 50 * 2 = 445 by decide] at tx
    rw [w61] at tx
    refine ⟨(fun k_h70_ k_z71_ k_e72_ => ⟨(fun k_h73_ k_hr_ k_hM_ => ?_), (fun k_h73_ k_hr_ k_hM_ => ?_)⟩), (fun k_h70_ k_M75_ k_hI78_ k_hF79_ k_r74_ k_hs81_ k_z82_ k_h84_ k_h83_ k_hr_ k_hM_ => ?_)⟩
    all_goals
      rw [fm_and, hab]
      unfold habS
    · rw [if_pos (by omega)]
      have s0 : k_M61_.1 (58, 0, 0) 0 = rf_ := sv 0 (by omega)
      rw [k_e72_, s0] at k_h73_
      rw [if_neg k_h73_, k_hr_]; decide
    · rw [if_pos (by omega)]
      have s0 : k_M61_.1 (58, 0, 0) 0 = rf_ := sv 0 (by omega)
      rw [k_e72_, s0] at k_h73_
      rw [if_pos k_h73_, k_hr_]; decide
    · rw [if_neg (by omega), k_hr_, k_h84_]
      have er : k_r74_ = evR (D.1 (50, 0, 0)) 2 (hbV rf_ rl_ rr bu now) := by
        rw [← w61]
        refine x12given (nn := 5) k_hs81_ k_hI63_ ⟨by decide, by omega⟩ (fun i hi => ?_) (fun i hi => ?_) (by rw [w61]; show 0 < (D.1 (50, 0, 0) 445).toInt; omega)
        · rw [w61] at hi ⊢
          exact ((hR.2.2.2.1 2 (by omega)).2 i hi).2
        · rw [sv i hi, hz51, hz59]
      rw [er]
  have tb : 0 ≤ (fmX r).toInt ∧ (fmX r).toInt ≤ 3 := by rw [fm_and, and3]; omega
  have i1 := il_1
  rw [act] at g
  have m2 : M1.1 (9, b, v.toInt.toNat) 2 = s := by rw [k1 _ _ (by simp) (by simp), a2, e1]
  have d2 : D1.1 (50, 0, 0) (182 + 9 * v.toInt.toNat) = s := by rw [row, e1]
  have turn : ∀ x : Int32, M' = up M1 (9, b, v.toInt.toNat) 2 x → D2 = up D1 (50, 0, 0) (182 + 9 * v.toInt.toNat) x → WRR b M'.1 (D2.1 (50, 0, 0)) := fun x h1 h2 => by
    have B := WRR_wf (f := 2) (x := x) R1 iD1.2.1 (w := v.toInt.toNat) (by rw [row]; omega) (by omega)
    rw [show 180 + 9 * v.toInt.toNat + 2 = 182 + 9 * v.toInt.toNat by omega, ← h1, ← h2] at B
    exact B
  rcases h with ⟨h3, h4, h5⟩ | ⟨h3, h5⟩ | ⟨h3, h5⟩ <;> rcases g with ⟨g1, g2⟩ | ⟨g1, g2⟩
  · have x9 := x9turn h5
    rw [m2] at x9
    rw [d2] at g2
    refine turn _ x9 ?_
    rw [g2]
    unfold trD
    by_cases q : (fmX r).toInt = 1
    · rw [if_pos q, show fmX r = 1 from i32e (q.trans i1.symm)]
    · have q2 : (fmX r).toInt = 2 := by omega
      rw [if_neg q, if_pos q2, show fmX r = 2 from i32e (q2.trans i2.symm)]
  · omega
  · have x9 := x9turn h5
    rw [m2] at x9
    rw [d2] at g2
    refine turn _ x9 ?_
    rw [g2]
    unfold trD
    rw [if_neg (by omega), if_neg (by omega)]
    have e : (s + (6 : Int32)) &&& (7 : Int32) = (s + (-2 : Int32)) &&& (7 : Int32) := i32e (by rw [and7, and7, addI (x := s) rfl i6 (by omega) (by omega), addI (x := s) rfl im2 (by omega) (by omega)]; omega)
    rw [e]
  · omega
  · omega
  · exact go_both h5 g2 R1 iD1 (by rw [kd _ _ (by simp) (by simp)]; exact hu) ⟨hv.1, by rw [row]; exact hv.2⟩
theorem wkt_step {b : Nat} {i i2 : Int32} {Mz M M' D D2 : mM} (h1 : ST_X10_passTenth_23 b Mz i M i2 M') (h2 : SP_X12_walkerGoes i D D2) (hR : WRR b M.1 (D.1 (50, 0, 0))) (hD : InvD D) (hu : (D.1 (12, 0, 0) 7).toInt = -1) (hv : 0 ≤ i.toInt ∧ i.toInt < nWa (D.1 (50, 0, 0))) : WRR b M'.1 (D2.1 (50, 0, 0)) := by
  have nw := nWa_b hD.2.1
  have hc := eT hR.2.2.1.1
  have w9 := (hR.2.2.1.2 i.toInt.toNat (by omega)).1
  have a0 := w9 0 (by omega)
  have a5 := w9 5 (by omega)
  have a6 := w9 6 (by omega)
  rw [show 180 + 9 * i.toInt.toNat + 0 = 180 + 9 * i.toInt.toNat by omega] at a0
  rw [show 180 + 9 * i.toInt.toNat + 5 = 185 + 9 * i.toInt.toNat by omega] at a5
  rw [show 180 + 9 * i.toInt.toNat + 6 = 186 + 9 * i.toInt.toNat by omega] at a6
  have kb := ((hD.2.1.1 (180 + 9 * i.toInt.toNat)).2.2.2.2.2.2.2 (by omega) (by omega)).1 (by omega)
  have d := wgD h2 ⟨hv.1, by omega⟩
  refine xE_ST_X10_passTenth_23 h1 (fun hv0_23 _ hF_23 z19_ e20_ h21_ h22_ j23_ h24_ h25_ z26_ e27_ h28_ => ⟨(fun h29_ z30_ h31_ hq_v1_23y hM_ => ?_), (fun h29_ M32_ _ hF36_ hs38_ z39_ h40_ hq_v1_23y hM_ => ?_)⟩)
  · obtain rfl : j23_ = i.toInt.toNat := by omega
    have y := eT e27_
    rw [a6] at y
    rcases d with d | d
    · rw [hM_, d.2]; exact hR
    · omega
  · obtain rfl : j23_ = i.toInt.toNat := by omega
    have y := eT e27_
    rw [a6] at y
    rcases d with d | ⟨-, d⟩
    · omega
    · have c := lwC hs38_ ⟨hv.1, by unfold nWa at hv; omega, by omega⟩ (by rw [a0]; exact kb)
      rw [hR.1.1, a5, a0] at c
      rw [hM_]
      rcases c with ⟨c1, c2⟩ | ⟨c1, r, M1, c2, c3⟩ <;> rcases d with ⟨d1, d2⟩ | ⟨d1, t, D1, d2, d3, d4⟩
      · exact hab_both c2 d2 hR hD hu hv
      · exact absurd d1 c1
      · exact absurd c1 d1
      · have cl := click_both c2 d3 hR hD hv hu
        exact hab_both c3 d4 cl.2.1 d2 (by rw [cl.2.2.2.1 _ _ (by simp) (by simp) (by simp)]; exact hu) ⟨hv.1, by unfold nWa; rw [cl.2.2.2.2 2 (by omega) (by omega)]; exact hv.2⟩
theorem WRR_now {b : Nat} {M D : mM} {x : Int32} (h : WRR b M.1 (D.1 (50, 0, 0))) (hN : NW5 (D.1 (50, 0, 0))) : WRR b (up M (10, b, 0) 7 x).1 ((up D (50, 0, 0) 0 x).1 (50, 0, 0)) := by
  have b1 := nTh_b hN
  have b2 := nWa_b hN
  rw [up_row]
  have nn : ∀ j, ¬ j = 0 → upd (D.1 (50, 0, 0)) 0 x j = D.1 (50, 0, 0) j := fun j hj => updN hj
  refine ⟨⟨by rw [zupE rfl rfl rfl, updE rfl], fun k hk => by rw [zupR rfl (by simp), nn _ (by omega)]; exact h.1.2.1 k hk, fun k hk => by rw [zupR rfl (by simp), zupR rfl (by simp), nn _ (by omega), nn _ (by omega)]; exact h.1.2.2 k hk⟩,
    THR_keep h.2.1 b1.2 (fun r k hr => zupR rfl (by dsimp only; omega)) (fun j hj => nn j (by omega)), WAR_keep h.2.2.1 b2.2 (fun r w k hr => zupR rfl (by dsimp only; omega)) (zupN rfl (fun z => absurd z.2 (by first | decide | simp | (dsimp only; omega)))) (fun j hj => nn j (by omega)),
    TXR_keep h.2.2.2.1 (TXz hN) (fun r u k hr hu => zupR rfl (by dsimp only; omega)) (fun j h1 h2 => nn j (by omega)), OCC_keep h.2.2.2.2.1 b1.2 b2.2 (fun k => zupR rfl (by simp)) (fun j hj => nn j (by omega)) (fun j hj => nn j (by omega)), MIR_keep h.2.2.2.2.2 b1.2 b2.2 (fun j hj => nn j (by omega)) (fun w h1 h2 => ⟨fun k hk => nn _ (by omega), fun c hc => nn _ (by omega)⟩)⟩
theorem tenth_both {b : Nat} {M M' D D2 : mM} (h1 : SP_X10_passTenth b M M') (h2 : SP_X12_tenth D D2) (hR : WRR b M.1 (D.1 (50, 0, 0))) (hD : InvD D) (hu : (D.1 (12, 0, 0) 7).toInt = -1) : WRR b M'.1 (D2.1 (50, 0, 0)) ∧ InvD D2 ∧ (D2.1 (12, 0, 0) 7).toInt = -1 := by
  have q0 := il_0
  refine xE_SP_X12_tenth h2 (fun d_z1_ d_e2_ d_z3_ d_h4_ d_M5_ d_hM6_ d_v1_12 d_hv0_12 d_M_12 d_hL_12 d_hI_12 d_hF_12 d_z10_ d_e11_ d_h12_ d_h13_ d_v1_35 d_hv0_35 d_M_35 d_hL_35 d_hI_35 d_hF_35 d_z15_ d_e16_ d_h17_ d_h18_ d_hM_ => ?_)
  have frD : (D2.1 (12, 0, 0) 7).toInt = -1 := by rw [d_hM_, d_hF_35 (12, 0, 0) 7 (fun q => by simp [S_c_X12_tenth] at q)]; exact hu
  have invD : InvD D2 := by rw [d_hM_]; exact d_hI_35
  -- the things
  have things : ∀ {z1 z3 z9 v2 : Int32} {M5 Mm : mM}, z1 = M.1 (10, b, 0) 7 → z3 = z1 + (1 : Int32) → M5 = up M (10, b, 0) 7 z3 → z9 = M5.1 (10, b, 0) 7 → RCH (fun x_ y_ => ST_X7_letThingsGo_2 b z9 M5 x_.1 x_.2 y_.1 y_.2) ((0 : Int32), M5) (v2, Mm) → ((Mm.1 (7, b, 0) 5).toInt ≤ v2.toInt ∨ 40 ≤ v2.toInt) → WRR b Mm.1 (d_M_12.1 (50, 0, 0)) ∧ (d_M_12.1 (12, 0, 0) 7).toInt = -1 := fun {z1 z3 z9 v2 M5 Mm} a1 a2 a3 a4 hL hE => by
    have ez : z3 = d_z3_ := by rw [a2, d_h4_, a1, d_e2_, hR.1.1]
    have R0 := WRR_now (x := z3) hR hD.2.1
    rw [← a3, ez, ← d_hM6_] at R0
    have e9 : z9 = d_z3_ := by rw [a4, a3, zupE rfl rfl rfl, ez]
    have L := lockE (fun x y : Int32 × mM => WRR b x.2.1 (y.2.1 (50, 0, 0)) ∧ x.1 = y.1 ∧ (y.2.1 (12, 0, 0) 7).toInt = -1 ∧ y.2.1 (50, 0, 0) 0 = d_z3_) hL d_hL_12 ⟨R0, rfl, by dsimp only; rw [d_hM6_, up_other _ _ (by simp)]; exact hu, by dsimp only; rw [d_hM6_, up_same]⟩
      (fun x z y w r s t => by
        obtain ⟨x1, x2⟩ := x
        obtain ⟨y1, y2⟩ := y
        obtain ⟨z1, z2⟩ := z
        obtain ⟨w1, w2⟩ := w
        (try dsimp only at r s t ⊢)
        obtain ⟨r1, r2, r3, r4⟩ := r
        subst r2
        have s' := s
        refine xE_ST_X12_tenth_12 t (fun t_hv0_12 t_hI_12 t_hF_12 t_z10_ t_e11_ t_h12_ t_h13_ t_M28_ t_hI31_ t_hF32_ t_hs34_ t_z35_ t_h36_ t_hq_v1_12y t_hM_ => ?_)
        have st := th_step s t_hs34_ r1 t_hI_12 r3 (by rw [e9, r4]) ⟨t_hv0_12, by unfold nTh; rw [← t_e11_]; exact t_h13_⟩
        rw [t_hM_]
        refine ⟨st.1, ?_, by rw [st.2.2 _ _ (by simp)]; exact r3, by rw [st.2.1 0 (by omega)]; exact r4⟩
        have ci : z1.toInt = x1.toInt + 1 := by
          refine xE_ST_X7_letThingsGo_2 s' (fun s_hv0_2 _ s_hF_2 s_z2_ s_e3_ s_h4_ s_h5_ s_j8_ s_h9_ s_z6_ s_e7_ s_j12_ s_h13_ s_z10_ s_e11_ => ⟨(fun s_h14_ s_z15_ s_h16_ s_hq_v2_2y s_hM_ => ?_), (fun s_h14_ => ⟨(fun s_h17_ s_z18_ s_h19_ s_hq_v2_2y s_hM_ => ?_), (fun s_h17_ s_z20_ s_h21_ => ⟨(fun s_h22_ s_z23_ s_h24_ s_hq_v2_2y s_hM_ => ?_), (fun s_h22_ s_M25_ _ s_hF29_ s_hs31_ s_z32_ s_h33_ s_hq_v2_2y s_hM_ => ?_)⟩)⟩)⟩)
          all_goals (rw [s_hq_v2_2y]; assumption)
        exact i32e (by rw [ci, t_hq_v1_12y, t_h36_]))
      (fun y y' r t => by
        obtain ⟨r1, r2, r3, r4⟩ := r
        refine xE_ST_X12_tenth_12 t (fun t_hv0_12 t_hI_12 t_hF_12 t_z10_ t_e11_ t_h12_ t_h13_ t_M28_ t_hI31_ t_hF32_ t_hs34_ t_z35_ t_h36_ t_hq_v1_12y t_hM_ => ?_)
        have c1 := eT r1.2.1.1
        have c2 := eT t_e11_
        have c3 := eT r2
        (try dsimp only at c1 c2 c3 hE)
        omega)
      (fun x x' r s => by
        obtain ⟨r1, r2, r3, r4⟩ := r
        have c1 := eT r1.2.1.1
        have c2 := eT d_e11_
        have c3 := eT r2
        have c4 : x.1.toInt < (x.2.1 (7, b, 0) 5).toInt := by
          unfold ST_X7_letThingsGo_2 at s
          obtain ⟨-, -, -, z2_, e3_, h4_, -⟩ := s
          rw [← e3_]; exact h4_
        (try dsimp only at c1 c2 c3)
        omega)
    exact ⟨L.1, L.2.2.1⟩
  have walkers : ∀ {v1 : Int32} {M11 Mm : mM}, WRR b M11.1 (d_M_12.1 (50, 0, 0)) → (d_M_12.1 (12, 0, 0) 7).toInt = -1 → RCH (fun x_ y_ => ST_X10_passTenth_23 b M x_.1 x_.2 y_.1 y_.2) ((0 : Int32), M11) (v1, Mm) → ((Mm.1 (10, b, 0) 6).toInt ≤ v1.toInt ∨ 8 ≤ v1.toInt) → WRR b Mm.1 (d_M_35.1 (50, 0, 0)) := fun {v1 M11 Mm} R0 u0 hL hE => by
    have L := lockE (fun x y : Int32 × mM => WRR b x.2.1 (y.2.1 (50, 0, 0)) ∧ x.1 = y.1 ∧ (y.2.1 (12, 0, 0) 7).toInt = -1) hL d_hL_35 ⟨R0, rfl, u0⟩
      (fun x z y w r s t => by
        obtain ⟨x1, x2⟩ := x
        obtain ⟨y1, y2⟩ := y
        obtain ⟨z1, z2⟩ := z
        obtain ⟨w1, w2⟩ := w
        (try dsimp only at r s t ⊢)
        obtain ⟨r1, r2, r3⟩ := r
        subst r2
        have s' := s
        refine xE_ST_X12_tenth_35 t (fun t_hv0_35 t_hI_35 t_hF_35 t_z15_ t_e16_ t_h17_ t_h18_ t_M19_ t_hI22_ t_hF23_ t_hs25_ t_z26_ t_h27_ t_hq_v1_35y t_hM_ => ?_)
        have st := wkt_step s t_hs25_ r1 t_hI_35 r3 ⟨t_hv0_35, by unfold nWa; rw [← t_e16_]; exact t_h18_⟩
        rw [t_hM_]
        refine ⟨st, ?_, by rw [t_hF23_ (12, 0, 0) 7 (fun q => by simp [S_c_X12_walkerGoes] at q)]; exact r3⟩
        have ci : z1.toInt = x1.toInt + 1 := by
          refine xE_ST_X10_passTenth_23 s' (fun s_hv0_23 _ s_hF_23 s_z19_ s_e20_ s_h21_ s_h22_ s_j23_ s_h24_ s_h25_ s_z26_ s_e27_ s_h28_ => ⟨(fun s_h29_ s_z30_ s_h31_ s_hq_v1_23y s_hM_ => ?_), (fun s_h29_ s_M32_ _ s_hF36_ s_hs38_ s_z39_ s_h40_ s_hq_v1_23y s_hM_ => ?_)⟩)
          all_goals (rw [s_hq_v1_23y]; assumption)
        exact i32e (by rw [ci, t_hq_v1_35y, t_h27_]))
      (fun y y' r t => by
        obtain ⟨r1, r2, r3⟩ := r
        refine xE_ST_X12_tenth_35 t (fun t_hv0_35 t_hI_35 t_hF_35 t_z15_ t_e16_ t_h17_ t_h18_ t_M19_ t_hI22_ t_hF23_ t_hs25_ t_z26_ t_h27_ t_hq_v1_35y t_hM_ => ?_)
        have c1 := eT r1.2.2.1.1
        have c2 := eT t_e16_
        have c3 := eT r2
        (try dsimp only at c1 c2 c3 hE)
        omega)
      (fun x x' r s => by
        obtain ⟨r1, r2, r3⟩ := r
        have c1 := eT r1.2.2.1.1
        have c2 := eT d_e16_
        have c3 := eT r2
        have c4 : x.1.toInt < (x.2.1 (10, b, 0) 6).toInt := by
          unfold ST_X10_passTenth_23 at s
          obtain ⟨-, -, -, z2_, e3_, h4_, -⟩ := s
          rw [← e3_]; exact h4_
        (try dsimp only at c1 c2 c3)
        omega)
    exact L.1
  refine ⟨?_, invD, frD⟩
  rw [d_hM_]
  unfold SP_X10_passTenth at h1
  obtain ⟨z1_, e2_, z3_, h4_, M5_, hM6_, z9_, e10_, hI7_, M11_, hI14_, hF15_, hs17_, v1_23, hv0_23, M_23, hL_23, hI_23, hF_23, z19_, e20_, h⟩ := h1
  have T : WRR b M11_.1 (d_M_12.1 (50, 0, 0)) ∧ (d_M_12.1 (12, 0, 0) 7).toInt = -1 := by
    refine xE_SP_X7_letThingsGo hs17_ (fun k_v2_2 k_hv0_2 k_M_2 k_hL_2 _ k_hF_2 k_z2_ k_e3_ => ⟨(fun k_h4_ k_hM_ => ?_), (fun k_h4_ k_h5_ k_hM_ => ?_)⟩)
    · rw [k_hM_]
      exact things e2_ h4_ hM6_ e10_ k_hL_2 (Or.inl (by rw [← k_e3_]; exact k_h4_))
    · rw [k_hM_]
      exact things e2_ h4_ hM6_ e10_ k_hL_2 (Or.inr k_h5_)
  rcases h with ⟨h21_, hM_⟩ | ⟨h21_, h22_, hM_⟩
  · rw [hM_]
    exact walkers T.1 T.2 hL_23 (Or.inl (by rw [← e20_]; exact h21_))
  · rw [hM_]
    exact walkers T.1 T.2 hL_23 (Or.inr h22_)
end
section
/-! worlds alike, all of them -/
def wR (r : Nat) : Prop := r = 1 ∨ r = 2 ∨ r = 7 ∨ r = 9 ∨ r = 10 ∨ r = 24 ∨ r = 26 ∨ r = 27 ∨ (30 ≤ r ∧ r ≤ 33) ∨ (35 ≤ r ∧ r ≤ 41)
def LER (b : Nat) (q : rf → Nat → Int32) (n : Nat → Int32) : Prop := ∀ l : Nat, (l : Int) < (n 3).toInt → q (30, b, 0) l = n (252 + 3 * l) ∧ q (31, b, 0) l = n (253 + 3 * l) ∧ q (32, b, 0) l = n (254 + 3 * l)
def TAR (b : Nat) (q : rf → Nat → Int32) (n : Nat → Int32) : Prop := ∀ i : Nat, (i : Int) < (n 4).toInt → q (33, b, 0) i = n (273 + i) ∧ 0 ≤ (n (273 + i)).toInt ∧ (n (273 + i)).toInt ≤ 255
def WTR (b : Nat) (q : rf → Nat → Int32) (n : Nat → Int32) : Prop := ∀ i : Nat, (i : Int) < (n 5).toInt → q (33, b, 1) i = n (321 + i)
def RW (b : Nat) (q : rf → Nat → Int32) (n : Nat → Int32) : Prop := WRR b q n ∧ LER b q n ∧ TAR b q n ∧ WTR b q n
theorem n345_b {n : Nat → Int32} (h : NW5 n) : (0 ≤ (n 3).toInt ∧ (n 3).toInt ≤ 7) ∧ (0 ≤ (n 4).toInt ∧ (n 4).toInt ≤ 48) ∧ (0 ≤ (n 5).toInt ∧ (n 5).toInt ≤ 24) := ⟨(h.1 3).2.2.1 rfl, (h.1 4).2.2.2.1 rfl, (h.1 5).2.2.2.2.1 rfl⟩
theorem LER_keep {b : Nat} {q q2 : rf → Nat → Int32} {n n2 : Nat → Int32} (h : LER b q n) (hb : (n 3).toInt ≤ 7) (hq : ∀ r k, r = 30 ∨ r = 31 ∨ r = 32 → q2 (r, b, 0) k = q (r, b, 0) k) (hn : ∀ j, j = 3 ∨ (252 ≤ j ∧ j < 273) → n2 j = n j) : LER b q2 n2 := fun l hl => by
  rw [hn 3 (by omega)] at hl
  rw [hq 30 l (by omega), hq 31 l (by omega), hq 32 l (by omega), hn _ (by omega), hn _ (by omega), hn _ (by omega)]
  exact h l hl
theorem TAR_keep {b : Nat} {q q2 : rf → Nat → Int32} {n n2 : Nat → Int32} (h : TAR b q n) (hb : (n 4).toInt ≤ 48) (hq : ∀ k, q2 (33, b, 0) k = q (33, b, 0) k) (hn : ∀ j, j = 4 ∨ (273 ≤ j ∧ j < 321) → n2 j = n j) : TAR b q2 n2 := fun l hl => by
  rw [hn 4 (by omega)] at hl
  rw [hq l, hn _ (by omega)]
  exact h l hl
theorem WTR_keep {b : Nat} {q q2 : rf → Nat → Int32} {n n2 : Nat → Int32} (h : WTR b q n) (hb : (n 5).toInt ≤ 24) (hq : ∀ k, q2 (33, b, 1) k = q (33, b, 1) k) (hn : ∀ j, j = 5 ∨ (321 ≤ j ∧ j < 345) → n2 j = n j) : WTR b q2 n2 := fun l hl => by
  rw [hn 5 (by omega)] at hl
  rw [hq l, hn _ (by omega)]
  exact h l hl
theorem WRR_same {b : Nat} {q q2 : rf → Nat → Int32} {n : Nat → Int32} (h : WRR b q n) (hN : NW5 n) (hq : ∀ (c : rf) (k : Nat), wR c.1 → c.2.1 = b → q2 c k = q c k) : WRR b q2 n :=
  ⟨LWR_keep h.1 (fun r k hr => hq _ _ (by unfold wR; dsimp only; omega) rfl) (fun _ _ => rfl),
   THR_keep h.2.1 (nTh_b hN).2 (fun r k hr => hq _ _ (by unfold wR; dsimp only; omega) rfl) (fun _ _ => rfl),
   WAR_keep h.2.2.1 (nWa_b hN).2 (fun r w k hr => hq _ _ (by unfold wR; dsimp only; omega) rfl) (hq _ _ (by unfold wR; dsimp only; omega) rfl) (fun _ _ => rfl),
   TXR_keep h.2.2.2.1 (TXz hN) (fun r u k hr hu => hq _ _ (by unfold wR; dsimp only; omega) rfl) (fun _ _ _ => rfl),
   OCC_keep h.2.2.2.2.1 (nTh_b hN).2 (nWa_b hN).2 (fun k => hq _ _ (by unfold wR; dsimp only; omega) rfl) (fun _ _ => rfl) (fun _ _ => rfl), h.2.2.2.2.2⟩
theorem RW_same {b : Nat} {q q2 : rf → Nat → Int32} {n : Nat → Int32} (h : RW b q n) (hN : NW5 n) (hq : ∀ (c : rf) (k : Nat), wR c.1 → c.2.1 = b → q2 c k = q c k) : RW b q2 n :=
  ⟨WRR_same h.1 hN hq, LER_keep h.2.1 (n345_b hN).1.2 (fun r k hr => hq _ _ (by unfold wR; dsimp only; omega) rfl) (fun _ _ => rfl), TAR_keep h.2.2.1 (n345_b hN).2.1.2 (fun k => hq _ _ (by unfold wR; dsimp only; omega) rfl) (fun _ _ => rfl), WTR_keep h.2.2.2 (n345_b hN).2.2.2 (fun k => hq _ _ (by unfold wR; dsimp only; omega) rfl) (fun _ _ => rfl)⟩
/-- what is behind a tenth, where the rest stays -/
theorem RW_of {b : Nat} {q q2 : rf → Nat → Int32} {n n2 : Nat → Int32} (h : RW b q n) (hN : NW5 n) (hw : WRR b q2 n2) (hq : ∀ (c : rf) (k : Nat), c.1 = 30 ∨ c.1 = 31 ∨ c.1 = 32 ∨ c.1 = 33 → q2 c k = q c k) (hn : ∀ j, j = 3 ∨ j = 4 ∨ j = 5 ∨ (252 ≤ j ∧ j < 345) → n2 j = n j) : RW b q2 n2 :=
  ⟨hw, LER_keep h.2.1 (n345_b hN).1.2 (fun r k hr => hq _ _ (by dsimp only; omega)) (fun j hj => hn j (by omega)), TAR_keep h.2.2.1 (n345_b hN).2.1.2 (fun k => hq _ _ (by dsimp only; omega)) (fun j hj => hn j (by omega)), WTR_keep h.2.2.2 (n345_b hN).2.2.2 (fun k => hq _ _ (by dsimp only; omega)) (fun j hj => hn j (by omega))⟩
/-- numbers of a thing change, not its cell -/
theorem WRR_thf {b t : Nat} {q q2 : rf → Nat → Int32} {n n2 : Nat → Int32} (h : WRR b q n) (hN : NW5 n) (ht : (t : Int) < nTh n) (hq : ∀ (c : rf) (k : Nat), ¬ ((c = (36, b, 0) ∨ c = (38, b, 0) ∨ c = (39, b, 0)) ∧ k = t) → wR c.1 → q2 c k = q c k) (hn : ∀ j, ¬ (j = 20 + 4 * t ∨ j = 22 + 4 * t ∨ j = 23 + 4 * t) → n2 j = n j)
    (e : q2 (36, b, 0) t = n2 (20 + 4 * t) ∧ q2 (38, b, 0) t = n2 (22 + 4 * t) ∧ q2 (39, b, 0) t = n2 (23 + 4 * t)) (hm : 0 ≤ (n2 (23 + 4 * t)).toInt ∧ ((n2 (20 + 4 * t)).toInt < 3 → (n2 (23 + 4 * t)).toInt = 0)) : WRR b q2 n2 := by
  have b1 := nTh_b hN
  have b2 := nWa_b hN
  have qq : ∀ (r u k : Nat), wR r → r ≠ 36 → r ≠ 38 → r ≠ 39 → q2 (r, b, u) k = q (r, b, u) k := fun r u k h0 h1 h2 h3 => hq _ _ (fun z => by
    rcases z.1 with z | z | z
    · exact h1 (congrArg (fun c : rf => c.1) z)
    · exact h2 (congrArg (fun c : rf => c.1) z)
    · exact h3 (congrArg (fun c : rf => c.1) z)) h0
  have et : nTh n2 = nTh n := by unfold nTh; rw [hn 1 (by omega)]
  have ew : nWa n2 = nWa n := by unfold nWa; rw [hn 2 (by omega)]
  refine ⟨LWR_keep h.1 (fun r k hr => qq _ _ _ (by unfold wR; omega) (by omega) (by omega) (by omega)) (fun j hj => hn j (by omega)), ?_, WAR_keep h.2.2.1 b2.2 (fun r w k hr => qq _ _ _ (by unfold wR; omega) (by omega) (by omega) (by omega)) (qq _ _ _ (by unfold wR; omega) (by omega) (by omega) (by omega)) (fun j hj => hn j (by omega)),
    TXR_keep h.2.2.2.1 (TXz hN) (fun r u k hr hu => qq _ _ _ (by unfold wR; omega) (by omega) (by omega) (by omega)) (fun j h1 h2 => hn j (by omega)), OCC_keep h.2.2.2.2.1 b1.2 b2.2 (fun k => qq _ _ _ (by unfold wR; omega) (by omega) (by omega) (by omega)) (fun j hj => hn j (by omega)) (fun j hj => hn j (by omega)), ?_⟩
  · refine ⟨by rw [qq 7 0 5 (by unfold wR; omega) (by omega) (by omega) (by omega), hn 1 (by omega)]; exact h.2.1.1, fun s hs => ?_⟩
    rw [et] at hs
    have g := h.2.1.2 s hs
    by_cases z : s = t
    · subst z
      exact ⟨e.1, by rw [qq 37 0 s (by unfold wR; omega) (by omega) (by omega) (by omega), hn _ (by omega)]; exact g.2.1, e.2.1, e.2.2⟩
    · rw [hq _ _ (fun y => z y.2) (by unfold wR; dsimp only; omega), hq _ _ (fun y => z y.2) (by unfold wR; dsimp only; omega), hq _ _ (fun y => z y.2) (by unfold wR; dsimp only; omega), hq _ _ (fun y => z y.2) (by unfold wR; dsimp only; omega), hn _ (by omega), hn _ (by omega), hn _ (by omega), hn _ (by omega)]
      exact g
  · obtain ⟨h1, h2, h3⟩ := h.2.2.2.2.2
    unfold MIR
    rw [et, ew]
    refine ⟨fun w hw => by rw [hn _ (by omega), hn _ (by omega)]; exact h1 w hw, fun s hs => ?_, fun w a c => ⟨fun k hk => by rw [hn _ (by omega)]; exact (h3 w a c).1 k hk, fun k hk => by rw [hn _ (by omega)]; exact (h3 w a c).2 k hk⟩⟩
    by_cases z : s = t
    · rw [z]; exact hm
    · rw [hn _ (by omega), hn _ (by omega)]; exact h2 s hs
/-- numbers of a walker change, not its cell -/
theorem WRR_wkf {b w : Nat} {q q2 : rf → Nat → Int32} {n n2 : Nat → Int32} (h : WRR b q n) (hN : NW5 n) (hw : (w : Int) < nWa n) (hq : ∀ (c : rf) (k : Nat), ¬ (c = (9, b, w) ∧ k ≠ 1) → wR c.1 → q2 c k = q c k) (hn : ∀ j, (j < 180 + 9 * w ∨ 189 + 9 * w ≤ j ∨ j = 181 + 9 * w) → n2 j = n j)
    (e : ∀ k, k < 9 → k ≠ 1 → q2 (9, b, w) k = n2 (180 + 9 * w + k)) (hm : (1 ≤ (n2 (183 + 9 * w)).toInt ∧ (n2 (183 + 9 * w)).toInt ≤ 9) ∧ (1 ≤ (n2 (184 + 9 * w)).toInt ∧ (n2 (184 + 9 * w)).toInt ≤ 99)) : WRR b q2 n2 := by
  have b1 := nTh_b hN
  have b2 := nWa_b hN
  have qq : ∀ (r u k : Nat), wR r → r ≠ 9 → q2 (r, b, u) k = q (r, b, u) k := fun r u k h0 h1 => hq _ _ (fun z => h1 (congrArg (fun c : rf => c.1) z.1)) h0
  have et : nTh n2 = nTh n := by unfold nTh; rw [hn 1 (by omega)]
  have ew : nWa n2 = nWa n := by unfold nWa; rw [hn 2 (by omega)]
  refine ⟨LWR_keep h.1 (fun r k hr => qq _ _ _ (by unfold wR; omega) (by omega)) (fun j hj => hn j (by omega)), THR_keep h.2.1 b1.2 (fun r k hr => qq _ _ _ (by unfold wR; omega) (by omega)) (fun j hj => hn j (by omega)), ?_,
    TXR_keep h.2.2.2.1 (TXz hN) (fun r u k hr hu => qq _ _ _ (by unfold wR; omega) (by omega)) (fun j h1 h2 => hn j (by omega)), OCC_keep h.2.2.2.2.1 b1.2 b2.2 (fun k => qq _ _ _ (by unfold wR; omega) (by omega)) (fun j hj => hn j (by omega)) (fun j hj => hn j (by omega)), ?_⟩
  · refine ⟨by rw [qq 10 0 6 (by unfold wR; omega) (by omega), hn 2 (by omega)]; exact h.2.2.1.1, fun u hu => ?_⟩
    rw [ew] at hu
    have g := h.2.2.1.2 u hu
    refine ⟨fun k hk => ?_, fun c hc => by rw [qq 40 u c (by unfold wR; omega) (by omega), qq 41 u c (by unfold wR; omega) (by omega), hn _ (by omega), hn _ (by omega)]; exact g.2 c hc⟩
    by_cases z : u = w
    · subst z
      by_cases y : k = 1
      · subst y
        rw [hq _ _ (fun x => x.2 rfl) (by unfold wR; dsimp only; omega), hn _ (by omega)]; exact g.1 1 hk
      · exact e k hk y
    · rw [hq _ _ (fun x => z (congrArg (fun c : rf => c.2.2) x.1)) (by unfold wR; dsimp only; omega), hn _ (by omega)]; exact g.1 k hk
  · obtain ⟨h1, h2, h3⟩ := h.2.2.2.2.2
    unfold MIR
    rw [et, ew]
    refine ⟨fun u hu => ?_, fun s hs => by rw [hn _ (by omega), hn _ (by omega)]; exact h2 s hs, fun u a c => ⟨fun k hk => by rw [hn _ (by omega)]; exact (h3 u a c).1 k hk, fun k hk => by rw [hn _ (by omega)]; exact (h3 u a c).2 k hk⟩⟩
    by_cases z : u = w
    · rw [z]; exact hm
    · rw [hn _ (by omega), hn _ (by omega)]; exact h1 u hu
end
section
/-! what a call does to both worlds -/
theorem cne {r b w r2 b2 w2 : Nat} (h : ¬ r = r2) : ¬ ((r, b, w) : rf) = (r2, b2, w2) := fun z => h (congrArg (fun c : rf => c.1) z)
/-- a thing comes -/
theorem WRR_add {b t cell : Nat} {q q2 : rf → Nat → Int32} {n n2 : Nat → Int32} (h : WRR b q n) (hN : NW5 n) (ht : nTh n = (t : Int)) (h40 : t < 40) (hc : cell < 192) (hf : occ b q cell = -1)
    (hq : ∀ (c : rf) (k : Nat), wR c.1 → ¬ (c.1 = 36 ∨ c.1 = 37 ∨ c.1 = 38 ∨ c.1 = 39) → ¬ (c = (35, b, 0) ∧ k = cell) → ¬ (c = (7, b, 0) ∧ k = 5) → q2 c k = q c k) (hq2 : ∀ r k, 36 ≤ r → r ≤ 39 → ¬ k = t → q2 (r, b, 0) k = q (r, b, 0) k)
    (hn : ∀ j, ¬ j = 1 → j < 20 + 4 * t ∨ 24 + 4 * t ≤ j → n2 j = n j) (e7 : q2 (7, b, 0) 5 = n2 1) (e1 : (n2 1).toInt = (t : Int) + 1) (e36 : q2 (36, b, 0) t = n2 (20 + 4 * t)) (e37 : q2 (37, b, 0) t = n2 (21 + 4 * t)) (e38 : q2 (38, b, 0) t = n2 (22 + 4 * t)) (e39 : q2 (39, b, 0) t = n2 (23 + 4 * t)) (ec : (n2 (21 + 4 * t)).toInt = (cell : Int)) (es : (n2 (23 + 4 * t)).toInt = 0) (e35 : (q2 (35, b, 0) cell).toInt = (t : Int)) : WRR b q2 n2 := by
  have b1 := nTh_b hN
  have b2 := nWa_b hN
  have qq : ∀ (r u k : Nat), wR r → r ≠ 36 → r ≠ 37 → r ≠ 38 → r ≠ 39 → r ≠ 35 → r ≠ 7 → q2 (r, b, u) k = q (r, b, u) k := fun r u k h0 h1 h2 h3 h4 h5 h6 => hq _ _ h0 (by dsimp only; omega) (fun z => h5 (congrArg (fun c : rf => c.1) z.1)) (fun z => h6 (congrArg (fun c : rf => c.1) z.1))
  have et : nTh n2 = (t : Int) + 1 := e1
  have ew : nWa n2 = nWa n := by unfold nWa; rw [hn 2 (by omega) (by omega)]
  have tN : ∀ s : Nat, s < t → tcl n2 s = tcl n s := fun s hs => by unfold tcl; rw [hn _ (by omega) (by omega)]
  have tE : tcl n2 t = (cell : Int) := ec
  have wN : ∀ w : Nat, (w : Int) < nWa n → wcl n2 w = wcl n w := fun w hw => by unfold wcl; rw [hn _ (by omega) (by omega)]
  have oN : ∀ k, ¬ k = cell → occ b q2 k = occ b q k := fun k hk => by unfold occ; rw [hq (35, b, 0) k (by unfold wR; dsimp only; omega) (by simp) (fun z => hk z.2) (fun z => cne (by omega) z.1)]
  refine ⟨LWR_keep h.1 (fun r k hr => qq _ _ _ (by unfold wR; omega) (by omega) (by omega) (by omega) (by omega) (by omega) (by omega)) (fun j hj => hn j (by omega) (by omega)), ⟨e7, fun s hs => ?_⟩, WAR_keep h.2.2.1 b2.2 (fun r w k hr => qq _ _ _ (by unfold wR; omega) (by omega) (by omega) (by omega) (by omega) (by omega) (by omega)) (qq _ _ _ (by unfold wR; omega) (by omega) (by omega) (by omega) (by omega) (by omega) (by omega)) (fun j hj => hn j (by omega) (by omega)),
    TXR_keep h.2.2.2.1 (TXz hN) (fun r u k hr hu => qq _ _ _ (by unfold wR; omega) (by omega) (by omega) (by omega) (by omega) (by omega) (by omega)) (fun j h1 h2 => hn j (by omega) (by omega)), ?_, ?_⟩
  · rw [et] at hs
    by_cases z : s = t
    · subst z
      exact ⟨e36, e37, e38, e39⟩
    · have g := h.2.1.2 s (by omega)
      rw [hq2 36 s (by omega) (by omega) z, hq2 37 s (by omega) (by omega) z, hq2 38 s (by omega) (by omega) z, hq2 39 s (by omega) (by omega) z, hn _ (by omega) (by omega), hn _ (by omega) (by omega), hn _ (by omega) (by omega), hn _ (by omega) (by omega)]
      exact g
  · obtain ⟨h1, h2, h3⟩ := h.2.2.2.2.1
    unfold OCC
    rw [et, ew]
    refine ⟨fun s hs hp => ?_, fun w hw => ?_, fun c hcc => ?_⟩
    · by_cases z : s = t
      · rw [z, tE, Int.toNat_natCast]; exact e35
      · rw [tN s (by omega)] at hp ⊢
        have g := h1 s (by omega) hp
        rw [oN _ (fun y => by rw [y] at g; omega)]; exact g
    · rw [wN w hw]
      have g := h2 w hw
      rw [oN _ (fun y => by rw [y] at g; omega)]; exact g
    · by_cases z : c = cell
      · have e : occ b q2 c = (t : Int) := by rw [z]; exact e35
        rw [e]
        exact Or.inr (Or.inl ⟨by omega, by omega, by rw [Int.toNat_natCast, tE, z]⟩)
      · rw [oN c z]
        rcases h3 c hcc with o | ⟨o1, o2, o3⟩ | ⟨o1, o2, o3⟩
        · exact Or.inl o
        · exact Or.inr (Or.inl ⟨o1, by omega, by rw [tN _ (by omega)]; exact o3⟩)
        · exact Or.inr (Or.inr ⟨o1, o2, by rw [wN _ (by omega)]; exact o3⟩)
  · obtain ⟨h1, h2, h3⟩ := h.2.2.2.2.2
    unfold MIR
    rw [et, ew]
    refine ⟨fun w hw => by rw [hn _ (by omega) (by omega), hn _ (by omega) (by omega)]; exact h1 w hw, fun s hs => ?_, fun w a c => ⟨fun k hk => by rw [hn _ (by omega) (by omega)]; exact (h3 w a c).1 k hk, fun k hk => by rw [hn _ (by omega) (by omega)]; exact (h3 w a c).2 k hk⟩⟩
    by_cases z : s = t
    · rw [z, es]; exact ⟨by omega, fun _ => rfl⟩
    · rw [hn _ (by omega) (by omega), hn _ (by omega) (by omega)]; exact h2 s (by omega)
/-- a walker comes -/
theorem WRR_addw {b w cell : Nat} {q q2 : rf → Nat → Int32} {n n2 : Nat → Int32} (h : WRR b q n) (hN : NW5 n) (hw : nWa n = (w : Int)) (h8 : w < 8) (hc : cell < 192) (hf : occ b q cell = -1)
    (hq : ∀ (c : rf) (k : Nat), wR c.1 → ¬ c = (9, b, w) → ¬ c = (40, b, w) → ¬ c = (41, b, w) → ¬ (c = (35, b, 0) ∧ k = cell) → ¬ (c = (10, b, 0) ∧ k = 6) → q2 c k = q c k)
    (hn : ∀ j, ¬ j = 2 → j < 180 + 9 * w ∨ 185 + 9 * w ≤ j → n2 j = n j) (e10 : q2 (10, b, 0) 6 = n2 2) (e2 : (n2 2).toInt = (w : Int) + 1) (e9 : ∀ k, k < 5 → q2 (9, b, w) k = n2 (180 + 9 * w + k)) (e9z : ∀ k, 5 ≤ k → k < 9 → q2 (9, b, w) k = 0) (e40 : ∀ k, k < 192 → q2 (40, b, w) k = 0 ∧ q2 (41, b, w) k = 0)
    (ec : (n2 (181 + 9 * w)).toInt = (cell : Int)) (ep : (1 ≤ (n2 (183 + 9 * w)).toInt ∧ (n2 (183 + 9 * w)).toInt ≤ 9) ∧ (1 ≤ (n2 (184 + 9 * w)).toInt ∧ (n2 (184 + 9 * w)).toInt ≤ 99)) (e35 : (q2 (35, b, 0) cell).toInt = 100 + (w : Int)) : WRR b q2 n2 := by
  have b1 := nTh_b hN
  have b2 := nWa_b hN
  have qq : ∀ (r u k : Nat), wR r → r ≠ 9 → r ≠ 40 → r ≠ 41 → r ≠ 35 → r ≠ 10 → q2 (r, b, u) k = q (r, b, u) k := fun r u k h0 h1 h2 h3 h4 h5 => hq _ _ h0 (cne h1) (cne h2) (cne h3) (fun z => cne h4 z.1) (fun z => cne h5 z.1)
  have et : nTh n2 = nTh n := by unfold nTh; rw [hn 1 (by omega) (by omega)]
  have ew : nWa n2 = (w : Int) + 1 := e2
  have tN : ∀ s : Nat, (s : Int) < nTh n → tcl n2 s = tcl n s := fun s hs => by unfold tcl; rw [hn _ (by omega) (by omega)]
  have wN : ∀ u : Nat, ¬ u = w → wcl n2 u = wcl n u := fun u hu => by unfold wcl; rw [hn _ (by omega) (by omega)]
  have wE : wcl n2 w = (cell : Int) := ec
  have oN : ∀ k, ¬ k = cell → occ b q2 k = occ b q k := fun k hk => by unfold occ; rw [hq (35, b, 0) k (by unfold wR; dsimp only; omega) (cne (by omega)) (cne (by omega)) (cne (by omega)) (fun z => hk z.2) (fun z => cne (by omega) z.1)]
  obtain ⟨m1, m2, m3⟩ := h.2.2.2.2.2
  have mz := m3 w (by omega) h8
  refine ⟨⟨?_, fun k hk => ?_, fun k hk => ?_⟩, THR_keep h.2.1 b1.2 (fun r k hr => qq _ _ _ (by unfold wR; omega) (by omega) (by omega) (by omega) (by omega) (by omega)) (fun j hj => hn j (by omega) (by omega)), ⟨e10, fun u hu => ?_⟩,
    TXR_keep h.2.2.2.1 (TXz hN) (fun r u k hr hu => qq _ _ _ (by unfold wR; omega) (by omega) (by omega) (by omega) (by omega) (by omega)) (fun j h1 h2 => hn j (by omega) (by omega)), ?_, ?_⟩
  · rw [hq (10, b, 0) 7 (by unfold wR; dsimp only; omega) (cne (by omega)) (cne (by omega)) (cne (by omega)) (fun z => cne (by omega) z.1) (fun z => absurd z.2 (by omega)), hn 0 (by omega) (by omega)]; exact h.1.1
  · rw [qq 2 0 k (by unfold wR; omega) (by omega) (by omega) (by omega) (by omega) (by omega), hn _ (by omega) (by omega)]; exact h.1.2.1 k hk
  · rw [qq 26 0 k (by unfold wR; omega) (by omega) (by omega) (by omega) (by omega) (by omega), qq 27 0 k (by unfold wR; omega) (by omega) (by omega) (by omega) (by omega) (by omega), hn _ (by omega) (by omega), hn _ (by omega) (by omega)]; exact h.1.2.2 k hk
  · rw [ew] at hu
    by_cases z : u = w
    · subst z
      refine ⟨fun k hk => ?_, fun c hcc => ?_⟩
      · by_cases y : k < 5
        · exact e9 k y
        · rw [e9z k (by omega) hk, hn _ (by omega) (by omega)]; exact (mz.1 k hk).symm
      · have z1 := mz.2 c (by omega)
        have z2 := mz.2 (192 + c) (by omega)
        rw [(e40 c hcc).1, (e40 c hcc).2, hn _ (by omega) (by omega), hn _ (by omega) (by omega), z1]
        rw [show 495 + 384 * u + (192 + c) = 687 + 384 * u + c by omega] at z2
        exact ⟨rfl, z2.symm⟩
    · have g := h.2.2.1.2 u (by omega)
      refine ⟨fun k hk => ?_, fun c hcc => ?_⟩
      · rw [hq _ _ (by unfold wR; dsimp only; omega) (fun y => z (congrArg (fun c : rf => c.2.2) y)) (cne (by omega)) (cne (by omega)) (fun y => cne (by omega) y.1) (fun y => cne (by omega) y.1), hn _ (by omega) (by omega)]; exact g.1 k hk
      · rw [hq (40, b, u) c (by unfold wR; dsimp only; omega) (cne (by omega)) (fun y => z (congrArg (fun c : rf => c.2.2) y)) (cne (by omega)) (fun y => cne (by omega) y.1) (fun y => cne (by omega) y.1), hq (41, b, u) c (by unfold wR; dsimp only; omega) (cne (by omega)) (cne (by omega)) (fun y => z (congrArg (fun c : rf => c.2.2) y)) (fun y => cne (by omega) y.1) (fun y => cne (by omega) y.1), hn _ (by omega) (by omega), hn _ (by omega) (by omega)]
        exact g.2 c hcc
  · obtain ⟨h1, h2, h3⟩ := h.2.2.2.2.1
    unfold OCC
    rw [et, ew]
    refine ⟨fun s hs hp => ?_, fun u hu => ?_, fun c hcc => ?_⟩
    · rw [tN s hs] at hp ⊢
      have g := h1 s hs hp
      rw [oN _ (fun y => by rw [y] at g; omega)]; exact g
    · by_cases z : u = w
      · rw [z, wE, Int.toNat_natCast]; exact e35
      · rw [wN u z]
        have g := h2 u (by omega)
        rw [oN _ (fun y => by rw [y] at g; omega)]; exact g
    · by_cases z : c = cell
      · have e : occ b q2 c = 100 + (w : Int) := by rw [z]; exact e35
        rw [e]
        exact Or.inr (Or.inr ⟨by omega, by omega, by rw [show (100 + (w : Int) - 100).toNat = w by omega, wE, z]⟩)
      · rw [oN c z]
        rcases h3 c hcc with o | ⟨o1, o2, o3⟩ | ⟨o1, o2, o3⟩
        · exact Or.inl o
        · exact Or.inr (Or.inl ⟨o1, o2, by rw [tN _ (by omega)]; exact o3⟩)
        · exact Or.inr (Or.inr ⟨o1, by omega, by rw [wN _ (by omega)]; exact o3⟩)
  · unfold MIR
    rw [et, ew]
    refine ⟨fun u hu => ?_, fun s hs => by rw [hn _ (by omega) (by omega), hn _ (by omega) (by omega)]; exact m2 s hs, fun u a c => ⟨fun k hk => by rw [hn _ (by omega) (by omega)]; exact (m3 u (by omega) c).1 k hk, fun k hk => by rw [hn _ (by omega) (by omega)]; exact (m3 u (by omega) c).2 k hk⟩⟩
    by_cases z : u = w
    · rw [z]; exact ep
    · rw [hn _ (by omega) (by omega), hn _ (by omega) (by omega)]; exact m1 u (by omega)
/-- a thing is away -/
theorem WRR_away {b t c0 : Nat} {M D : mM} (h : WRR b M.1 (D.1 (50, 0, 0))) (hN : NW5 (D.1 (50, 0, 0))) (ht : (t : Int) < nTh (D.1 (50, 0, 0))) (h0 : tcl (D.1 (50, 0, 0)) t = (c0 : Int)) :
    WRR b (up (up M (35, b, 0) c0 (-1)) (37, b, 0) t (-1)).1 ((up D (50, 0, 0) (21 + 4 * t) (-1)).1 (50, 0, 0)) := by
  have b1 := nTh_b hN
  have b2 := nWa_b hN
  rw [up_row]
  have nn : ∀ j, ¬ j = 21 + 4 * t → upd (D.1 (50, 0, 0)) (21 + 4 * t) (-1) j = D.1 (50, 0, 0) j := fun j hj => updN hj
  have qq : ∀ (c : rf) (k : Nat), ¬ c.1 = 35 → ¬ c.1 = 37 → (up (up M (35, b, 0) c0 (-1)) (37, b, 0) t (-1)).1 c k = M.1 c k := fun c k h1 h2 => by
    rw [zupR rfl h2, zupR rfl h1]
  refine ⟨LWR_keep h.1 (fun r k hr => qq _ _ (by dsimp only; omega) (by dsimp only; omega)) (fun j hj => nn j (by omega)), ?_, WAR_keep h.2.2.1 b2.2 (fun r w k hr => qq _ _ (by dsimp only; omega) (by dsimp only; omega)) (qq _ _ (by simp) (by simp)) (fun j hj => nn j (by omega)),
    TXR_keep h.2.2.2.1 (TXz hN) (fun r u k hr hu => qq _ _ (by dsimp only; omega) (by dsimp only; omega)) (fun j h1 h2 => nn j (by omega)), ?_, MIR_keep h.2.2.2.2.2 b1.2 b2.2 (fun j hj => nn j (by omega)) (fun w h1 h2 => ⟨fun k hk => nn _ (by omega), fun c hc => nn _ (by omega)⟩)⟩
  · have g := THR_one (q2 := (up (up M (35, b, 0) c0 (-1)) (37, b, 0) t (-1)).1) (t := t) (f := 1) (x := -1) h.2.1 b1.2 (by omega) (qq _ _ (by simp) (by simp)) (fun g k hg => by
      by_cases e : g = 1 ∧ k = t
      · rw [if_pos e]; exact zupE rfl (by rw [e.1]) e.2
      · rw [if_neg e, zupN rfl (fun z => e ⟨by have := congrArg (fun c : rf => c.1) z.1; dsimp only at this; omega, z.2⟩), zupR rfl (by dsimp only; omega)])
    rw [show 20 + 4 * t + 1 = 21 + 4 * t by omega] at g
    exact g
  · obtain ⟨h1, h2, h3⟩ := h.2.2.2.2.1
    have o0 := h1 t ht (by omega)
    rw [h0, Int.toNat_natCast] at o0
    have ho : ∀ k, occ b (up (up M (35, b, 0) c0 (-1)) (37, b, 0) t (-1)).1 k = if k = c0 then -1 else occ b M.1 k := fun k => by
      unfold occ
      rw [zupR (c' := (35, b, 0)) rfl (by simp)]
      by_cases e2 : k = c0
      · rw [if_pos e2, zupE rfl rfl e2]; exact il_m1
      · rw [if_neg e2, zupN rfl (fun z => e2 z.2)]
    have et : nTh (upd (D.1 (50, 0, 0)) (21 + 4 * t) (-1)) = nTh (D.1 (50, 0, 0)) := by unfold nTh; rw [nn _ (by omega)]
    have ew : nWa (upd (D.1 (50, 0, 0)) (21 + 4 * t) (-1)) = nWa (D.1 (50, 0, 0)) := by unfold nWa; rw [nn _ (by omega)]
    have tE : tcl (upd (D.1 (50, 0, 0)) (21 + 4 * t) (-1)) t = -1 := by unfold tcl; rw [updE rfl]; exact il_m1
    have tN : ∀ s : Nat, ¬ s = t → tcl (upd (D.1 (50, 0, 0)) (21 + 4 * t) (-1)) s = tcl (D.1 (50, 0, 0)) s := fun s hs => by unfold tcl; rw [nn _ (by omega)]
    have wN : ∀ w : Nat, wcl (upd (D.1 (50, 0, 0)) (21 + 4 * t) (-1)) w = wcl (D.1 (50, 0, 0)) w := fun w => by unfold wcl; rw [nn _ (by omega)]
    unfold OCC
    rw [et, ew]
    refine ⟨fun s hs hp => ?_, fun w hw => ?_, fun c hc => ?_⟩
    · by_cases e : s = t
      · rw [e, tE] at hp; omega
      · rw [tN s e] at hp ⊢
        have g := h1 s hs hp
        rw [ho, if_neg (fun z => by rw [z] at g; omega)]
        exact g
    · rw [wN]
      have g := h2 w hw
      rw [ho, if_neg (fun z => by rw [z] at g; omega)]
      exact g
    · rw [ho]
      by_cases e2 : c = c0
      · rw [if_pos e2]; exact Or.inl rfl
      · rw [if_neg e2]
        rcases h3 c hc with o | ⟨o1, o2, o3⟩ | ⟨o1, o2, o3⟩
        · exact Or.inl o
        · refine Or.inr (Or.inl ⟨o1, o2, ?_⟩)
          rw [tN _ (fun z => by rw [z, h0] at o3; omega)]
          exact o3
        · exact Or.inr (Or.inr ⟨o1, o2, by rw [wN]; exact o3⟩)
end
