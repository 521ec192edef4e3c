/-! things go on -/
theorem OCC_move {b : Nat} {q q2 : rf → Nat → Int32} {n : Nat → Int32} {t : Nat} {x : Int32} {to c0 : Nat} (h : OCC b q n) (hN : nTh n ≤ 40) (hW : nWa n ≤ 8) (ht : (t : Int) < nTh n) (h0 : tcl n t = (c0 : Int)) (hx : x.toInt = (to : Int)) (hto : to < 192) (hf : occ b q to = -1)
    (ho : ∀ k, occ b q2 k = if k = to then (t : Int) else if k = c0 then -1 else occ b q k) : OCC b q2 (upd n (21 + 4 * t) x) := by
  obtain ⟨h1, h2, h3⟩ := h
  have o0 := h1 t ht (by omega)
  rw [h0, Int.toNat_natCast] at o0
  have et : nTh (upd n (21 + 4 * t) x) = nTh n := by unfold nTh; rw [updN (by omega)]
  have ew : nWa (upd n (21 + 4 * t) x) = nWa n := by unfold nWa; rw [updN (by omega)]
  have tE : tcl (upd n (21 + 4 * t) x) t = (to : Int) := by unfold tcl; rw [updE rfl]; exact hx
  have tN : ∀ s : Nat, ¬ s = t → tcl (upd n (21 + 4 * t) x) s = tcl n s := fun s hs => by unfold tcl; rw [updN (by omega)]
  have wN : ∀ w : Nat, wcl (upd n (21 + 4 * t) x) w = wcl n w := fun w => by unfold wcl; rw [updN (by omega)]
  unfold OCC
  rw [et, ew]
  refine ⟨fun s hs hp => ?_, fun w hw => ?_, fun c hc => ?_⟩
  · by_cases e : s = t
    · rw [e, tE, ho, if_pos (by omega)]
    · rw [tN s e] at hp ⊢
      have g := h1 s hs hp
      rw [ho, if_neg (fun z => by rw [z] at g; omega), if_neg (fun z => by rw [z] at g; omega)]
      exact g
  · rw [wN]
    have g := h2 w hw
    rw [ho, if_neg (fun z => by rw [z] at g; omega), if_neg (fun z => by rw [z] at g; omega)]
    exact g
  · rw [ho]
    by_cases e : c = to
    · rw [if_pos e]
      exact Or.inr (Or.inl ⟨by omega, ht, by rw [Int.toNat_natCast, tE, e]⟩)
    · rw [if_neg e]
      by_cases e2 : c = c0
      · rw [if_pos e2]; exact Or.inl rfl
      · rw [if_neg e2]
        rcases h3 c hc with o | ⟨o1, o2, o3⟩ | ⟨o1, o2, o3⟩
        · exact Or.inl o
        · refine Or.inr (Or.inl ⟨o1, o2, ?_⟩)
          rw [tN _ (fun z => by rw [z, h0] at o3; omega)]
          exact o3
        · exact Or.inr (Or.inr ⟨o1, o2, by rw [wN]; exact o3⟩)
theorem THR_one {b : Nat} {q q2 : rf → Nat → Int32} {n : Nat → Int32} {t f : Nat} {x : Int32} (h : THR b q n) (hN : nTh n ≤ 40) (hf : f < 4) (h7 : q2 (7, b, 0) 5 = q (7, b, 0) 5) (hq : ∀ g k, g < 4 → q2 (36 + g, b, 0) k = if g = f ∧ k = t then x else q (36 + g, b, 0) k) : THR b q2 (upd n (20 + 4 * t + f) x) := by
  have et : nTh (upd n (20 + 4 * t + f) x) = nTh n := by unfold nTh; rw [updN (by omega)]
  refine ⟨by rw [h7, updN (by omega)]; exact h.1, fun s hs => ?_⟩
  rw [et] at hs
  have g := h.2 s hs
  have one : ∀ g, g < 4 → q (36 + g, b, 0) s = n (20 + g + 4 * s) → q2 (36 + g, b, 0) s = upd n (20 + 4 * t + f) x (20 + g + 4 * s) := fun g hg e => by
    rw [hq g s hg]
    by_cases z : g = f ∧ s = t
    · rw [if_pos z, updE (by omega)]
    · rw [if_neg z, updN (by omega)]; exact e
  exact ⟨one 0 (by omega) g.1, one 1 (by omega) g.2.1, one 2 (by omega) g.2.2.1, one 3 (by omega) g.2.2.2⟩
/-- a thing turns about -/
theorem WRR_turn {b : Nat} {M D : mM} {t : Nat} {x : Int32} (h : WRR b M.1 (D.1 (50, 0, 0))) (hN : NW5 (D.1 (50, 0, 0))) (ht : (t : Int) < nTh (D.1 (50, 0, 0))) : WRR b (up M (38, b, 0) t x).1 ((up D (50, 0, 0) (22 + 4 * t) x).1 (50, 0, 0)) := by
  have b1 := nTh_b hN
  have b2 := nWa_b hN
  rw [up_row]
  have nn : ∀ j, ¬ j = 22 + 4 * t → upd (D.1 (50, 0, 0)) (22 + 4 * t) x j = D.1 (50, 0, 0) j := fun j hj => updN hj
  refine ⟨LWR_keep h.1 (fun r k hr => zupR rfl (by dsimp only; omega)) (fun j hj => nn j (by omega)), ?_, WAR_keep h.2.2.1 b2.2 (fun r w k hr => zupR rfl (by dsimp only; omega)) (zupR rfl (by first | decide | simp | (dsimp only; omega))) (fun j hj => nn j (by omega)),
    TXR_keep h.2.2.2.1 (TXz hN) (fun r u k hr hu => zupR rfl (by dsimp only; omega)) (fun j h1 h2 => nn j (by omega)), OCC_keep h.2.2.2.2.1 b1.2 b2.2 (fun k => zupR rfl (by simp)) (fun j hj => nn j (by omega)) (fun j hj => nn j (by omega)), MIR_keep h.2.2.2.2.2 b1.2 b2.2 (fun j hj => nn j (by omega)) (fun w h1 h2 => ⟨fun k hk => nn _ (by omega), fun c hc => nn _ (by omega)⟩)⟩
  have g := THR_one (q2 := (up M (38, b, 0) t x).1) (t := t) (f := 2) (x := x) h.2.1 b1.2 (by omega) (zupR rfl (by simp)) (fun g k hg => by
    by_cases e : g = 2 ∧ k = t
    · rw [if_pos e]; exact zupE rfl (by rw [e.1]) e.2
    · rw [if_neg e]; exact zupN rfl (fun z => e ⟨by have := congrArg (fun c : rf => c.1) z.1; dsimp only at this; omega, z.2⟩))
  rw [show 20 + 4 * t + 2 = 22 + 4 * t by omega] at g
  exact g
/-- a thing goes to the next cell -/
theorem WRR_move {b : Nat} {M D : mM} {t to c0 : Nat} {x i : Int32} (h : WRR b M.1 (D.1 (50, 0, 0))) (hN : NW5 (D.1 (50, 0, 0))) (ht : (t : Int) < nTh (D.1 (50, 0, 0))) (hi : i.toInt = (t : Int)) (h0 : tcl (D.1 (50, 0, 0)) t = (c0 : Int)) (hx : x.toInt = (to : Int)) (hto : to < 192) (hf : occ b M.1 to = -1) :
    WRR b (up (up (up M (35, b, 0) c0 (-1)) (35, b, 0) to i) (37, b, 0) t x).1 ((up D (50, 0, 0) (21 + 4 * t) x).1 (50, 0, 0)) := by
  have b1 := nTh_b hN
  have b2 := nWa_b hN
  rw [up_row]
  have nn : ∀ j, ¬ j = 21 + 4 * t → upd (D.1 (50, 0, 0)) (21 + 4 * t) x j = D.1 (50, 0, 0) j := fun j hj => updN hj
  have qq : ∀ (c : rf) (k : Nat), ¬ c.1 = 35 → ¬ c.1 = 37 → (up (up (up M (35, b, 0) c0 (-1)) (35, b, 0) to i) (37, b, 0) t x).1 c k = M.1 c k := fun c k h1 h2 => by
    rw [zupR rfl h2, zupR rfl h1, zupR rfl h1]
  refine ⟨LWR_keep h.1 (fun r k hr => qq _ _ (by dsimp only; omega) (by dsimp only; omega)) (fun j hj => nn j (by omega)), ?_, WAR_keep h.2.2.1 b2.2 (fun r w k hr => qq _ _ (by dsimp only; omega) (by dsimp only; omega)) (qq _ _ (by simp) (by simp)) (fun j hj => nn j (by omega)),
    TXR_keep h.2.2.2.1 (TXz hN) (fun r u k hr hu => qq _ _ (by dsimp only; omega) (by dsimp only; omega)) (fun j h1 h2 => nn j (by omega)), ?_, MIR_keep h.2.2.2.2.2 b1.2 b2.2 (fun j hj => nn j (by omega)) (fun w h1 h2 => ⟨fun k hk => nn _ (by omega), fun c hc => nn _ (by omega)⟩)⟩
  · have g := THR_one (q2 := (up (up (up M (35, b, 0) c0 (-1)) (35, b, 0) to i) (37, b, 0) t x).1) (t := t) (f := 1) (x := x) h.2.1 b1.2 (by omega) (qq _ _ (by simp) (by simp)) (fun g k hg => by
      by_cases e : g = 1 ∧ k = t
      · rw [if_pos e]; exact zupE rfl (by rw [e.1]) e.2
      · rw [if_neg e, zupN rfl (fun z => e ⟨by have := congrArg (fun c : rf => c.1) z.1; dsimp only at this; omega, z.2⟩), zupR rfl (by dsimp only; omega), zupR rfl (by dsimp only; omega)])
    rw [show 20 + 4 * t + 1 = 21 + 4 * t by omega] at g
    exact g
  · refine OCC_move h.2.2.2.2.1 b1.2 b2.2 ht h0 hx hto hf (fun k => ?_)
    unfold occ
    rw [zupR (c' := (35, b, 0)) rfl (by simp)]
    by_cases e : k = to
    · rw [if_pos e, zupE rfl rfl e]; exact hi
    · rw [if_neg e, zupN rfl (fun z => e z.2)]
      by_cases e2 : k = c0
      · rw [if_pos e2, zupE rfl rfl e2]; exact il_m1
      · rw [if_neg e2, zupN rfl (fun z => e2 z.2)]
theorem x7settle {b : Nat} {v u : Int32} {M M' : mM} (h : SP_X7_settle b v u M M') (hv : 0 ≤ v.toInt ∧ v.toInt ≤ 191) : M' = up M (35, b, 0) v.toInt.toNat u := by
  unfold SP_X7_settle at h
  rcases h with (⟨hs5_, h4_, j9_, h10_, M7_, hM8_, hM_⟩ | ⟨hs5_, h4_, hM_⟩)
  · obtain rfl : j9_ = v.toInt.toNat := by omega
    rw [hM_, hM8_]
  · omega
def goC (now step cell : Int32) : Prop := 0 ≤ cell.toInt ∧ 0 < step.toInt ∧ (now - now / step * step).toInt = 0
theorem thC {b : Nat} {now i i2 : Int32} {Mz M M' : mM} (h : ST_X7_letThingsGo_2 b now Mz i M i2 M') (hs : 0 ≤ (M.1 (38, b, 0) i.toInt.toNat).toInt ∧ (M.1 (38, b, 0) i.toInt.toNat).toInt ≤ 7) (hc : (M.1 (37, b, 0) i.toInt.toNat).toInt ≤ 191) :
    (¬ goC now (M.1 (39, b, 0) i.toInt.toNat) (M.1 (37, b, 0) i.toInt.toNat) ∧ M' = M) ∨ (goC now (M.1 (39, b, 0) i.toInt.toNat) (M.1 (37, b, 0) i.toInt.toNat) ∧ ∃ r : Int32, r.toInt = onI (M.1 (37, b, 0) i.toInt.toNat).toInt (M.1 (38, b, 0) i.toInt.toNat).toInt 1 ∧
      (((0 ≤ r.toInt ∧ r.toInt ≤ 191 ∧ occ b M.1 r.toInt.toNat = -1) ∧ M' = up (up (up M (35, b, 0) (M.1 (37, b, 0) i.toInt.toNat).toInt.toNat (-1)) (35, b, 0) r.toInt.toNat i) (37, b, 0) i.toInt.toNat r) ∨
       (¬ (0 ≤ r.toInt ∧ r.toInt ≤ 191 ∧ occ b M.1 r.toInt.toNat = -1) ∧ M' = up M (38, b, 0) i.toInt.toNat ((M.1 (38, b, 0) i.toInt.toNat + (4 : Int32)) &&& (7 : Int32))))) := by
  have q0 := il_0
  have q1 := il_1
  unfold goC
  unfold ST_X7_letThingsGo_2 at h
  rcases h with ⟨hv0_2, -, hF_2, z2_, e3_, h4_, h5_, j8_, h9_, z6_, e7_, j12_, h13_, z10_, e11_, (⟨h14_, z15_, h16_, hq_v2_2y, hM_⟩ | ⟨h14_, (⟨h17_, z18_, h19_, hq_v2_2y, hM_⟩ | ⟨h17_, z20_, h21_, (⟨h22_, z23_, h24_, hq_v2_2y, hM_⟩ | ⟨h22_, M25_, -, hF29_, hs31_, z32_, h33_, hq_v2_2y, hM_⟩)⟩)⟩)⟩
  · obtain rfl : j12_ = i.toInt.toNat := by omega
    have := eT e11_
    exact Or.inl ⟨by omega, hM_⟩
  · obtain rfl : j8_ = i.toInt.toNat := by omega
    have := eT e7_
    exact Or.inl ⟨by omega, hM_⟩
  · obtain rfl : j8_ = i.toInt.toNat := by omega
    rw [h21_, e7_] at h22_
    exact Or.inl ⟨by omega, hM_⟩
  · obtain rfl : j8_ = i.toInt.toNat := by omega
    obtain rfl : j12_ = i.toInt.toNat := by omega
    have y1 := eT e7_
    have y2 := eT e11_
    rw [h21_, e7_] at h22_
    refine Or.inr ⟨⟨by omega, by omega, h22_⟩, ?_⟩
    unfold SP_X7_letThingGo at hs31_
    rcases hs31_ with (⟨k_hs5_, k_h4_, k_j9_, k_h10_, k_z7_, k_e8_, k_j13_, k_h14_, k_z11_, k_e12_, k_r15_, k_hs19_, k_h18_, (⟨k_hs24_, k_h23_, k_j28_, k_h29_, k_z26_, k_e27_, k_M30_, -, k_hF34_, k_hs36_, k_M37_, -, k_hF41_, k_hs43_, k_j46_, k_h47_, k_M44_, k_hM45_, k_hM_⟩ | ⟨k_hs24_, k_j53_, k_h54_, k_z51_, k_e52_, k_z55_, k_h56_, k_z57_, k_h59_, k_h58_, k_j62_, k_h63_, k_M60_, k_hM61_, k_hM_⟩)⟩ | ⟨k_hs5_, k_hM_⟩)
    · obtain rfl : k_j9_ = i.toInt.toNat := by omega
      obtain rfl : k_j13_ = i.toInt.toNat := by omega
      obtain rfl : k_j28_ = i.toInt.toNat := by omega
      obtain rfl : k_j46_ = i.toInt.toNat := by omega
      have cf := cF_spec k_hs19_
      rw [k_e8_, k_e12_] at cf
      have fr := x7free k_hs24_
      have r1 : k_r15_.toInt = onI (M.1 (37, b, 0) i.toInt.toNat).toInt (M.1 (38, b, 0) i.toInt.toNat).toInt 1 := by
        rcases cf with cf | cf
        · rw [cf.2, q1]
        · omega
      have s1 := x7settle k_hs36_ (by rw [k_e27_]; omega)
      have s2 := x7settle k_hs43_ k_h23_
      refine ⟨k_r15_, r1, Or.inl ⟨by omega, ?_⟩⟩
      rw [hM_, k_hM_, k_hM45_, s2, s1, k_e27_]
    · obtain rfl : k_j9_ = i.toInt.toNat := by omega
      obtain rfl : k_j13_ = i.toInt.toNat := by omega
      obtain rfl : k_j53_ = i.toInt.toNat := by omega
      obtain rfl : k_j62_ = i.toInt.toNat := by omega
      have cf := cF_spec k_hs19_
      rw [k_e8_, k_e12_] at cf
      have fr := x7free k_hs24_
      have r1 : k_r15_.toInt = onI (M.1 (37, b, 0) i.toInt.toNat).toInt (M.1 (38, b, 0) i.toInt.toNat).toInt 1 := by
        rcases cf with cf | cf
        · rw [cf.2, q1]
        · omega
      refine ⟨k_r15_, r1, Or.inr ⟨by omega, ?_⟩⟩
      rw [hM_, k_hM_, k_hM61_, k_h59_, k_h56_, k_e52_]
    · have g := x7has k_hs5_
      have y3 := eT e3_
      omega
def goD (now kind step cell : Int32) : Prop := 3 ≤ kind.toInt ∧ ¬ step.toInt = 0 ∧ 0 ≤ cell.toInt ∧ (now - now / step * step).toInt = 0
theorem thD {b : Nat} {q : rf → Nat → Int32} {i : Int32} {D D2 : mM} (h : SP_X12_thingGoes i D D2) (hO : OCC b q (D.1 (50, 0, 0))) (hu : (D.1 (12, 0, 0) 7).toInt = -1) (hi : 0 ≤ i.toInt ∧ i.toInt ≤ 39) :
    (¬ goD (D.1 (50, 0, 0) 0) (D.1 (50, 0, 0) (20 + 4 * i.toInt.toNat)) (D.1 (50, 0, 0) (23 + 4 * i.toInt.toNat)) (D.1 (50, 0, 0) (21 + 4 * i.toInt.toNat)) ∧ D2 = D) ∨
    (goD (D.1 (50, 0, 0) 0) (D.1 (50, 0, 0) (20 + 4 * i.toInt.toNat)) (D.1 (50, 0, 0) (23 + 4 * i.toInt.toNat)) (D.1 (50, 0, 0) (21 + 4 * i.toInt.toNat)) ∧ ∃ r : Int32, r.toInt = onI (D.1 (50, 0, 0) (21 + 4 * i.toInt.toNat)).toInt (D.1 (50, 0, 0) (22 + 4 * i.toInt.toNat)).toInt 1 ∧
      (((0 ≤ r.toInt ∧ r.toInt ≤ 191 ∧ occ b q r.toInt.toNat = -1) ∧ D2 = up D (50, 0, 0) (21 + 4 * i.toInt.toNat) r) ∨
       (¬ (0 ≤ r.toInt ∧ r.toInt ≤ 191 ∧ occ b q r.toInt.toNat = -1) ∧ D2 = up D (50, 0, 0) (22 + 4 * i.toInt.toNat) ((D.1 (50, 0, 0) (22 + 4 * i.toInt.toNat) + (4 : Int32)) &&& (7 : Int32))))) := by
  have q1 := il_1
  have q4 : (4 : Int32).toInt = 4 := by decide
  unfold goD
  unfold SP_X12_thingGoes at h
  obtain ⟨r1_, hs5_, h4_, z6_, h7_, j10_, h11_, z8_, e9_, r12_, hs16_, h15_, z17_, h18_, j21_, h22_, z19_, e20_, h23_, r24_, hs28_, h27_, z29_, h30_, j33_, h34_, z31_, e32_, h35_, h⟩ := h
  obtain rfl : j10_ = 23 + 4 * i.toInt.toNat := by omega
  obtain rfl : j21_ = 21 + 4 * i.toInt.toNat := by omega
  obtain rfl : j33_ = 20 + 4 * i.toInt.toNat := by omega
  rw [← e9_, ← e20_, ← e32_]
  rcases h with ⟨h36_, hM_⟩ | ⟨h36_, h⟩
  · exact Or.inl ⟨by omega, hM_⟩
  rcases h with ⟨h37_, hM_⟩ | ⟨h37_, h⟩
  · exact Or.inl ⟨by omega, hM_⟩
  rcases h with ⟨h38_, hM_⟩ | ⟨h38_, z39_, e40_, z41_, h42_, h⟩
  · exact Or.inl ⟨by omega, hM_⟩
  rw [← e40_, ← h42_]
  rcases h with ⟨h43_, r44_, hs48_, h47_, z49_, h50_, j53_, h54_, z51_, e52_, h55_, r56_, hs60_, h59_, h⟩ | ⟨h43_, hM_⟩
  · refine Or.inr ⟨⟨h36_, h37_, h38_, h43_⟩, r56_, ?_⟩
    obtain rfl : j53_ = 22 + 4 * i.toInt.toNat := by omega
    rw [← e52_]
    have on := on_spec h59_.1 ⟨h38_, h23_.2⟩ h55_ (by omega)
    rw [q1] at on
    refine ⟨on, ?_⟩
    have tn : ∀ {z a x j : Int32}, z = D.1 (50, 0, 0) (22 + 4 * i.toInt.toNat) → a.toInt = z.toInt + 4 → 0 ≤ z.toInt ∧ z.toInt ≤ 7 → x = a &&& (7 : Int32) → x = (z51_ + (4 : Int32)) &&& (7 : Int32) := fun {z a x j} hz ha hb hx => by
      have e : a = z51_ + (4 : Int32) := i32e (by rw [ha, addI (x := z51_) rfl q4 (by omega) (by omega), e52_, hz])
      rw [hx, e]
    rcases h with ⟨h61_, r62_, hs66_, h65_, z67_, h68_, r69_, hs73_, h72_, z74_, h75_, j78_, h79_, z76_, e77_, h80_, z81_, h82_, z83_, h85_, h84_, j88_, h89_, M86_, hM87_, hM_⟩ | ⟨h61_, r92_, hs96_, h95_, h⟩
    · refine Or.inr ⟨by omega, ?_⟩
      obtain rfl : j78_ = 22 + 4 * i.toInt.toNat := by omega
      obtain rfl : j88_ = 22 + 4 * i.toInt.toNat := by omega
      rw [hM_, hM87_, tn (j := 0) e77_ h82_ h80_ h85_]
    · have fr := x12free hs96_ hO (by omega) (by omega)
      rcases h with ⟨h97_, r98_, hs102_, h101_, z103_, h104_, r105_, hs109_, h108_, z110_, h111_, j114_, h115_, z112_, e113_, h116_, z117_, h118_, z119_, h121_, h120_, j124_, h125_, M122_, hM123_, hM_⟩ | ⟨h97_, r128_, hs132_, h131_, z133_, h134_, j137_, h138_, M135_, hM136_, hM_⟩
      · refine Or.inr ⟨by omega, ?_⟩
        obtain rfl : j114_ = 22 + 4 * i.toInt.toNat := by omega
        obtain rfl : j124_ = 22 + 4 * i.toInt.toNat := by omega
        rw [hM_, hM123_, tn (j := 0) e113_ h118_ h116_ h121_]
      · refine Or.inl ⟨by omega, ?_⟩
        obtain rfl : j137_ = 21 + 4 * i.toInt.toNat := by omega
        rw [hM_, hM136_]
  · exact Or.inl ⟨fun z => h43_ z.2.2.2, hM_⟩
theorem th_step {b : Nat} {now i i2 : Int32} {Mz M M' D D2 : mM} (h1 : ST_X7_letThingsGo_2 b now Mz i M i2 M') (h2 : SP_X12_thingGoes i D D2) (hR : WRR b M.1 (D.1 (50, 0, 0))) (hD : InvD D) (hu : (D.1 (12, 0, 0) 7).toInt = -1) (hnow : now = D.1 (50, 0, 0) 0) (hi : 0 ≤ i.toInt ∧ i.toInt < nTh (D.1 (50, 0, 0))) : WRR b M'.1 (D2.1 (50, 0, 0)) ∧ (∀ j, j < 20 → D2.1 (50, 0, 0) j = D.1 (50, 0, 0) j) ∧ ∀ (d : rf) (k : Nat), d.1 ≠ 50 → D2.1 d k = D.1 d k := by
  have b1 := nTh_b hD.2.1
  have T := hR.2.1.2 i.toInt.toNat (by omega)
  have P1 := ((hD.2.1.1 (21 + 4 * i.toInt.toNat)).2.2.2.2.2.2.1 (by omega) (by omega)).2.1 (by omega)
  have P2 := ((hD.2.1.1 (22 + 4 * i.toInt.toNat)).2.2.2.2.2.2.1 (by omega) (by omega)).2.2 (by omega)
  have MI := hR.2.2.2.2.2.2.1 i.toInt.toNat (by omega)
  have c := thC h1 (by rw [T.2.2.1]; exact P2) (by rw [T.2.1]; exact P1.2)
  have d := thD h2 hR.2.2.2.2.1 hu (by omega)
  rw [T.2.1, T.2.2.1, T.2.2.2, hnow] at c
  have go : goC (D.1 (50, 0, 0) 0) (D.1 (50, 0, 0) (23 + 4 * i.toInt.toNat)) (D.1 (50, 0, 0) (21 + 4 * i.toInt.toNat)) ↔ goD (D.1 (50, 0, 0) 0) (D.1 (50, 0, 0) (20 + 4 * i.toInt.toNat)) (D.1 (50, 0, 0) (23 + 4 * i.toInt.toNat)) (D.1 (50, 0, 0) (21 + 4 * i.toInt.toNat)) := by
    unfold goC goD
    omega
  rcases c with ⟨c1, c2⟩ | ⟨c1, r, c2, c3⟩ <;> rcases d with ⟨d1, d2⟩ | ⟨d1, r', d2, d3⟩
  · rw [c2, d2]; exact ⟨hR, fun _ _ => rfl, fun _ _ _ => rfl⟩
  · exact absurd (go.mpr d1) c1
  · exact absurd (go.mp c1) d1
  · obtain rfl : r = r' := i32e (c2.trans d2.symm)
    rcases c3 with ⟨c3, c4⟩ | ⟨c3, c4⟩ <;> rcases d3 with ⟨d3, d4⟩ | ⟨d3, d4⟩
    · rw [c4, d4]
      refine ⟨WRR_move hR hD.2.1 (by omega) (by omega) ?_ (by omega) (by omega) c3.2.2, fun j hj => by rw [up_row, updN (by omega)], fun d k hd => by rw [up_other _ _ (fun z => hd (by rw [z]))]⟩
      unfold tcl
      unfold goD at d1
      omega
    · exact absurd c3 d3
    · exact absurd d3 c3
    · rw [c4, d4]
      exact ⟨WRR_turn hR hD.2.1 (by omega), fun j hj => by rw [up_row, updN (by omega)], fun d k hd => by rw [up_other _ _ (fun z => hd (by rw [z]))]⟩
