/-! a click: what a head keeps of it -/
def bmp (x k : Int32) : Int32 := Int32.ofInt (if 99 ≤ (x + k).toInt then 99 else (x + k).toInt)
theorem bmp_of {x k s z : Int32} (h1 : s = x + k) (h2 : (z.toInt = 99 ∧ 99 ≤ s.toInt) ∨ (z.toInt = s.toInt ∧ s.toInt ≤ 99)) : z = bmp x k := by
  unfold bmp
  refine ofIe ?_
  rw [← h1]
  split <;> omega
def noF (f : Nat → Int32) (c s : Int) : Nat → Nat → Int32
  | 0 => f
  | k + 1 => upd (noF f c s k) (onI c s ((k + 1 : Nat) : Int)).toNat (bmp (noF f c s k (onI c s ((k + 1 : Nat) : Int)).toNat) 1)
theorem noF_cong {f g : Nat → Int32} {c s : Int} (h : ∀ k, k < 192 → f k = g k) : ∀ m : Nat, (∀ j : Nat, 1 ≤ j → j ≤ m → 0 ≤ onI c s (j : Int)) → ∀ k, k < 192 → noF f c s m k = noF g c s m k
  | 0, _, k, hk => h k hk
  | m + 1, hp, k, hk => by
    have ih := noF_cong h m (fun j a d => hp j a (by omega))
    have p := hp (m + 1) (by omega) (Nat.le_refl _)
    have ob := onI_b (c := c) (s := s) (y := ((m + 1 : Nat) : Int))
    show upd _ _ _ k = upd _ _ _ k
    unfold upd
    split
    · rw [ih _ (by omega)]
    · exact ih k hk
theorem WRR_heads {b w : Nat} {q q2 : rf → Nat → Int32} {n n2 : Nat → Int32} (h : WRR b q n) (hN : NW5 n) (hw : (w : Int) < nWa n) (hq : ∀ (c : rf) (k : Nat), c.1 ≠ 25 → c.1 ≠ 29 → ¬ c = (40, b, w) → ¬ c = (41, b, w) → q2 c k = q c k) (hn : ∀ j, j < 495 + 384 * w ∨ 879 + 384 * w ≤ j → n2 j = n j)
    (hy : ∀ k, k < 192 → q2 (40, b, w) k = n2 (495 + 384 * w + k) ∧ q2 (41, b, w) k = n2 (687 + 384 * w + k)) : WRR b q2 n2 := by
  have b1 := nTh_b hN
  have b2 := nWa_b hN
  have qq : ∀ (r u k : Nat), r ≠ 25 → r ≠ 29 → r ≠ 40 → r ≠ 41 → q2 (r, b, u) k = q (r, b, u) k := fun r u k h1 h2 h3 h4 => hq _ _ h1 h2 (fun z => h3 (congrArg (fun c : rf => c.1) z)) (fun z => h4 (congrArg (fun c : rf => c.1) z))
  have ew : nWa n2 = nWa n := by unfold nWa; rw [hn 2 (by omega)]
  refine ⟨LWR_keep h.1 (fun r k hr => qq _ _ _ (by omega) (by omega) (by omega) (by omega)) (fun j hj => hn j (by omega)), THR_keep h.2.1 b1.2 (fun r k hr => qq _ _ _ (by omega) (by omega) (by omega) (by omega)) (fun j hj => hn j (by omega)), ?_,
    TXR_keep h.2.2.2.1 (TXz hN) (fun r u k hr hu => qq _ _ _ (by omega) (by omega) (by omega) (by omega)) (fun j h1 h2 => hn j (by omega)), OCC_keep h.2.2.2.2.1 b1.2 b2.2 (fun k => qq _ _ _ (by omega) (by omega) (by omega) (by omega)) (fun j hj => hn j (by omega)) (fun j hj => hn j (by omega)), MIR_keep h.2.2.2.2.2 b1.2 b2.2 (fun j hj => hn j (by omega)) (fun u h1 h2 => ⟨fun k hk => hn _ (by omega), fun c hc => hn _ (by omega)⟩)⟩
  refine ⟨by rw [qq _ _ _ (by omega) (by omega) (by omega) (by omega), hn 2 (by omega)]; exact h.2.2.1.1, fun u hu => ⟨fun k hk => ?_, fun c hc => ?_⟩⟩
  · rw [ew] at hu
    rw [qq _ _ _ (by omega) (by omega) (by omega) (by omega), hn _ (by omega)]; exact (h.2.2.1.2 u hu).1 k hk
  · rw [ew] at hu
    by_cases e : u = w
    · rw [e]; exact hy c hc
    · rw [hq (40, b, u) c (by simp) (by simp) (fun z => e (congrArg (fun c : rf => c.2.2) z)) (fun z => absurd (congrArg (fun c : rf => c.1) z) (by simp)), hq (41, b, u) c (by simp) (by simp) (fun z => absurd (congrArg (fun c : rf => c.1) z) (by simp)) (fun z => e (congrArg (fun c : rf => c.2.2) z)), hn _ (by omega), hn _ (by omega)]
      exact (h.2.2.1.2 u hu).2 c hc
/-- a number of a walker changes that isn't its cell, pitch or loudness -/
theorem WRR_wf {b w f : Nat} {M D : mM} {x : Int32} (h : WRR b M.1 (D.1 (50, 0, 0))) (hN : NW5 (D.1 (50, 0, 0))) (hw : (w : Int) < nWa (D.1 (50, 0, 0))) (hf : f < 9 ∧ f ≠ 1 ∧ f ≠ 3 ∧ f ≠ 4) : WRR b (up M (9, b, w) f x).1 ((up D (50, 0, 0) (180 + 9 * w + f) x).1 (50, 0, 0)) := by
  have b1 := nTh_b hN
  have b2 := nWa_b hN
  rw [up_row]
  have nn : ∀ j, ¬ j = 180 + 9 * w + f → upd (D.1 (50, 0, 0)) (180 + 9 * w + f) x j = D.1 (50, 0, 0) j := fun j hj => updN hj
  have ew : nWa (upd (D.1 (50, 0, 0)) (180 + 9 * w + f) x) = nWa (D.1 (50, 0, 0)) := by unfold nWa; rw [nn 2 (by omega)]
  refine ⟨LWR_keep h.1 (fun r k hr => zupR rfl (by dsimp only; omega)) (fun j hj => nn j (by omega)), THR_keep h.2.1 b1.2 (fun r k hr => zupR rfl (by dsimp only; omega)) (fun j hj => nn j (by omega)), ?_,
    TXR_keep h.2.2.2.1 (TXz hN) (fun r u k hr hu => zupR rfl (by dsimp only; omega)) (fun j h1 h2 => nn j (by omega)), OCC_keep h.2.2.2.2.1 b1.2 b2.2 (fun k => zupR rfl (by simp)) (fun j hj => nn j (by omega)) (fun j hj => nn j (by omega)), MIR_keep h.2.2.2.2.2 b1.2 b2.2 (fun j hj => nn j (by omega)) (fun u h1 h2 => ⟨fun k hk => nn _ (by omega), fun c hc => nn _ (by omega)⟩)⟩
  refine ⟨by rw [zupR rfl (by simp), nn 2 (by omega)]; exact h.2.2.1.1, fun u hu => ⟨fun k hk => ?_, fun c hc => ?_⟩⟩
  · rw [ew] at hu
    by_cases e : u = w ∧ k = f
    · rw [e.1, e.2, zupE rfl rfl rfl, updE rfl]
    · rw [zupN rfl (fun z => e ⟨congrArg (fun c : rf => c.2.2) z.1, z.2⟩), nn _ (by omega)]; exact (h.2.2.1.2 u hu).1 k hk
  · rw [ew] at hu
    rw [zupR rfl (by simp), zupR rfl (by simp), nn _ (by omega), nn _ (by omega)]
    exact (h.2.2.1.2 u hu).2 c hc
theorem RCH_F {α : Type} {S : α → α → Prop} {a z : α} (h : RCH S a z) (hS : ∀ x y, ¬ S x y) : z = a := rind h (fun z => z = a) rfl (fun x y _ s => (hS x y s).elim)
theorem HyP_pos {n : Nat → Int32} {o : Nat → Int} {w : Nat} {c s : Int32} {r : Int} (h : HyP n o w c s r) (hr : ¬ r = 0) : 1 ≤ r ∧ r ≤ reachI (n (180 + 9 * w)).toInt ∧ ∀ j : Int, 1 ≤ j → j ≤ r → 0 ≤ onI c.toInt s.toInt j := by
  obtain ⟨y, E, d⟩ := h
  have e : r = y.toInt ∧ ¬ y.toInt = 0 := by
    rcases d with d | ⟨d, d2 | d2⟩
    · omega
    · exact ⟨d2.1, d⟩
    · omega
  rcases E with E | E
  · rw [e.1]
    refine ⟨E.1, E.2.1, fun j h1 h2 => ?_⟩
    by_cases z : j = y.toInt
    · rw [z]; exact E.2.2.2.1
    · exact (E.2.2.1 j h1 (by omega)).1
  · exact absurd E.1 e.2
theorem x9addYes {b w : Nat} {v u : Int32} {M M' : mM} (h : SP_X9_addYes b w v u M M') (hv : 0 ≤ v.toInt ∧ v.toInt ≤ 191) : M' = up M (40, b, w) v.toInt.toNat (bmp (M.1 (40, b, w) v.toInt.toNat) u) := by
  unfold SP_X9_addYes at h
  rcases h with (⟨hs5_, h4_, j9_, h10_, z7_, e8_, z11_, h12_, z13_, h14_, j17_, h18_, M15_, hM16_, hM_⟩ | ⟨hs5_, h4_, hM_⟩)
  · obtain rfl : j9_ = v.toInt.toNat := by omega
    obtain rfl : j17_ = v.toInt.toNat := by omega
    rw [hM_, hM16_, bmp_of h12_ h14_, e8_]
  · omega
theorem x9addNo {b w : Nat} {v : Int32} {M M' : mM} (h : SP_X9_addNo b w v M M') (hv : 0 ≤ v.toInt ∧ v.toInt ≤ 191) : M' = up M (41, b, w) v.toInt.toNat (bmp (M.1 (41, b, w) v.toInt.toNat) 1) := by
  unfold SP_X9_addNo at h
  rcases h with (⟨hs5_, h4_, j9_, h10_, z7_, e8_, z11_, h12_, z13_, h14_, j17_, h18_, M15_, hM16_, hM_⟩ | ⟨hs5_, h4_, hM_⟩)
  · obtain rfl : j9_ = v.toInt.toNat := by omega
    obtain rfl : j17_ = v.toInt.toNat := by omega
    rw [hM_, hM16_, bmp_of h12_ h14_, e8_]
  · omega
theorem x12more {v u : Int32} {M M' : mM} (h : SP_X12_more v u M M') : M' = up M (50, 0, 0) v.toInt.toNat (bmp (M.1 (50, 0, 0) v.toInt.toNat) u) := by
  unfold SP_X12_more at h
  rcases h with ⟨j3_, h4_, z1_, e2_, z5_, h6_, z7_, h8_, j11_, h12_, M9_, hM10_, hM_⟩
  obtain rfl : j3_ = v.toInt.toNat := by omega
  obtain rfl : j11_ = v.toInt.toNat := by omega
  rw [hM_, hM10_, bmp_of h6_ h8_, e2_]
/-- the class's inner loop -/
theorem clCi {b w : Nat} {Mz M0 : mM} {s r c : Int32} {z : Int32 × mM} (h : RCH (fun x_ y_ => ST_X10_makeClick_79b b Mz w s r x_.1 x_.2 y_.1 y_.2) ((1 : Int32), M0) z) (hc : M0.1 (9, b, w) 1 = c) (cb : 0 ≤ c.toInt ∧ c.toInt ≤ 191) (hs : 0 ≤ s.toInt ∧ s.toInt ≤ 7) (hr : 1 ≤ r.toInt ∧ r.toInt ≤ 12) (hp : ∀ j : Int, 1 ≤ j → j ≤ r.toInt → 0 ≤ onI c.toInt s.toInt j) :
    1 ≤ z.1.toInt ∧ z.1.toInt ≤ r.toInt ∧ z.2.1 (41, b, w) = noF (M0.1 (41, b, w)) c.toInt s.toInt (z.1.toInt.toNat - 1) ∧ ∀ (d : rf) (k : Nat), ¬ d = (41, b, w) → z.2.1 d k = M0.1 d k := by
  have q1 := il_1
  refine rind h (fun z => 1 ≤ z.1.toInt ∧ z.1.toInt ≤ r.toInt ∧ z.2.1 (41, b, w) = noF (M0.1 (41, b, w)) c.toInt s.toInt (z.1.toInt.toNat - 1) ∧ ∀ (d : rf) (k : Nat), ¬ d = (41, b, w) → z.2.1 d k = M0.1 d k) ⟨by dsimp only; omega, by dsimp only; omega, by dsimp only; rw [il_1]; rfl, fun _ _ _ => rfl⟩ (fun x z p st => ?_)
  obtain ⟨x1, x2⟩ := x
  obtain ⟨z1, z2⟩ := z
  (try dsimp only at p st ⊢)
  obtain ⟨p1, p2, p3, p4⟩ := p
  unfold ST_X10_makeClick_79b at st
  rcases st with ⟨k_hv0_79, -, k_hF_79, k_h52_, k_z55_, k_e56_, k_r57_, k_hs61_, k_h60_, k_M62_, -, k_hF66_, k_hs68_, k_z69_, k_h70_, k_hq_v6_79y, k_hM_⟩
  have e1 : k_z55_ = c := by rw [k_e56_, p4 _ _ (by simp)]; exact hc
  have cf := cF_spec k_hs61_
  rw [e1] at cf
  have pos := hp x1.toInt p1 (by omega)
  have er : k_r57_.toInt = onI c.toInt s.toInt x1.toInt := by omega
  have ad := x9addNo k_hs68_ (by omega)
  rw [k_hq_v6_79y, k_hM_]
  refine ⟨by omega, by omega, ?_, fun d k hd => ?_⟩
  · obtain ⟨m, hm⟩ : ∃ m : Nat, x1.toInt = ((m + 1 : Nat) : Int) := ⟨x1.toInt.toNat - 1, by omega⟩
    rw [show k_z69_.toInt.toNat - 1 = m + 1 by omega, ad, up_row, p3, show x1.toInt.toNat - 1 = m by omega, er, hm]
    rfl
  · rw [ad, up_other _ _ hd]; exact p4 d k hd
/-- the class, one side -/
theorem clC {b : Nat} {v s cnt s2 cnt2 : Int32} {Mz M M' : mM} {n : Nat → Int32} (h : ST_X10_makeClick_32 b v Mz v.toInt.toNat s cnt M s2 cnt2 M') (hR : WRR b M.1 n) (hN : NW5 n) (hv : 0 ≤ v.toInt ∧ v.toInt < nWa n) :
    ∃ r : Int32, HyP n (occ b M.1) v.toInt.toNat (n (181 + 9 * v.toInt.toNat)) s r.toInt ∧ 0 ≤ r.toInt ∧ r.toInt ≤ 12 ∧ (∀ (c : rf) (k : Nat), c.1 ≠ 25 → c.1 ≠ 29 → ¬ c = (40, b, v.toInt.toNat) → ¬ c = (41, b, v.toInt.toNat) → M'.1 c k = M.1 c k) ∧
      ((r.toInt = 0 ∧ cnt2 = cnt ∧ (∀ k, M'.1 (40, b, v.toInt.toNat) k = M.1 (40, b, v.toInt.toNat) k ∧ M'.1 (41, b, v.toInt.toNat) k = M.1 (41, b, v.toInt.toNat) k)) ∨
       (0 < r.toInt ∧ cnt2 = cnt + Int32.ofInt 1 ∧ M'.1 (40, b, v.toInt.toNat) = upd (M.1 (40, b, v.toInt.toNat)) (onI (n (181 + 9 * v.toInt.toNat)).toInt s.toInt r.toInt).toNat (bmp (M.1 (40, b, v.toInt.toNat) (onI (n (181 + 9 * v.toInt.toNat)).toInt s.toInt r.toInt).toNat) 1) ∧ M'.1 (41, b, v.toInt.toNat) = noF (M.1 (41, b, v.toInt.toNat)) (n (181 + 9 * v.toInt.toNat)).toInt s.toInt (r.toInt.toNat - 1))) := by
  have nw := nWa_b hN
  have w1 := (hR.2.2.1.2 v.toInt.toNat (by omega)).1 1 (by omega)
  rw [show 180 + 9 * v.toInt.toNat + 1 = 181 + 9 * v.toInt.toNat by omega] at w1
  have cb := ((hN.1 (181 + 9 * v.toInt.toNat)).2.2.2.2.2.2.2 (by omega) (by omega)).2.1 (by omega)
  unfold ST_X10_makeClick_32 at h
  obtain ⟨hv0_32, hv1_32, hI_32, hF_32, h19_, z20_, e21_, M23_, hI26_, hF27_, r22_, hs29_, h25_, h⟩ := h
  have ez : z20_ = n (181 + 9 * v.toInt.toNat) := e21_.trans w1
  have sb : 0 ≤ s.toInt ∧ s.toInt ≤ 7 := by omega
  have Y := x10heard hs29_ hR hN hv (by rw [ez]; exact cb) sb
  rw [ez] at Y
  have k23 : ∀ (c : rf) (k : Nat), c.1 ≠ 25 → c.1 ≠ 29 → M23_.1 c k = M.1 c k := fun c k h1 h2 => hF27_ c k (fun q => by simp only [S_c_X10_heardYards, or_false] at q; omega)
  refine ⟨r22_, Y, h25_.1, h25_.2, ?_⟩
  rcases h with ⟨h30_, v6_79, hv0_79, M_79, hL_79, hI_79, hF_79, h32_, z33_, h34_, e1, e2, e3⟩ | ⟨h30_, z35_, h36_, z37_, e38_, r39_, hs43_, h42_, M44_, hI47_, hF48_, hs50_, v6_79, hv0_79, M_79, hL_79, hI_79, hF_79, h52_, z53_, h54_, e1, e2, e3⟩
  · have em : M_79 = M23_ := congrArg (fun z : Int32 × mM => z.2) (RCH_F hL_79 (fun x y q => q))
    rw [e3, em]
    exact ⟨fun c k h1 h2 _ _ => k23 c k h1 h2, Or.inl ⟨by omega, e2, fun k => ⟨k23 _ _ (by simp) (by simp), k23 _ _ (by simp) (by simp)⟩⟩⟩
  · have ps := HyP_pos Y (by omega)
    have e37 : z37_ = n (181 + 9 * v.toInt.toNat) := by rw [e38_, k23 _ _ (by simp) (by simp)]; exact w1
    have cf := cF_spec hs43_
    rw [e37] at cf
    have pos := ps.2.2 r22_.toInt (by omega) (by omega)
    have er : r39_.toInt = onI (n (181 + 9 * v.toInt.toNat)).toInt s.toInt r22_.toInt := by omega
    have ad := x9addYes hs50_ (by omega)
    have inn := clCi hL_79 (c := n (181 + 9 * v.toInt.toNat)) (by rw [ad, up_other _ _ (by simp), k23 _ _ (by simp) (by simp)]; exact w1) cb sb (by omega) ps.2.2
    (try dsimp only at inn)
    obtain ⟨i1, i2, i3, i4⟩ := inn
    have r40 : M23_.1 (40, b, v.toInt.toNat) = M.1 (40, b, v.toInt.toNat) := funext fun k => k23 _ _ (by simp) (by simp)
    have r41 : M23_.1 (41, b, v.toInt.toNat) = M.1 (41, b, v.toInt.toNat) := funext fun k => k23 _ _ (by simp) (by simp)
    rw [e3]
    refine ⟨fun c k h1 h2 h3 h4 => by rw [i4 c k h4, ad, up_other _ _ h3]; exact k23 c k h1 h2, Or.inr ⟨h30_, by rw [e2]; exact h36_, ?_, ?_⟩⟩
    · rw [funext (fun k => i4 (40, b, v.toInt.toNat) k (by simp)), ad, up_row, r40, er]
    · rw [i3, ad, up_other _ _ (by simp), r41, show v6_79.toInt.toNat = r22_.toInt.toNat by omega]
/-- the model's inner loop -/
theorem clDi {v : Int32} {Mz D0 : mM} {s r c : Int32} {z : Int32 × mM} (h : RCH (fun x_ y_ => ST_X12_clicks_55 v Mz c s r x_.1 x_.2 y_.1 y_.2) ((1 : Int32), D0) z) (hv : 0 ≤ v.toInt ∧ v.toInt ≤ 7) (cb : 0 ≤ c.toInt ∧ c.toInt ≤ 191) (hs : 0 ≤ s.toInt ∧ s.toInt ≤ 7) (hr : 0 ≤ r.toInt ∧ r.toInt ≤ 12) (hp : ∀ j : Int, 1 ≤ j → j ≤ r.toInt → 0 ≤ onI c.toInt s.toInt j) :
    1 ≤ z.1.toInt ∧ (z.1.toInt ≤ r.toInt ∨ z.1.toInt = 1) ∧ (∀ k, k < 192 → z.2.1 (50, 0, 0) (687 + 384 * v.toInt.toNat + k) = noF (fun j => D0.1 (50, 0, 0) (687 + 384 * v.toInt.toNat + j)) c.toInt s.toInt (z.1.toInt.toNat - 1) k) ∧ (∀ j, j < 687 + 384 * v.toInt.toNat ∨ 879 + 384 * v.toInt.toNat ≤ j → z.2.1 (50, 0, 0) j = D0.1 (50, 0, 0) j) ∧ ∀ (d : rf) (k : Nat), ¬ d = (50, 0, 0) → z.2.1 d k = D0.1 d k := by
  have q1 := il_1
  refine rind h (fun z => 1 ≤ z.1.toInt ∧ (z.1.toInt ≤ r.toInt ∨ z.1.toInt = 1) ∧ (∀ k, k < 192 → z.2.1 (50, 0, 0) (687 + 384 * v.toInt.toNat + k) = noF (fun j => D0.1 (50, 0, 0) (687 + 384 * v.toInt.toNat + j)) c.toInt s.toInt (z.1.toInt.toNat - 1) k) ∧ (∀ j, j < 687 + 384 * v.toInt.toNat ∨ 879 + 384 * v.toInt.toNat ≤ j → z.2.1 (50, 0, 0) j = D0.1 (50, 0, 0) j) ∧ ∀ (d : rf) (k : Nat), ¬ d = (50, 0, 0) → z.2.1 d k = D0.1 d k) ⟨by dsimp only; omega, by dsimp only; omega, fun k _ => by dsimp only; rw [il_1]; rfl, fun _ _ => rfl, fun _ _ _ => rfl⟩ (fun x z p st => ?_)
  obtain ⟨x1, x2⟩ := x
  obtain ⟨z1, z2⟩ := z
  (try dsimp only at p st ⊢)
  obtain ⟨p1, p2, p3, p4, p5⟩ := p
  unfold ST_X12_clicks_55 at st
  rcases st with ⟨k_hv0_55, -, k_hF_55, k_h43_, k_r68_, k_hs72_, k_h71_, k_r73_, k_hs77_, k_h76_, k_M78_, -, k_hF82_, k_hs84_, k_z85_, k_h86_, k_hq_v6_55y, k_hM_⟩
  have on := on_spec k_h71_.1 cb hs (by omega)
  have pos := hp x1.toInt p1 (by omega)
  have ad := x12more k_hs84_
  have ob := onI_b (c := c.toInt) (s := s.toInt) (y := x1.toInt)
  have et : k_r73_.toInt.toNat = 687 + 384 * v.toInt.toNat + (onI c.toInt s.toInt x1.toInt).toNat := by omega
  rw [k_hq_v6_55y, k_hM_]
  refine ⟨by omega, by omega, fun k hk => ?_, fun j hj => ?_, fun d k hd => ?_⟩
  · obtain ⟨m, hm⟩ : ∃ m : Nat, x1.toInt = ((m + 1 : Nat) : Int) := ⟨x1.toInt.toNat - 1, by omega⟩
    rw [show k_z85_.toInt.toNat - 1 = m + 1 by omega, ad, up_row, et, p3 _ (by omega), show x1.toInt.toNat - 1 = m by omega]
    show _ = upd (noF _ c.toInt s.toInt m) (onI c.toInt s.toInt ((m + 1 : Nat) : Int)).toNat (bmp (noF _ c.toInt s.toInt m (onI c.toInt s.toInt ((m + 1 : Nat) : Int)).toNat) 1) k
    rw [← hm]
    by_cases e : k = (onI c.toInt s.toInt x1.toInt).toNat
    · rw [updE (by omega), updE e]
    · rw [updN (by omega), updN e, p3 k hk, show x1.toInt.toNat - 1 = m by omega]
  · rw [ad, up_row, updN (by omega)]; exact p4 j hj
  · rw [ad, up_other _ _ hd]; exact p5 d k hd
/-- the model, one side -/
theorem clD {b : Nat} {q : rf → Nat → Int32} {v c s cnt s2 cnt2 : Int32} {Mz D D2 : mM} (h : ST_X12_clicks_35 v Mz c s cnt D s2 cnt2 D2) (hO : OCC b q (D.1 (50, 0, 0))) (hx : ∀ w, w < 3 → ∀ i : Nat, (i : Int) < (D.1 (50, 0, 0) (345 + 50 * w)).toInt → cOK (nnU w) (D.1 (50, 0, 0) (346 + 50 * w + i))) (hv : 0 ≤ v.toInt ∧ v.toInt < nWa (D.1 (50, 0, 0))) (hc : c = D.1 (50, 0, 0) (181 + 9 * v.toInt.toNat)) (hu : (D.1 (12, 0, 0) 7).toInt = -1) :
    ∃ r : Int32, HyP (D.1 (50, 0, 0)) (occ b q) v.toInt.toNat c s r.toInt ∧ 0 ≤ r.toInt ∧ r.toInt ≤ 12 ∧ (∀ (d : rf) (k : Nat), d.1 ≠ 50 → d.1 ≠ 58 → d.1 ≠ 59 → D2.1 d k = D.1 d k) ∧ (∀ j, j < 495 + 384 * v.toInt.toNat ∨ 879 + 384 * v.toInt.toNat ≤ j → D2.1 (50, 0, 0) j = D.1 (50, 0, 0) j) ∧
      ((r.toInt = 0 ∧ cnt2 = cnt ∧ (∀ k, D2.1 (50, 0, 0) k = D.1 (50, 0, 0) k)) ∨
       (0 < r.toInt ∧ cnt2 = cnt + Int32.ofInt 1 ∧ (∀ k, k < 192 → D2.1 (50, 0, 0) (495 + 384 * v.toInt.toNat + k) = upd (fun j => D.1 (50, 0, 0) (495 + 384 * v.toInt.toNat + j)) (onI c.toInt s.toInt r.toInt).toNat (bmp (D.1 (50, 0, 0) (495 + 384 * v.toInt.toNat + (onI c.toInt s.toInt r.toInt).toNat)) 1) k ∧
          D2.1 (50, 0, 0) (687 + 384 * v.toInt.toNat + k) = noF (fun j => D.1 (50, 0, 0) (687 + 384 * v.toInt.toNat + j)) c.toInt s.toInt (r.toInt.toNat - 1) k))) := by
  unfold ST_X12_clicks_35 at h
  obtain ⟨hv0_35, hv1_35, hI_35, hF_35, h33_, M35_, hI38_, hF39_, r34_, hs41_, h37_, v6_55, hv0_55, M_55, hL_55, hI_55, hF_55, h43_, h⟩ := h
  have nw := nWa_b hI_35.2.1
  have cb := ((hI_35.2.1.1 (181 + 9 * v.toInt.toNat)).2.2.2.2.2.2.2 (by omega) (by omega)).2.1 (by omega)
  rw [← hc] at cb
  have sb : 0 ≤ s.toInt ∧ s.toInt ≤ 7 := by omega
  have Y := x12heard hs41_ hO hI_35 hx hv cb sb (Or.inr ⟨hu, by rw [hc]; rfl⟩)
  have k35 : ∀ (d : rf) (k : Nat), d.1 ≠ 58 → d.1 ≠ 59 → M35_.1 d k = D.1 d k := fun d k h1 h2 => hF39_ d k (fun q => by simp only [S_c_X12_heardFrom, or_false] at q; omega)
  have row : M35_.1 (50, 0, 0) = D.1 (50, 0, 0) := funext fun k => k35 _ _ (by simp) (by simp)
  have pz : ∀ j : Int, 1 ≤ j → j ≤ r34_.toInt → 0 ≤ onI c.toInt s.toInt j := fun j h1 h2 => (HyP_pos Y (by omega)).2.2 j h1 h2
  have inn := clDi hL_55 ⟨hv.1, by omega⟩ cb sb ⟨h37_.1, h37_.2.1⟩ pz
  (try dsimp only at inn)
  rw [row] at inn
  obtain ⟨i1, i2, i3, i4, i5⟩ := inn
  refine ⟨r34_, Y, h37_.1, h37_.2.1, ?_⟩
  rcases h with ⟨h44_, z45_, h46_, e1, e2, e3⟩ | ⟨h44_, r47_, hs51_, h50_, r52_, hs56_, h55_, M57_, hI60_, hF61_, hs63_, z64_, h65_, z66_, h67_, e1, e2, e3⟩
  · rw [e3]
    have al : ∀ k, M_55.1 (50, 0, 0) k = D.1 (50, 0, 0) k := fun k => by
      by_cases z : k < 687 + 384 * v.toInt.toNat ∨ 879 + 384 * v.toInt.toNat ≤ k
      · exact i4 k z
      · have g := i3 (k - (687 + 384 * v.toInt.toNat)) (by omega)
        rw [show v6_55.toInt.toNat - 1 = 0 by omega, show 687 + 384 * v.toInt.toNat + (k - (687 + 384 * v.toInt.toNat)) = k by omega] at g
        rw [g]
        show D.1 (50, 0, 0) (687 + 384 * v.toInt.toNat + (k - (687 + 384 * v.toInt.toNat))) = _
        rw [show 687 + 384 * v.toInt.toNat + (k - (687 + 384 * v.toInt.toNat)) = k by omega]
    exact ⟨fun d k h1 h2 h3 => by rw [i5 d k (fun z => h1 (by rw [z]))]; exact k35 d k h2 h3, fun j _ => al j, Or.inl ⟨by omega, e2, al⟩⟩
  · have on := on_spec h50_.1 cb sb (by omega)
    have pos := pz r34_.toInt (by omega) (by omega)
    have ob := onI_b (c := c.toInt) (s := s.toInt) (y := r34_.toInt)
    have ad := x12more hs63_
    have et : r52_.toInt.toNat = 495 + 384 * v.toInt.toNat + (onI c.toInt s.toInt r34_.toInt).toNat := by omega
    rw [e3]
    refine ⟨fun d k h1 h2 h3 => by rw [ad, up_other _ _ (fun z => h1 (by rw [z])), i5 d k (fun z => h1 (by rw [z]))]; exact k35 d k h2 h3, fun j hj => ?_, Or.inr ⟨h44_, by rw [e2]; exact h65_, fun k hk => ⟨?_, ?_⟩⟩⟩
    · rw [ad, up_row, updN (by omega)]; exact i4 j (by omega)
    · rw [ad, up_row, et, i4 _ (by omega)]
      by_cases e : k = (onI c.toInt s.toInt r34_.toInt).toNat
      · rw [updE (by omega), updE e]
      · rw [updN (by omega), updN e]; exact i4 _ (by omega)
    · rw [ad, up_row, updN (by omega), i3 k hk, show v6_55.toInt.toNat - 1 = r34_.toInt.toNat - 1 by omega]
theorem cl_step {b : Nat} {v c s cnt s2 cnt2 s3 cnt3 : Int32} {Mz M M' Dz D D2 : mM} (h1 : ST_X10_makeClick_32 b v Mz v.toInt.toNat s cnt M s2 cnt2 M') (h2 : ST_X12_clicks_35 v Dz c s cnt D s3 cnt3 D2) (hR : WRR b M.1 (D.1 (50, 0, 0))) (hD : InvD D) (hv : 0 ≤ v.toInt ∧ v.toInt < nWa (D.1 (50, 0, 0))) (hc : c = D.1 (50, 0, 0) (181 + 9 * v.toInt.toNat)) (hu : (D.1 (12, 0, 0) 7).toInt = -1) :
    WRR b M'.1 (D2.1 (50, 0, 0)) ∧ cnt2 = cnt3 ∧ (∀ (d : rf) (k : Nat), d.1 ≠ 50 → d.1 ≠ 58 → d.1 ≠ 59 → D2.1 d k = D.1 d k) ∧ (∀ j, j < 495 + 384 * v.toInt.toNat ∨ 879 + 384 * v.toInt.toNat ≤ j → D2.1 (50, 0, 0) j = D.1 (50, 0, 0) j) := by
  have nw := nWa_b hD.2.1
  obtain ⟨r, a1, a2, a3, a4, a5⟩ := clC h1 hR hD.2.1 hv
  obtain ⟨t, d1, d2, d3, d4, d5, d6⟩ := clD h2 hR.2.2.2.2.1 (fun w hw i hi => ((hR.2.2.2.1 w hw).2 i hi).2) hv hc hu
  rw [← hc] at a1 a5
  have wa := (hR.2.2.1.2 v.toInt.toNat (by omega)).2
  obtain rfl : r = t := i32e (HyP_uniq a1 d1)
  rcases a5 with ⟨a5, a6, a7⟩ | ⟨a5, a6, a7, a8⟩ <;> rcases d6 with ⟨d6, d7, d8⟩ | ⟨d6, d7, d8⟩
  · refine ⟨WRR_heads hR hD.2.1 (by omega) a4 d5 (fun k hk => ?_), a6.trans d7.symm, d4, d5⟩
    rw [(a7 k).1, (a7 k).2, d8, d8]; exact wa k hk
  · omega
  · omega
  · have pos := (HyP_pos a1 (by omega)).2.2 r.toInt (by omega) (by omega)
    have ob := onI_b (c := c.toInt) (s := s.toInt) (y := r.toInt)
    refine ⟨WRR_heads hR hD.2.1 (by omega) a4 d5 (fun k hk => ⟨?_, ?_⟩), a6.trans d7.symm, d4, d5⟩
    · rw [a7, (d8 k hk).1]
      by_cases e : k = (onI c.toInt s.toInt r.toInt).toNat
      · rw [updE e, updE e, (wa _ (by omega)).1]
      · rw [updN e, updN e, (wa _ hk).1]
    · rw [a8, (d8 k hk).2]
      exact noF_cong (fun j hj => (wa j hj).2) _ (fun j h1 h2 => (HyP_pos a1 (by omega)).2.2 j (by omega) (by omega)) k hk
/-- a click of both -/
theorem click_both {b : Nat} {v r t : Int32} {M M' D D2 : mM} (h1 : SP_X10_makeClick b v M r M') (h2 : SP_X12_clicks v D t D2) (hR : WRR b M.1 (D.1 (50, 0, 0))) (hD : InvD D) (hv : 0 ≤ v.toInt ∧ v.toInt < nWa (D.1 (50, 0, 0))) (hu : (D.1 (12, 0, 0) 7).toInt = -1) :
    r = t ∧ WRR b M'.1 (D2.1 (50, 0, 0)) ∧ InvD D2 ∧ (∀ (d : rf) (k : Nat), d.1 ≠ 50 → d.1 ≠ 58 → d.1 ≠ 59 → D2.1 d k = D.1 d k) ∧ (∀ j, j < 495 → j ≠ 188 + 9 * v.toInt.toNat → D2.1 (50, 0, 0) j = D.1 (50, 0, 0) j) := by
  have nw := nWa_b hD.2.1
  have q0 := il_0
  unfold SP_X12_clicks at h2
  rcases h2 with ⟨d_r1_, d_hs5_, d_h4_, d_z6_, d_h7_, d_j10_, d_h11_, d_z8_, d_e9_, d_h12_, d_r13_, d_hs17_, d_h16_, d_z18_, d_h19_, d_j22_, d_h23_, d_z20_, d_e21_, d_z24_, d_h25_, d_j28_, d_h29_, d_M26_, d_hM27_, d_v4_35, d_hv0_35, d_hv1_35, d_v3_35, d_M_35, d_hL_35, d_hI_35, d_hF_35, d_h33_, d_hr_, d_hM_⟩
  obtain rfl : d_j10_ = 181 + 9 * v.toInt.toNat := by omega
  obtain rfl : d_j22_ = 188 + 9 * v.toInt.toNat := by omega
  obtain rfl : d_j28_ = 188 + 9 * v.toInt.toNat := by omega
  have hw := hR.2.2.1.1
  unfold SP_X10_makeClick at h1
  rcases h1 with (⟨hs5_, h4_, j7_, h8_, h9_, z10_, e11_, z12_, h13_, M14_, hM15_, v4_32, hv0_32, hv1_32, v3_32, M_32, hL_32, -, hF_32, h19_, hr_, hM_⟩ | ⟨hs5_, hr_, hM_⟩)
  · obtain rfl : j7_ = v.toInt.toNat := by omega
    have c8 := (hR.2.2.1.2 v.toInt.toNat (by omega)).1 8 (by omega)
    rw [show 180 + 9 * v.toInt.toNat + 8 = 188 + 9 * v.toInt.toNat by omega] at c8
    have ez : z12_ = d_z24_ := by rw [h13_, d_h25_, e11_, d_e21_, c8]
    have R0 := WRR_wf (f := 8) (x := z12_) hR hD.2.1 (w := v.toInt.toNat) (by omega) (by omega)
    rw [← hM15_, show 180 + 9 * v.toInt.toNat + 8 = 188 + 9 * v.toInt.toNat by omega, ez, ← d_hM27_] at R0
    have row : ∀ j, ¬ j = 188 + 9 * v.toInt.toNat → d_M26_.1 (50, 0, 0) j = D.1 (50, 0, 0) j := fun j hj => by rw [d_hM27_, up_row, updN hj]
    have hz8 : d_z8_ = d_M26_.1 (50, 0, 0) (181 + 9 * v.toInt.toNat) := by rw [row _ (by omega)]; exact d_e9_
    have L := lock (fun x : Int32 × Int32 × mM => x.1.toInt) (fun y : Int32 × Int32 × mM => y.1.toInt) (fun x y => WRR b x.2.2.1 (y.2.2.1 (50, 0, 0)) ∧ x.2.1 = y.2.1 ∧ (∀ (d : rf) (k : Nat), d.1 ≠ 50 → d.1 ≠ 58 → d.1 ≠ 59 → y.2.2.1 d k = d_M26_.1 d k) ∧ (∀ j, j < 495 + 384 * v.toInt.toNat ∨ 879 + 384 * v.toInt.toNat ≤ j → y.2.2.1 (50, 0, 0) j = d_M26_.1 (50, 0, 0) j)) 8 hL_32 d_hL_35
      (fun x z st => by
        (try dsimp only at st ⊢)
        unfold ST_X10_makeClick_32 at st
        rcases st with ⟨s_hv0_32, s_hv1_32, -, s_hF_32, s_h19_, s_z20_, s_e21_, s_M23_, -, s_hF27_, s_r22_, s_hs29_, s_h25_, (⟨s_h30_, s_v6_79, s_hv0_79, s_M_79, s_hL_79, -, s_hF_79, s_h32_, s_z33_, s_h34_, s_hq_v4_32y, s_hq_v3_32y, s_hM_⟩ | ⟨s_h30_, s_z35_, s_h36_, s_z37_, s_e38_, s_r39_, s_hs43_, s_h42_, s_M44_, -, s_hF48_, s_hs50_, s_v6_79, s_hv0_79, s_M_79, s_hL_79, -, s_hF_79, s_h52_, s_z53_, s_h54_, s_hq_v4_32y, s_hq_v3_32y, s_hM_⟩)⟩
        all_goals (rw [s_hq_v4_32y]; omega))
      (fun x z st => by
        (try dsimp only at st ⊢)
        unfold ST_X12_clicks_35 at st
        rcases st with ⟨s_hv0_35, s_hv1_35, -, s_hF_35, s_h33_, s_M35_, -, s_hF39_, s_r34_, s_hs41_, s_h37_, s_v6_55, s_hv0_55, s_M_55, s_hL_55, -, s_hF_55, s_h43_, (⟨s_h44_, s_z45_, s_h46_, s_hq_v4_35y, s_hq_v3_35y, s_hM_⟩ | ⟨s_h44_, s_r47_, s_hs51_, s_h50_, s_r52_, s_hs56_, s_h55_, s_M57_, -, s_hF61_, s_hs63_, s_z64_, s_h65_, s_z66_, s_h67_, s_hq_v4_35y, s_hq_v3_35y, s_hM_⟩)⟩
        all_goals (rw [s_hq_v4_35y]; omega))
      ⟨R0, rfl, fun _ _ _ _ _ => rfl, fun _ _ => rfl⟩ rfl h19_ d_h33_
      (fun x z y w rr ee s1 s2 => by
        obtain ⟨x1, x2, x3⟩ := x
        obtain ⟨y1, y2, y3⟩ := y
        obtain ⟨z1, z2, z3⟩ := z
        obtain ⟨w1, w2, w3⟩ := w
        (try dsimp only at rr ee s1 s2 ⊢)
        obtain ⟨r1, r2, r3, r4⟩ := rr
        obtain rfl : x1 = y1 := i32e ee
        subst r2
        have iy : InvD y3 := by
          unfold ST_X12_clicks_35 at s2
          exact s2.2.2.1
        have cs := cl_step s1 s2 r1 iy (by unfold nWa; rw [r4 2 (by omega), row 2 (by omega)]; exact hv) (by rw [r4 _ (by omega)]; exact hz8) (by rw [r3 _ _ (by simp) (by simp) (by simp), d_hM27_, up_other _ _ (by simp)]; exact hu)
        exact ⟨cs.1, cs.2.1, fun d k a1 a2 a3 => (cs.2.2.1 d k a1 a2 a3).trans (r3 d k a1 a2 a3), fun j hj => (cs.2.2.2 j hj).trans (r4 j hj)⟩)
    (try dsimp only at L)
    obtain ⟨l1, l2, l3, l4⟩ := L
    rw [hr_, hM_, d_hr_, d_hM_]
    refine ⟨l2, l1, d_hI_35, fun d k a1 a2 a3 => ?_, fun j h1 h2 => ?_⟩
    · rw [l3 d k a1 a2 a3, d_hM27_, up_other _ _ (fun z => a1 (by rw [z]))]
    · rw [l4 j (by omega), row j h2]
  · have := x10has hs5_
    unfold nWa at hv nw
    have := eT hw
    omega
