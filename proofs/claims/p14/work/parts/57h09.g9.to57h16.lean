section
/-! a click: what a head keeps of it -/
def bmp (x k : Int32) : Int32 := Int32.ofInt (if 99 ≤ (x + k).toInt then 99 else (x + k).toInt)
theorem bmp_of {x k s z : Int32} (h1 : s = x + k) (h2 : (z.toInt = 99 ∧ 99 ≤ s.toInt) ∨ (z.toInt = s.toInt ∧ s.toInt ≤ 99)) : z = bmp x k := by
  unfold bmp
  refine ofIe ?_
  rw [← h1]
  split <;> omega
def noF (f : Nat → Int32) (c s : Int) : Nat → Nat → Int32
  | 0 => f
  | k + 1 => upd (noF f c s k) (onI c s ((k + 1 : Nat) : Int)).toNat (bmp (noF f c s k (onI c s ((k + 1 : Nat) : Int)).toNat) 1)
theorem noF_cong {f g : Nat → Int32} {c s : Int} (h : ∀ k, k < 192 → f k = g k) : ∀ m : Nat, (∀ j : Nat, 1 ≤ j → j ≤ m → 0 ≤ onI c s (j : Int)) → ∀ k, k < 192 → noF f c s m k = noF g c s m k
  | 0, _, k, hk => h k hk
  | m + 1, hp, k, hk => by
    have ih := noF_cong h m (fun j a d => hp j a (by omega))
    have p := hp (m + 1) (by omega) (Nat.le_refl _)
    have ob := onI_b (c := c) (s := s) (y := ((m + 1 : Nat) : Int))
    show upd _ _ _ k = upd _ _ _ k
    unfold upd
    split
    · rw [ih _ (by omega)]
    · exact ih k hk
theorem WRR_heads {b w : Nat} {q q2 : rf → Nat → Int32} {n n2 : Nat → Int32} (h : WRR b q n) (hN : NW5 n) (hw : (w : Int) < nWa n) (hq : ∀ (c : rf) (k : Nat), c.1 ≠ 25 → c.1 ≠ 29 → ¬ c = (40, b, w) → ¬ c = (41, b, w) → q2 c k = q c k) (hn : ∀ j, j < 495 + 384 * w ∨ 879 + 384 * w ≤ j → n2 j = n j)
    (hy : ∀ k, k < 192 → q2 (40, b, w) k = n2 (495 + 384 * w + k) ∧ q2 (41, b, w) k = n2 (687 + 384 * w + k)) : WRR b q2 n2 := by
  have b1 := nTh_b hN
  have b2 := nWa_b hN
  have qq : ∀ (r u k : Nat), r ≠ 25 → r ≠ 29 → r ≠ 40 → r ≠ 41 → q2 (r, b, u) k = q (r, b, u) k := fun r u k h1 h2 h3 h4 => hq _ _ h1 h2 (fun z => h3 (congrArg (fun c : rf => c.1) z)) (fun z => h4 (congrArg (fun c : rf => c.1) z))
  have ew : nWa n2 = nWa n := by unfold nWa; rw [hn 2 (by omega)]
  refine ⟨LWR_keep h.1 (fun r k hr => qq _ _ _ (by omega) (by omega) (by omega) (by omega)) (fun j hj => hn j (by omega)), THR_keep h.2.1 b1.2 (fun r k hr => qq _ _ _ (by omega) (by omega) (by omega) (by omega)) (fun j hj => hn j (by omega)), ?_,
    TXR_keep h.2.2.2.1 (TXz hN) (fun r u k hr hu => qq _ _ _ (by omega) (by omega) (by omega) (by omega)) (fun j h1 h2 => hn j (by omega)), OCC_keep h.2.2.2.2.1 b1.2 b2.2 (fun k => qq _ _ _ (by omega) (by omega) (by omega) (by omega)) (fun j hj => hn j (by omega)) (fun j hj => hn j (by omega)), MIR_keep h.2.2.2.2.2 b1.2 b2.2 (fun j hj => hn j (by omega)) (fun u h1 h2 => ⟨fun k hk => hn _ (by omega), fun c hc => hn _ (by omega)⟩)⟩
  refine ⟨by rw [qq _ _ _ (by omega) (by omega) (by omega) (by omega), hn 2 (by omega)]; exact h.2.2.1.1, fun u hu => ⟨fun k hk => ?_, fun c hc => ?_⟩⟩
  · rw [ew] at hu
    rw [qq _ _ _ (by omega) (by omega) (by omega) (by omega), hn _ (by omega)]; exact (h.2.2.1.2 u hu).1 k hk
  · rw [ew] at hu
    by_cases e : u = w
    · rw [e]; exact hy c hc
    · rw [hq (40, b, u) c (by simp) (by simp) (fun z => e (congrArg (fun c : rf => c.2.2) z)) (fun z => absurd (congrArg (fun c : rf => c.1) z) (by simp)), hq (41, b, u) c (by simp) (by simp) (fun z => absurd (congrArg (fun c : rf => c.1) z) (by simp)) (fun z => e (congrArg (fun c : rf => c.2.2) z)), hn _ (by omega), hn _ (by omega)]
      exact (h.2.2.1.2 u hu).2 c hc
/-- a number of a walker changes that isn't its cell, pitch or loudness -/
theorem WRR_wf {b w f : Nat} {M D : mM} {x : Int32} (h : WRR b M.1 (D.1 (50, 0, 0))) (hN : NW5 (D.1 (50, 0, 0))) (hw : (w : Int) < nWa (D.1 (50, 0, 0))) (hf : f < 9 ∧ f ≠ 1 ∧ f ≠ 3 ∧ f ≠ 4) : WRR b (up M (9, b, w) f x).1 ((up D (50, 0, 0) (180 + 9 * w + f) x).1 (50, 0, 0)) := by
  have b1 := nTh_b hN
  have b2 := nWa_b hN
  rw [up_row]
  have nn : ∀ j, ¬ j = 180 + 9 * w + f → upd (D.1 (50, 0, 0)) (180 + 9 * w + f) x j = D.1 (50, 0, 0) j := fun j hj => updN hj
  have ew : nWa (upd (D.1 (50, 0, 0)) (180 + 9 * w + f) x) = nWa (D.1 (50, 0, 0)) := by unfold nWa; rw [nn 2 (by omega)]
  refine ⟨LWR_keep h.1 (fun r k hr => zupR rfl (by dsimp only; omega)) (fun j hj => nn j (by omega)), THR_keep h.2.1 b1.2 (fun r k hr => zupR rfl (by dsimp only; omega)) (fun j hj => nn j (by omega)), ?_,
    TXR_keep h.2.2.2.1 (TXz hN) (fun r u k hr hu => zupR rfl (by dsimp only; omega)) (fun j h1 h2 => nn j (by omega)), OCC_keep h.2.2.2.2.1 b1.2 b2.2 (fun k => zupR rfl (by simp)) (fun j hj => nn j (by omega)) (fun j hj => nn j (by omega)), MIR_keep h.2.2.2.2.2 b1.2 b2.2 (fun j hj => nn j (by omega)) (fun u h1 h2 => ⟨fun k hk => nn _ (by omega), fun c hc => nn _ (by omega)⟩)⟩
  refine ⟨by rw [zupR rfl (by simp), nn 2 (by omega)]; exact h.2.2.1.1, fun u hu => ⟨fun k hk => ?_, fun c hc => ?_⟩⟩
  · rw [ew] at hu
    by_cases e : u = w ∧ k = f
    · rw [e.1, e.2, zupE rfl rfl rfl, updE rfl]
    · rw [zupN rfl (fun z => e ⟨congrArg (fun c : rf => c.2.2) z.1, z.2⟩), nn _ (by omega)]; exact (h.2.2.1.2 u hu).1 k hk
  · rw [ew] at hu
    rw [zupR rfl (by simp), zupR rfl (by simp), nn _ (by omega), nn _ (by omega)]
    exact (h.2.2.1.2 u hu).2 c hc
theorem RCH_F {α : Type} {S : α → α → Prop} {a z : α} (h : RCH S a z) (hS : ∀ x y, ¬ S x y) : z = a := rind h (fun z => z = a) rfl (fun x y _ s => (hS x y s).elim)
theorem HyP_pos {n : Nat → Int32} {o : Nat → Int} {w : Nat} {c s : Int32} {r : Int} (h : HyP n o w c s r) (hr : ¬ r = 0) : 1 ≤ r ∧ r ≤ reachI (n (180 + 9 * w)).toInt ∧ ∀ j : Int, 1 ≤ j → j ≤ r → 0 ≤ onI c.toInt s.toInt j := by
  obtain ⟨y, E, d⟩ := h
  have e : r = y.toInt ∧ ¬ y.toInt = 0 := by
    rcases d with d | ⟨d, d2 | d2⟩
    · omega
    · exact ⟨d2.1, d⟩
    · omega
  rcases E with E | E
  · rw [e.1]
    refine ⟨E.1, E.2.1, fun j h1 h2 => ?_⟩
    by_cases z : j = y.toInt
    · rw [z]; exact E.2.2.2.1
    · exact (E.2.2.1 j h1 (by omega)).1
  · exact absurd E.1 e.2
theorem x9addYes {b w : Nat} {v u : Int32} {M M' : mM} (h : SP_X9_addYes b w v u M M') (hv : 0 ≤ v.toInt ∧ v.toInt ≤ 191) : M' = up M (40, b, w) v.toInt.toNat (bmp (M.1 (40, b, w) v.toInt.toNat) u) := by
  refine xE_SP_X9_addYes h ⟨(fun hs5_ h4_ j9_ h10_ z7_ e8_ z11_ h12_ z13_ h14_ j17_ h18_ M15_ hM16_ hM_ => ?_), (fun hs5_ h4_ hM_ => ?_)⟩
  · obtain rfl : j9_ = v.toInt.toNat := by omega
    obtain rfl : j17_ = v.toInt.toNat := by omega
    rw [hM_, hM16_, bmp_of h12_ h14_, e8_]
  · omega
theorem x9addNo {b w : Nat} {v : Int32} {M M' : mM} (h : SP_X9_addNo b w v M M') (hv : 0 ≤ v.toInt ∧ v.toInt ≤ 191) : M' = up M (41, b, w) v.toInt.toNat (bmp (M.1 (41, b, w) v.toInt.toNat) 1) := by
  refine xE_SP_X9_addNo h ⟨(fun hs5_ h4_ j9_ h10_ z7_ e8_ z11_ h12_ z13_ h14_ j17_ h18_ M15_ hM16_ hM_ => ?_), (fun hs5_ h4_ hM_ => ?_)⟩
  · obtain rfl : j9_ = v.toInt.toNat := by omega
    obtain rfl : j17_ = v.toInt.toNat := by omega
    rw [hM_, hM16_, bmp_of h12_ h14_, e8_]
  · omega
theorem x12more {v u : Int32} {M M' : mM} (h : SP_X12_more v u M M') : M' = up M (50, 0, 0) v.toInt.toNat (bmp (M.1 (50, 0, 0) v.toInt.toNat) u) := by
  refine xE_SP_X12_more h (fun j3_ h4_ z1_ e2_ z5_ h6_ z7_ h8_ j11_ h12_ M9_ hM10_ hM_ => ?_)
  obtain rfl : j3_ = v.toInt.toNat := by omega
  obtain rfl : j11_ = v.toInt.toNat := by omega
  rw [hM_, hM10_, bmp_of h6_ h8_, e2_]
/-- the class's inner loop -/
theorem clCi {b w : Nat} {Mz M0 : mM} {s r c : Int32} {z : Int32 × mM} (h : RCH (fun x_ y_ => ST_X10_makeClick_79b b Mz w s r x_.1 x_.2 y_.1 y_.2) ((1 : Int32), M0) z) (hc : M0.1 (9, b, w) 1 = c) (cb : 0 ≤ c.toInt ∧ c.toInt ≤ 191) (hs : 0 ≤ s.toInt ∧ s.toInt ≤ 7) (hr : 1 ≤ r.toInt ∧ r.toInt ≤ 12) (hp : ∀ j : Int, 1 ≤ j → j ≤ r.toInt → 0 ≤ onI c.toInt s.toInt j) :
    1 ≤ z.1.toInt ∧ z.1.toInt ≤ r.toInt ∧ z.2.1 (41, b, w) = noF (M0.1 (41, b, w)) c.toInt s.toInt (z.1.toInt.toNat - 1) ∧ ∀ (d : rf) (k : Nat), ¬ d = (41, b, w) → z.2.1 d k = M0.1 d k := by
  have q1 := il_1
  refine rind h (fun z => 1 ≤ z.1.toInt ∧ z.1.toInt ≤ r.toInt ∧ z.2.1 (41, b, w) = noF (M0.1 (41, b, w)) c.toInt s.toInt (z.1.toInt.toNat - 1) ∧ ∀ (d : rf) (k : Nat), ¬ d = (41, b, w) → z.2.1 d k = M0.1 d k) ⟨by dsimp only; omega, by dsimp only; omega, by dsimp only; rw [il_1]; rfl, fun _ _ _ => rfl⟩ (fun x z p st => ?_)
  obtain ⟨x1, x2⟩ := x
  obtain ⟨z1, z2⟩ := z
  (try dsimp only at p st ⊢)
  obtain ⟨p1, p2, p3, p4⟩ := p
  refine xE_ST_X10_makeClick_79b st (fun k_hv0_79 _ k_hF_79 k_h52_ k_z55_ k_e56_ k_r57_ k_hs61_ k_h60_ k_M62_ _ k_hF66_ k_hs68_ k_z69_ k_h70_ k_hq_v6_79y k_hM_ => ?_)
  have e1 : k_z55_ = c := by rw [k_e56_, p4 _ _ (by simp)]; exact hc
  have cf := cF_spec k_hs61_
  rw [e1] at cf
  have pos := hp x1.toInt p1 (by omega)
  have er : k_r57_.toInt = onI c.toInt s.toInt x1.toInt := by omega
  have ad := x9addNo k_hs68_ (by omega)
  rw [k_hq_v6_79y, k_hM_]
  refine ⟨by omega, by omega, ?_, fun d k hd => ?_⟩
  · obtain ⟨m, hm⟩ : ∃ m : Nat, x1.toInt = ((m + 1 : Nat) : Int) := ⟨x1.toInt.toNat - 1, by omega⟩
    rw [show k_z69_.toInt.toNat - 1 = m + 1 by omega, ad, up_row, p3, show x1.toInt.toNat - 1 = m by omega, er, hm]
    rfl
  · rw [ad, up_other _ _ hd]; exact p4 d k hd
/-- the class, one side -/
theorem clC {b : Nat} {v s cnt s2 cnt2 : Int32} {Mz M M' : mM} {n : Nat → Int32} (h : ST_X10_makeClick_32 b v Mz v.toInt.toNat s cnt M s2 cnt2 M') (hR : WRR b M.1 n) (hN : NW5 n) (hv : 0 ≤ v.toInt ∧ v.toInt < nWa n) :
    ∃ r : Int32, HyP n (occ b M.1) v.toInt.toNat (n (181 + 9 * v.toInt.toNat)) s r.toInt ∧ 0 ≤ r.toInt ∧ r.toInt ≤ 12 ∧ (∀ (c : rf) (k : Nat), c.1 ≠ 25 → c.1 ≠ 29 → ¬ c = (40, b, v.toInt.toNat) → ¬ c = (41, b, v.toInt.toNat) → M'.1 c k = M.1 c k) ∧
      ((r.toInt = 0 ∧ cnt2 = cnt ∧ (∀ k, M'.1 (40, b, v.toInt.toNat) k = M.1 (40, b, v.toInt.toNat) k ∧ M'.1 (41, b, v.toInt.toNat) k = M.1 (41, b, v.toInt.toNat) k)) ∨
       (0 < r.toInt ∧ cnt2 = cnt + Int32.ofInt 1 ∧ M'.1 (40, b, v.toInt.toNat) = upd (M.1 (40, b, v.toInt.toNat)) (onI (n (181 + 9 * v.toInt.toNat)).toInt s.toInt r.toInt).toNat (bmp (M.1 (40, b, v.toInt.toNat) (onI (n (181 + 9 * v.toInt.toNat)).toInt s.toInt r.toInt).toNat) 1) ∧ M'.1 (41, b, v.toInt.toNat) = noF (M.1 (41, b, v.toInt.toNat)) (n (181 + 9 * v.toInt.toNat)).toInt s.toInt (r.toInt.toNat - 1))) := by
  have nw := nWa_b hN
  have w1 := (hR.2.2.1.2 v.toInt.toNat (by omega)).1 1 (by omega)
  rw [show 180 + 9 * v.toInt.toNat + 1 = 181 + 9 * v.toInt.toNat by omega] at w1
  have cb := ((hN.1 (181 + 9 * v.toInt.toNat)).2.2.2.2.2.2.2 (by omega) (by omega)).2.1 (by omega)
  unfold ST_X10_makeClick_32 at h
  obtain ⟨hv0_32, hv1_32, hI_32, hF_32, h19_, z20_, e21_, M23_, hI26_, hF27_, r22_, hs29_, h25_, h⟩ := h
  have ez : z20_ = n (181 + 9 * v.toInt.toNat) := e21_.trans w1
  have sb : 0 ≤ s.toInt ∧ s.toInt ≤ 7 := by omega
  have Y := x10heard hs29_ hR hN hv (by rw [ez]; exact cb) sb
  rw [ez] at Y
  have k23 : ∀ (c : rf) (k : Nat), c.1 ≠ 25 → c.1 ≠ 29 → M23_.1 c k = M.1 c k := fun c k h1 h2 => hF27_ c k (fun q => by simp only [S_c_X10_heardYards, or_false] at q; omega)
  refine ⟨r22_, Y, h25_.1, h25_.2, ?_⟩
  rcases h with ⟨h30_, v6_79, hv0_79, M_79, hL_79, hI_79, hF_79, h32_, z33_, h34_, e1, e2, e3⟩ | ⟨h30_, z35_, h36_, z37_, e38_, r39_, hs43_, h42_, M44_, hI47_, hF48_, hs50_, v6_79, hv0_79, M_79, hL_79, hI_79, hF_79, h52_, z53_, h54_, e1, e2, e3⟩
  · have em : M_79 = M23_ := congrArg (fun z : Int32 × mM => z.2) (RCH_F hL_79 (fun x y q => q))
    rw [e3, em]
    exact ⟨fun c k h1 h2 _ _ => k23 c k h1 h2, Or.inl ⟨by omega, e2, fun k => ⟨k23 _ _ (by simp) (by simp), k23 _ _ (by simp) (by simp)⟩⟩⟩
  · have ps := HyP_pos Y (by omega)
    have e37 : z37_ = n (181 + 9 * v.toInt.toNat) := by rw [e38_, k23 _ _ (by simp) (by simp)]; exact w1
    have cf := cF_spec hs43_
    rw [e37] at cf
    have pos := ps.2.2 r22_.toInt (by omega) (by omega)
    have er : r39_.toInt = onI (n (181 + 9 * v.toInt.toNat)).toInt s.toInt r22_.toInt := by omega
    have ad := x9addYes hs50_ (by omega)
    have inn := clCi hL_79 (c := n (181 + 9 * v.toInt.toNat)) (by rw [ad, up_other _ _ (by simp), k23 _ _ (by simp) (by simp)]; exact w1) cb sb (by omega) ps.2.2
    (try dsimp only at inn)
    obtain ⟨i1, i2, i3, i4⟩ := inn
    have r40 : M23_.1 (40, b, v.toInt.toNat) = M.1 (40, b, v.toInt.toNat) := funext fun k => k23 _ _ (by simp) (by simp)
    have r41 : M23_.1 (41, b, v.toInt.toNat) = M.1 (41, b, v.toInt.toNat) := funext fun k => k23 _ _ (by simp) (by simp)
    rw [e3]
    refine ⟨fun c k h1 h2 h3 h4 => by rw [i4 c k h4, ad, up_other _ _ h3]; exact k23 c k h1 h2, Or.inr ⟨h30_, by rw [e2]; exact h36_, ?_, ?_⟩⟩
    · rw [funext (fun k => i4 (40, b, v.toInt.toNat) k (by simp)), ad, up_row, r40, er]
    · rw [i3, ad, up_other _ _ (by simp), r41, show v6_79.toInt.toNat = r22_.toInt.toNat by omega]
/-- the model's inner loop -/
theorem clDi {v : Int32} {Mz D0 : mM} {s r c : Int32} {z : Int32 × mM} (h : RCH (fun x_ y_ => ST_X12_clicks_55 v Mz c s r x_.1 x_.2 y_.1 y_.2) ((1 : Int32), D0) z) (hv : 0 ≤ v.toInt ∧ v.toInt ≤ 7) (cb : 0 ≤ c.toInt ∧ c.toInt ≤ 191) (hs : 0 ≤ s.toInt ∧ s.toInt ≤ 7) (hr : 0 ≤ r.toInt ∧ r.toInt ≤ 12) (hp : ∀ j : Int, 1 ≤ j → j ≤ r.toInt → 0 ≤ onI c.toInt s.toInt j) :
    1 ≤ z.1.toInt ∧ (z.1.toInt ≤ r.toInt ∨ z.1.toInt = 1) ∧ (∀ k, k < 192 → z.2.1 (50, 0, 0) (687 + 384 * v.toInt.toNat + k) = noF (fun j => D0.1 (50, 0, 0) (687 + 384 * v.toInt.toNat + j)) c.toInt s.toInt (z.1.toInt.toNat - 1) k) ∧ (∀ j, j < 687 + 384 * v.toInt.toNat ∨ 879 + 384 * v.toInt.toNat ≤ j → z.2.1 (50, 0, 0) j = D0.1 (50, 0, 0) j) ∧ ∀ (d : rf) (k : Nat), ¬ d = (50, 0, 0) → z.2.1 d k = D0.1 d k := by
  have q1 := il_1
  refine rind h (fun z => 1 ≤ z.1.toInt ∧ (z.1.toInt ≤ r.toInt ∨ z.1.toInt = 1) ∧ (∀ k, k < 192 → z.2.1 (50, 0, 0) (687 + 384 * v.toInt.toNat + k) = noF (fun j => D0.1 (50, 0, 0) (687 + 384 * v.toInt.toNat + j)) c.toInt s.toInt (z.1.toInt.toNat - 1) k) ∧ (∀ j, j < 687 + 384 * v.toInt.toNat ∨ 879 + 384 * v.toInt.toNat ≤ j → z.2.1 (50, 0, 0) j = D0.1 (50, 0, 0) j) ∧ ∀ (d : rf) (k : Nat), ¬ d = (50, 0, 0) → z.2.1 d k = D0.1 d k) ⟨by dsimp only; omega, by dsimp only; omega, fun k _ => by dsimp only; rw [il_1]; rfl, fun _ _ => rfl, fun _ _ _ => rfl⟩ (fun x z p st => ?_)
  obtain ⟨x1, x2⟩ := x
  obtain ⟨z1, z2⟩ := z
  (try dsimp only at p st ⊢)
  obtain ⟨p1, p2, p3, p4, p5⟩ := p
  refine xE_ST_X12_clicks_55 st (fun k_hv0_55 _ k_hF_55 k_h43_ k_r68_ k_hs72_ k_h71_ k_r73_ k_hs77_ k_h76_ k_M78_ _ k_hF82_ k_hs84_ k_z85_ k_h86_ k_hq_v6_55y k_hM_ => ?_)
  have on := on_spec k_h71_.1 cb hs (by omega)
  have pos := hp x1.toInt p1 (by omega)
  have ad := x12more k_hs84_
  have ob := onI_b (c := c.toInt) (s := s.toInt) (y := x1.toInt)
  have et : k_r73_.toInt.toNat = 687 + 384 * v.toInt.toNat + (onI c.toInt s.toInt x1.toInt).toNat := by omega
  rw [k_hq_v6_55y, k_hM_]
  refine ⟨by omega, by omega, fun k hk => ?_, fun j hj => ?_, fun d k hd => ?_⟩
  · obtain ⟨m, hm⟩ : ∃ m : Nat, x1.toInt = ((m + 1 : Nat) : Int) := ⟨x1.toInt.toNat - 1, by omega⟩
    rw [show k_z85_.toInt.toNat - 1 = m + 1 by omega, ad, up_row, et, p3 _ (by omega), show x1.toInt.toNat - 1 = m by omega]
    show _ = upd (noF _ c.toInt s.toInt m) (onI c.toInt s.toInt ((m + 1 : Nat) : Int)).toNat (bmp (noF _ c.toInt s.toInt m (onI c.toInt s.toInt ((m + 1 : Nat) : Int)).toNat) 1) k
    rw [← hm]
    by_cases e : k = (onI c.toInt s.toInt x1.toInt).toNat
    · rw [updE (by omega), updE e]
    · rw [updN (by omega), updN e, p3 k hk, show x1.toInt.toNat - 1 = m by omega]
  · rw [ad, up_row, updN (by omega)]; exact p4 j hj
  · rw [ad, up_other _ _ hd]; exact p5 d k hd
/-- the model, one side -/
theorem clD {b : Nat} {q : rf → Nat → Int32} {v c s cnt s2 cnt2 : Int32} {Mz D D2 : mM} (h : ST_X12_clicks_35 v Mz c s cnt D s2 cnt2 D2) (hO : OCC b q (D.1 (50, 0, 0))) (hx : ∀ w, w < 3 → ∀ i : Nat, (i : Int) < (D.1 (50, 0, 0) (345 + 50 * w)).toInt → cOK (nnU w) (D.1 (50, 0, 0) (346 + 50 * w + i))) (hv : 0 ≤ v.toInt ∧ v.toInt < nWa (D.1 (50, 0, 0))) (hc : c = D.1 (50, 0, 0) (181 + 9 * v.toInt.toNat)) (hu : (D.1 (12, 0, 0) 7).toInt = -1) :
    ∃ r : Int32, HyP (D.1 (50, 0, 0)) (occ b q) v.toInt.toNat c s r.toInt ∧ 0 ≤ r.toInt ∧ r.toInt ≤ 12 ∧ (∀ (d : rf) (k : Nat), d.1 ≠ 50 → d.1 ≠ 58 → d.1 ≠ 59 → D2.1 d k = D.1 d k) ∧ (∀ j, j < 495 + 384 * v.toInt.toNat ∨ 879 + 384 * v.toInt.toNat ≤ j → D2.1 (50, 0, 0) j = D.1 (50, 0, 0) j) ∧
      ((r.toInt = 0 ∧ cnt2 = cnt ∧ (∀ k, D2.1 (50, 0, 0) k = D.1 (50, 0, 0) k)) ∨
       (0 < r.toInt ∧ cnt2 = cnt + Int32.ofInt 1 ∧ (∀ k, k < 192 → D2.1 (50, 0, 0) (495 + 384 * v.toInt.toNat + k) = upd (fun j => D.1 (50, 0, 0) (495 + 384 * v.toInt.toNat + j)) (onI c.toInt s.toInt r.toInt).toNat (bmp (D.1 (50, 0, 0) (495 + 384 * v.toInt.toNat + (onI c.toInt s.toInt r.toInt).toNat)) 1) k ∧
          D2.1 (50, 0, 0) (687 + 384 * v.toInt.toNat + k) = noF (fun j => D.1 (50, 0, 0) (687 + 384 * v.toInt.toNat + j)) c.toInt s.toInt (r.toInt.toNat - 1) k))) := by
  unfold ST_X12_clicks_35 at h
  obtain ⟨hv0_35, hv1_35, hI_35, hF_35, h33_, M35_, hI38_, hF39_, r34_, hs41_, h37_, v6_55, hv0_55, M_55, hL_55, hI_55, hF_55, h43_, h⟩ := h
  have nw := nWa_b hI_35.2.1
  have cb := ((hI_35.2.1.1 (181 + 9 * v.toInt.toNat)).2.2.2.2.2.2.2 (by omega) (by omega)).2.1 (by omega)
  rw [← hc] at cb
  have sb : 0 ≤ s.toInt ∧ s.toInt ≤ 7 := by omega
  have Y := x12heard hs41_ hO hI_35 hx hv cb sb (Or.inr ⟨hu, by rw [hc]; rfl⟩)
  have k35 : ∀ (d : rf) (k : Nat), d.1 ≠ 58 → d.1 ≠ 59 → M35_.1 d k = D.1 d k := fun d k h1 h2 => hF39_ d k (fun q => by simp only [S_c_X12_heardFrom, or_false] at q; omega)
  have row : M35_.1 (50, 0, 0) = D.1 (50, 0, 0) := funext fun k => k35 _ _ (by simp) (by simp)
  have pz : ∀ j : Int, 1 ≤ j → j ≤ r34_.toInt → 0 ≤ onI c.toInt s.toInt j := fun j h1 h2 => (HyP_pos Y (by omega)).2.2 j h1 h2
  have inn := clDi hL_55 ⟨hv.1, by omega⟩ cb sb ⟨h37_.1, h37_.2.1⟩ pz
  (try dsimp only at inn)
  rw [row] at inn
  obtain ⟨i1, i2, i3, i4, i5⟩ := inn
  refine ⟨r34_, Y, h37_.1, h37_.2.1, ?_⟩
  rcases h with ⟨h44_, z45_, h46_, e1, e2, e3⟩ | ⟨h44_, r47_, hs51_, h50_, r52_, hs56_, h55_, M57_, hI60_, hF61_, hs63_, z64_, h65_, z66_, h67_, e1, e2, e3⟩
  · rw [e3]
    have al : ∀ k, M_55.1 (50, 0, 0) k = D.1 (50, 0, 0) k := fun k => by
      by_cases z : k < 687 + 384 * v.toInt.toNat ∨ 879 + 384 * v.toInt.toNat ≤ k
      · exact i4 k z
      · have g := i3 (k - (687 + 384 * v.toInt.toNat)) (by omega)
        rw [show v6_55.toInt.toNat - 1 = 0 by omega, show 687 + 384 * v.toInt.toNat + (k - (687 + 384 * v.toInt.toNat)) = k by omega] at g
        rw [g]
        show D.1 (50, 0, 0) (687 + 384 * v.toInt.toNat + (k - (687 + 384 * v.toInt.toNat))) = _
        rw [show 687 + 384 * v.toInt.toNat + (k - (687 + 384 * v.toInt.toNat)) = k by omega]
    exact ⟨fun d k h1 h2 h3 => by rw [i5 d k (fun z => h1 (by rw [z]))]; exact k35 d k h2 h3, fun j _ => al j, Or.inl ⟨by omega, e2, al⟩⟩
  · have on := on_spec h50_.1 cb sb (by omega)
    have pos := pz r34_.toInt (by omega) (by omega)
    have ob := onI_b (c := c.toInt) (s := s.toInt) (y := r34_.toInt)
    have ad := x12more hs63_
    have et : r52_.toInt.toNat = 495 + 384 * v.toInt.toNat + (onI c.toInt s.toInt r34_.toInt).toNat := by omega
    rw [e3]
    refine ⟨fun d k h1 h2 h3 => by rw [ad, up_other _ _ (fun z => h1 (by rw [z])), i5 d k (fun z => h1 (by rw [z]))]; exact k35 d k h2 h3, fun j hj => ?_, Or.inr ⟨h44_, by rw [e2]; exact h65_, fun k hk => ⟨?_, ?_⟩⟩⟩
    · rw [ad, up_row, updN (by omega)]; exact i4 j (by omega)
    · rw [ad, up_row, et, i4 _ (by omega)]
      by_cases e : k = (onI c.toInt s.toInt r34_.toInt).toNat
      · rw [updE (by omega), updE e]
      · rw [updN (by omega), updN e]; exact i4 _ (by omega)
    · rw [ad, up_row, updN (by omega), i3 k hk, show v6_55.toInt.toNat - 1 = r34_.toInt.toNat - 1 by omega]
theorem cl_step {b : Nat} {v c s cnt s2 cnt2 s3 cnt3 : Int32} {Mz M M' Dz D D2 : mM} (h1 : ST_X10_makeClick_32 b v Mz v.toInt.toNat s cnt M s2 cnt2 M') (h2 : ST_X12_clicks_35 v Dz c s cnt D s3 cnt3 D2) (hR : WRR b M.1 (D.1 (50, 0, 0))) (hD : InvD D) (hv : 0 ≤ v.toInt ∧ v.toInt < nWa (D.1 (50, 0, 0))) (hc : c = D.1 (50, 0, 0) (181 + 9 * v.toInt.toNat)) (hu : (D.1 (12, 0, 0) 7).toInt = -1) :
    WRR b M'.1 (D2.1 (50, 0, 0)) ∧ cnt2 = cnt3 ∧ (∀ (d : rf) (k : Nat), d.1 ≠ 50 → d.1 ≠ 58 → d.1 ≠ 59 → D2.1 d k = D.1 d k) ∧ (∀ j, j < 495 + 384 * v.toInt.toNat ∨ 879 + 384 * v.toInt.toNat ≤ j → D2.1 (50, 0, 0) j = D.1 (50, 0, 0) j) := by
  have nw := nWa_b hD.2.1
  obtain ⟨r, a1, a2, a3, a4, a5⟩ := clC h1 hR hD.2.1 hv
  obtain ⟨t, d1, d2, d3, d4, d5, d6⟩ := clD h2 hR.2.2.2.2.1 (fun w hw i hi => ((hR.2.2.2.1 w hw).2 i hi).2) hv hc hu
  rw [← hc] at a1 a5
  have wa := (hR.2.2.1.2 v.toInt.toNat (by omega)).2
  obtain rfl : r = t := i32e (HyP_uniq a1 d1)
  rcases a5 with ⟨a5, a6, a7⟩ | ⟨a5, a6, a7, a8⟩ <;> rcases d6 with ⟨d6, d7, d8⟩ | ⟨d6, d7, d8⟩
  · refine ⟨WRR_heads hR hD.2.1 (by omega) a4 d5 (fun k hk => ?_), a6.trans d7.symm, d4, d5⟩
    rw [(a7 k).1, (a7 k).2, d8, d8]; exact wa k hk
  · omega
  · omega
  · have pos := (HyP_pos a1 (by omega)).2.2 r.toInt (by omega) (by omega)
    have ob := onI_b (c := c.toInt) (s := s.toInt) (y := r.toInt)
    refine ⟨WRR_heads hR hD.2.1 (by omega) a4 d5 (fun k hk => ⟨?_, ?_⟩), a6.trans d7.symm, d4, d5⟩
    · rw [a7, (d8 k hk).1]
      by_cases e : k = (onI c.toInt s.toInt r.toInt).toNat
      · rw [updE e, updE e, (wa _ (by omega)).1]
      · rw [updN e, updN e, (wa _ hk).1]
    · rw [a8, (d8 k hk).2]
      exact noF_cong (fun j hj => (wa j hj).2) _ (fun j h1 h2 => (HyP_pos a1 (by omega)).2.2 j (by omega) (by omega)) k hk
/-- a click of both -/
theorem click_both {b : Nat} {v r t : Int32} {M M' D D2 : mM} (h1 : SP_X10_makeClick b v M r M') (h2 : SP_X12_clicks v D t D2) (hR : WRR b M.1 (D.1 (50, 0, 0))) (hD : InvD D) (hv : 0 ≤ v.toInt ∧ v.toInt < nWa (D.1 (50, 0, 0))) (hu : (D.1 (12, 0, 0) 7).toInt = -1) :
    r = t ∧ WRR b M'.1 (D2.1 (50, 0, 0)) ∧ InvD D2 ∧ (∀ (d : rf) (k : Nat), d.1 ≠ 50 → d.1 ≠ 58 → d.1 ≠ 59 → D2.1 d k = D.1 d k) ∧ (∀ j, j < 495 → j ≠ 188 + 9 * v.toInt.toNat → D2.1 (50, 0, 0) j = D.1 (50, 0, 0) j) := by
  have nw := nWa_b hD.2.1
  have q0 := il_0
  refine xE_SP_X12_clicks h2 (fun d_r1_ d_hs5_ d_h4_ d_z6_ d_h7_ d_j10_ d_h11_ d_z8_ d_e9_ d_h12_ d_r13_ d_hs17_ d_h16_ d_z18_ d_h19_ d_j22_ d_h23_ d_z20_ d_e21_ d_z24_ d_h25_ d_j28_ d_h29_ d_M26_ d_hM27_ d_v4_35 d_hv0_35 d_hv1_35 d_v3_35 d_M_35 d_hL_35 d_hI_35 d_hF_35 d_h33_ d_hr_ d_hM_ => ?_)
  obtain rfl : d_j10_ = 181 + 9 * v.toInt.toNat := by omega
  obtain rfl : d_j22_ = 188 + 9 * v.toInt.toNat := by omega
  obtain rfl : d_j28_ = 188 + 9 * v.toInt.toNat := by omega
  have hw := hR.2.2.1.1
  refine xE_SP_X10_makeClick h1 ⟨(fun hs5_ h4_ j7_ h8_ h9_ z10_ e11_ z12_ h13_ M14_ hM15_ v4_32 hv0_32 hv1_32 v3_32 M_32 hL_32 _ hF_32 h19_ hr_ hM_ => ?_), (fun hs5_ hr_ hM_ => ?_)⟩
  · obtain rfl : j7_ = v.toInt.toNat := by omega
    have c8 := (hR.2.2.1.2 v.toInt.toNat (by omega)).1 8 (by omega)
    rw [show 180 + 9 * v.toInt.toNat + 8 = 188 + 9 * v.toInt.toNat by omega] at c8
    have ez : z12_ = d_z24_ := by rw [h13_, d_h25_, e11_, d_e21_, c8]
    have R0 := WRR_wf (f := 8) (x := z12_) hR hD.2.1 (w := v.toInt.toNat) (by omega) (by omega)
    rw [← hM15_, show 180 + 9 * v.toInt.toNat + 8 = 188 + 9 * v.toInt.toNat by omega, ez, ← d_hM27_] at R0
    have row : ∀ j, ¬ j = 188 + 9 * v.toInt.toNat → d_M26_.1 (50, 0, 0) j = D.1 (50, 0, 0) j := fun j hj => by rw [d_hM27_, up_row, updN hj]
    have hz8 : d_z8_ = d_M26_.1 (50, 0, 0) (181 + 9 * v.toInt.toNat) := by rw [row _ (by omega)]; exact d_e9_
    have L := lock (fun x : Int32 × Int32 × mM => x.1.toInt) (fun y : Int32 × Int32 × mM => y.1.toInt) (fun x y => WRR b x.2.2.1 (y.2.2.1 (50, 0, 0)) ∧ x.2.1 = y.2.1 ∧ (∀ (d : rf) (k : Nat), d.1 ≠ 50 → d.1 ≠ 58 → d.1 ≠ 59 → y.2.2.1 d k = d_M26_.1 d k) ∧ (∀ j, j < 495 + 384 * v.toInt.toNat ∨ 879 + 384 * v.toInt.toNat ≤ j → y.2.2.1 (50, 0, 0) j = d_M26_.1 (50, 0, 0) j)) 8 hL_32 d_hL_35
      (fun x z st => by
        (try dsimp only at st ⊢)
        refine xE_ST_X10_makeClick_32 st (fun s_hv0_32 s_hv1_32 _ s_hF_32 s_h19_ s_z20_ s_e21_ s_M23_ _ s_hF27_ s_r22_ s_hs29_ s_h25_ => ⟨(fun s_h30_ s_v6_79 s_hv0_79 s_M_79 s_hL_79 _ s_hF_79 s_h32_ s_z33_ s_h34_ s_hq_v4_32y s_hq_v3_32y s_hM_ => ?_), (fun s_h30_ s_z35_ s_h36_ s_z37_ s_e38_ s_r39_ s_hs43_ s_h42_ s_M44_ _ s_hF48_ s_hs50_ s_v6_79 s_hv0_79 s_M_79 s_hL_79 _ s_hF_79 s_h52_ s_z53_ s_h54_ s_hq_v4_32y s_hq_v3_32y s_hM_ => ?_)⟩)
        all_goals (rw [s_hq_v4_32y]; omega))
      (fun x z st => by
        (try dsimp only at st ⊢)
        refine xE_ST_X12_clicks_35 st (fun s_hv0_35 s_hv1_35 _ s_hF_35 s_h33_ s_M35_ _ s_hF39_ s_r34_ s_hs41_ s_h37_ s_v6_55 s_hv0_55 s_M_55 s_hL_55 _ s_hF_55 s_h43_ => ⟨(fun s_h44_ s_z45_ s_h46_ s_hq_v4_35y s_hq_v3_35y s_hM_ => ?_), (fun s_h44_ s_r47_ s_hs51_ s_h50_ s_r52_ s_hs56_ s_h55_ s_M57_ _ s_hF61_ s_hs63_ s_z64_ s_h65_ s_z66_ s_h67_ s_hq_v4_35y s_hq_v3_35y s_hM_ => ?_)⟩)
        all_goals (rw [s_hq_v4_35y]; omega))
      ⟨R0, rfl, fun _ _ _ _ _ => rfl, fun _ _ => rfl⟩ rfl h19_ d_h33_
      (fun x z y w rr ee s1 s2 => by
        obtain ⟨x1, x2, x3⟩ := x
        obtain ⟨y1, y2, y3⟩ := y
        obtain ⟨z1, z2, z3⟩ := z
        obtain ⟨w1, w2, w3⟩ := w
        (try dsimp only at rr ee s1 s2 ⊢)
        obtain ⟨r1, r2, r3, r4⟩ := rr
        obtain rfl : x1 = y1 := i32e ee
        subst r2
        have iy : InvD y3 := by
          unfold ST_X12_clicks_35 at s2
          exact s2.2.2.1
        have cs := cl_step s1 s2 r1 iy (by unfold nWa; rw [r4 2 (by omega), row 2 (by omega)]; exact hv) (by rw [r4 _ (by omega)]; exact hz8) (by rw [r3 _ _ (by simp) (by simp) (by simp), d_hM27_, up_other _ _ (by simp)]; exact hu)
        exact ⟨cs.1, cs.2.1, fun d k a1 a2 a3 => (cs.2.2.1 d k a1 a2 a3).trans (r3 d k a1 a2 a3), fun j hj => (cs.2.2.2 j hj).trans (r4 j hj)⟩)
    (try dsimp only at L)
    obtain ⟨l1, l2, l3, l4⟩ := L
    rw [hr_, hM_, d_hr_, d_hM_]
    refine ⟨l2, l1, d_hI_35, fun d k a1 a2 a3 => ?_, fun j h1 h2 => ?_⟩
    · rw [l3 d k a1 a2 a3, d_hM27_, up_other _ _ (fun z => a1 (by rw [z]))]
    · rw [l4 j (by omega), row j h2]
  · have := x10has hs5_
    unfold nWa at hv nw
    have := eT hw
    omega
end
section
/-! habits -/
theorem xor4_neg (a : Int32) : 0 ≤ (a ^^^ (4 : Int32)).toInt ↔ 0 ≤ a.toInt := by
  have h1 : (a ^^^ (4 : Int32)).toInt = (a.toBitVec ^^^ (4#32)).toInt := rfl
  have h2 : a.toInt = a.toBitVec.toInt := rfl
  have m1 := BitVec.msb_eq_toInt (x := a.toBitVec ^^^ (4#32))
  have m2 := BitVec.msb_eq_toInt (x := a.toBitVec)
  rw [BitVec.msb_xor, show (4#32).msb = false by decide, Bool.xor_false, m2] at m1
  have m3 := decide_eq_decide.mp m1
  rw [h1, h2]
  omega
theorem fm_and (a : Int32) : fmX a = a &&& (3 : Int32) := by
  have i4 : (4 : Int32).toInt = 4 := by decide
  have i0 := il_0
  have rg := rngI a
  refine i32e ?_
  rw [and3]
  have hd : (a / (4 : Int32)).toInt = a.toInt.tdiv 4 := by rw [Int32.toInt_div_of_ne_right a 4 (by first | decide | simp | (dsimp only; omega)), i4]
  have td : a.toInt.tdiv 4 = (if 0 ≤ a.toInt then a.toInt / 4 else -((-a.toInt) / 4)) := by
    split
    · rename_i h; exact Int.tdiv_eq_ediv_of_nonneg h
    · rename_i h
      have e : a.toInt = -(-a.toInt) := by omega
      rw [e, Int.neg_tdiv, Int.tdiv_eq_ediv_of_nonneg (by omega)]
      rw [show - - -a.toInt = -a.toInt by omega]
  rw [td] at hd
  have hr : (a - a / (4 : Int32) * (4 : Int32)).toInt = a.toInt - (a / (4 : Int32)).toInt * 4 := by
    have m : (a / (4 : Int32) * (4 : Int32)).toInt = (a / (4 : Int32)).toInt * 4 := mulI rfl i4 (by rw [hd]; split <;> omega) (by rw [hd]; split <;> omega)
    exact subI rfl m (by rw [hd]; split <;> omega) (by rw [hd]; split <;> omega)
  have x4 := xor4_neg a
  unfold fmX
  by_cases h1 : (0 : Int32) ≤ a ^^^ 4
  · rw [if_pos h1, hr, hd]
    have := Int32.le_iff_toInt_le.mp h1
    rw [if_pos (by omega)]; omega
  · rw [if_neg h1]
    have h2 : ¬ 0 ≤ a.toInt := fun q => h1 (Int32.le_iff_toInt_le.mpr (by rw [i0]; exact x4.mpr q))
    rw [if_neg h2] at hd
    by_cases h3 : a - a / 4 * 4 = 0
    · rw [if_pos h3]
      have := eT h3
      rw [this, i0]
      rw [hr] at this
      omega
    · rw [if_neg h3]
      have h4 : ¬ (a - a / (4 : Int32) * (4 : Int32)).toInt = 0 := fun q => h3 (i32e (by rw [q, i0]))
      rw [addI hr i4 (by omega) (by omega)]
      rw [hr] at h4
      omega
def heldS (y n : Int) : Int := if n < y then 2 else if y < n then 1 else 0
theorem x9held {b w : Nat} {v : Int32} {M : mM} {r : Int32} (h : SP_X9_held b w v M r) : ((0 ≤ v.toInt ∧ v.toInt ≤ 191) ∧ r.toInt = heldS (M.1 (40, b, w) v.toInt.toNat).toInt (M.1 (41, b, w) v.toInt.toNat).toInt) ∨ (¬ (0 ≤ v.toInt ∧ v.toInt ≤ 191) ∧ r.toInt = 0) := by
  have q0 := il_0
  have q1 := il_1
  have q2 : (2 : Int32).toInt = 2 := by decide
  unfold heldS
  refine xE_SP_X9_held h ⟨(fun hs5_ h4_ j9_ h10_ z7_ e8_ j13_ h14_ z11_ e12_ => ⟨(fun h15_ j18_ h19_ z16_ e17_ j22_ h23_ z20_ e21_ => ⟨(fun h24_ hr_ => ?_), (fun h24_ hr_ => ?_)⟩), (fun h15_ hr_ => ?_)⟩), (fun hs5_ h4_ hr_ => ?_)⟩
  · obtain rfl : j9_ = v.toInt.toNat := by omega
    obtain rfl : j13_ = v.toInt.toNat := by omega
    obtain rfl : j18_ = v.toInt.toNat := by omega
    obtain rfl : j22_ = v.toInt.toNat := by omega
    have y1 := eT e8_; have y2 := eT e12_; have y3 := eT e17_; have y4 := eT e21_; have y5 := eT hr_
    left
    refine ⟨h4_, ?_⟩
    repeat' split
    all_goals omega
  · obtain rfl : j9_ = v.toInt.toNat := by omega
    obtain rfl : j13_ = v.toInt.toNat := by omega
    obtain rfl : j18_ = v.toInt.toNat := by omega
    obtain rfl : j22_ = v.toInt.toNat := by omega
    have y1 := eT e8_; have y2 := eT e12_; have y3 := eT e17_; have y4 := eT e21_; have y5 := eT hr_
    left
    refine ⟨h4_, ?_⟩
    repeat' split
    all_goals omega
  · obtain rfl : j9_ = v.toInt.toNat := by omega
    obtain rfl : j13_ = v.toInt.toNat := by omega
    have y1 := eT e8_; have y2 := eT e12_; have y5 := eT hr_
    left
    refine ⟨h4_, ?_⟩
    repeat' split
    all_goals omega
  · have y5 := eT hr_
    right
    exact ⟨h4_, by omega⟩
def HdS (n : Nat → Int32) (w : Nat) (x : Int) : Int := heldS (n (495 + 384 * w + x.toNat)).toInt (n (687 + 384 * w + x.toNat)).toInt
theorem x12held {v u : Int32} {M : mM} {r : Int32} (h : SP_X12_held v u M r) (hv : 0 ≤ v.toInt ∧ v.toInt ≤ 7) (hu : 0 ≤ u.toInt ∧ u.toInt ≤ 191) : r.toInt = HdS (M.1 (50, 0, 0)) v.toInt.toNat u.toInt := by
  have q0 := il_0
  have q1 := il_1
  have q2 : (2 : Int32).toInt = 2 := by decide
  unfold HdS heldS
  refine xE_SP_X12_held h (fun r1_ hs5_ h4_ j8_ h9_ z6_ e7_ r10_ hs14_ h13_ j17_ h18_ z15_ e16_ => ⟨(fun h19_ => ⟨(fun h20_ hr_ => ?_), (fun h20_ hr_ => ?_)⟩), (fun h19_ hr_ => ?_)⟩)
  all_goals
    obtain rfl : j8_ = 495 + 384 * v.toInt.toNat + u.toInt.toNat := by omega
    obtain rfl : j17_ = 687 + 384 * v.toInt.toNat + u.toInt.toNat := by omega
    have y1 := eT e7_; have y2 := eT e16_; have y5 := eT hr_
    repeat' split
    all_goals omega
/-- beyond the street it stays so -/
theorem onI_out {c s j k : Int} (hc : 0 ≤ c ∧ c ≤ 191) (hs : 0 ≤ s ∧ s ≤ 7) (hj : 1 ≤ j ∧ j ≤ k) (h : onI c s j < 0) : onI c s k < 0 := by
  unfold onI at h ⊢
  split at h
  · rename_i z; omega
  · rename_i z
    rw [if_neg ?_]
    · omega
    · obtain e | e | e | e | e | e | e | e := side8 hs
      all_goals
        subst e
        simp only [dxI, dyI] at z ⊢
        simp at z ⊢
        omega
def FullP (H : Int → Int) (c s y : Int) : Prop := (1 ≤ y ∧ y ≤ 9 ∧ (∀ j : Int, 1 ≤ j → j < y → ¬ (0 ≤ onI c s j ∧ H (onI c s j) = 2)) ∧ 0 ≤ onI c s y ∧ H (onI c s y) = 2) ∨ (y = 0 ∧ ∀ j : Int, 1 ≤ j → j ≤ 9 → ¬ (0 ≤ onI c s j ∧ H (onI c s j) = 2))
theorem FullP_uniq {H : Int → Int} {c s y z : Int} (h : FullP H c s y) (g : FullP H c s z) : y = z := by
  rcases h with h | h <;> rcases g with g | g
  · rcases Int.lt_trichotomy y z with q | q | q
    · exact absurd h.2.2.2 (g.2.2.1 y h.1 q)
    · exact q
    · exact absurd g.2.2.2 (h.2.2.1 z g.1 q)
  · exact absurd h.2.2.2 (g.2 y h.1 h.2.1)
  · exact absurd g.2.2.2 (h.2 z g.1 g.2.1)
  · rw [h.1, g.1]
theorem x9full {b w : Nat} {v : Int32} {M : mM} {r : Int32} {n : Nat → Int32} (h : SP_X9_yardsToFull b w v M r) (hv : 0 ≤ v.toInt ∧ v.toInt ≤ 7) (hc : M.1 (9, b, w) 1 = n (181 + 9 * w)) (cb : 0 ≤ (n (181 + 9 * w)).toInt ∧ (n (181 + 9 * w)).toInt ≤ 191) (hh : ∀ k, k < 192 → M.1 (40, b, w) k = n (495 + 384 * w + k) ∧ M.1 (41, b, w) k = n (687 + 384 * w + k)) : FullP (HdS n w) (n (181 + 9 * w)).toInt v.toInt r.toInt := by
  have q0 := il_0
  have q1 := il_1
  have K : ∀ {x c r0 h0 : Int32}, 1 ≤ x.toInt → x.toInt ≤ 9 → c = M.1 (9, b, w) 1 → SP_X7_cellFrom c v x M r0 → SP_X9_held b w r0 M h0 → (h0.toInt = 2 ↔ (0 ≤ onI (n (181 + 9 * w)).toInt v.toInt x.toInt ∧ HdS n w (onI (n (181 + 9 * w)).toInt v.toInt x.toInt) = 2)) := fun {x c r0 h0} h1 h2 e a d => by
    have cf := cF_spec a
    rw [e, hc] at cf
    have er : r0.toInt = onI (n (181 + 9 * w)).toInt v.toInt x.toInt := by omega
    have hd := x9held d
    have ob := onI_b (c := (n (181 + 9 * w)).toInt) (s := v.toInt) (y := x.toInt)
    rw [← er] at ob ⊢
    unfold HdS
    rcases hd with hd | hd
    · rw [(hh _ (by omega)).1, (hh _ (by omega)).2] at hd
      omega
    · omega
  have G : ∀ x : Int32, RCH (fun x_ y_ => ST_X9_yardsToFull_2 b w v M x_ y_) (1 : Int32) x → 1 ≤ x.toInt ∧ ∀ j : Int, 1 ≤ j → j < x.toInt → ¬ (0 ≤ onI (n (181 + 9 * w)).toInt v.toInt j ∧ HdS n w (onI (n (181 + 9 * w)).toInt v.toInt j) = 2) := fun x hL =>
    rind hL (fun x => 1 ≤ x.toInt ∧ ∀ j : Int, 1 ≤ j → j < x.toInt → ¬ (0 ≤ onI (n (181 + 9 * w)).toInt v.toInt j ∧ HdS n w (onI (n (181 + 9 * w)).toInt v.toInt j) = 2)) ⟨by omega, fun j h1 h2 => by omega⟩ (fun x z hp hst => by
      (try dsimp only at hp hst ⊢)
      refine xE_ST_X9_yardsToFull_2 hst (fun p_hv0_2 p_hv1_2 p_h2_ p_z3_ p_e4_ p_r5_ p_hs9_ p_h8_ p_r10_ p_hs14_ p_h15_ p_z16_ p_h17_ p_hq_v2_2y => ?_)
      have k := K p_hv0_2 p_h2_ p_e4_ p_hs9_ p_hs14_
      rw [p_hq_v2_2y]
      refine ⟨by omega, fun j h1 h2 => ?_⟩
      by_cases e : j = x.toInt
      · rw [e]; exact fun q => p_h15_ (k.mpr q)
      · exact hp.2 j h1 (by omega))
  refine xE_SP_X9_yardsToFull h (fun v2_2 hv0_2 hv1_2 hL_2 => ⟨(fun h2_ hr_ => ?_), (fun h2_ z3_ e4_ r5_ hs9_ h8_ r10_ hs14_ h15_ hr_ => ?_)⟩)
  · have g := G _ hL_2
    rw [hr_, il_0]
    exact Or.inr ⟨rfl, fun j h1 h2 => g.2 j h1 (by omega)⟩
  · have g := G _ hL_2
    have k := K hv0_2 h2_ e4_ hs9_ hs14_
    rw [hr_]
    exact Or.inl ⟨g.1, h2_, g.2, k.mp h15_⟩
theorem x12full {v u : Int32} {M : mM} {r : Int32} (h : SP_X12_fullAhead v u M r) (hv : 0 ≤ v.toInt ∧ v.toInt ≤ 7) : FullP (HdS (M.1 (50, 0, 0)) v.toInt.toNat) (M.1 (50, 0, 0) (181 + 9 * v.toInt.toNat)).toInt (u &&& (7 : Int32)).toInt r.toInt := by
  have q0 := il_0
  have q1 := il_1
  refine xE_SP_X12_fullAhead h (fun r1_ hs5_ h4_ z6_ h7_ j10_ h11_ z8_ e9_ h12_ v4_16 hv0_16 hv1_16 hL_16 => ⟨(fun h14_ hr_ => ?_), (fun h14_ z15_ h17_ h16_ r18_ hs22_ h21_ => ⟨(fun h23_ hr_ => ?_), (fun h23_ z24_ h26_ h25_ r27_ hs31_ h30_ r32_ hs36_ h35_ h37_ hr_ => ?_)⟩)⟩)
  all_goals
    obtain rfl : j10_ = 181 + 9 * v.toInt.toNat := by omega
    rw [← e9_]
    have sb : 0 ≤ (u &&& (7 : Int32)).toInt ∧ (u &&& (7 : Int32)).toInt ≤ 7 := by rw [and7]; omega
    have g := rind hL_16 (fun x => 1 ≤ x.toInt ∧ ∀ j : Int, 1 ≤ j → j < x.toInt → ¬ (0 ≤ onI z8_.toInt (u &&& (7 : Int32)).toInt j ∧ HdS (M.1 (50, 0, 0)) v.toInt.toNat (onI z8_.toInt (u &&& (7 : Int32)).toInt j) = 2)) ⟨by omega, fun j h1 h2 => by omega⟩ (fun x z hp hst => by
      (try dsimp only at hp hst ⊢)
      refine xE_ST_X12_fullAhead_16 hst (fun p_hv0_16 p_hv1_16 p_h14_ p_z15_ p_h17_ p_h16_ p_r18_ p_hs22_ p_h21_ p_h23_ p_z24_ p_h26_ p_h25_ p_r27_ p_hs31_ p_h30_ p_r32_ p_hs36_ p_h35_ p_h37_ p_z38_ p_h39_ p_hq_v4_16y => ?_)
      rw [p_h17_] at p_h21_
      rw [p_h26_] at p_h30_
      have c1 := on_spec p_h21_.1 h12_ sb (by omega)
      have c2 := on_spec p_h30_.1 h12_ sb (by omega)
      have hd := x12held p_hs36_ hv (by omega)
      rw [p_hq_v4_16y]
      refine ⟨by omega, fun j h1 h2 => ?_⟩
      by_cases e : j = x.toInt
      · rw [e, ← c2, ← hd]; exact fun q => p_h37_ q.2
      · exact hp.2 j h1 (by omega))
    (try dsimp only at g)
  · rw [hr_, il_0]
    exact Or.inr ⟨rfl, fun j h1 h2 => g.2 j h1 (by omega)⟩
  · rw [h17_] at h21_
    have c1 := on_spec h21_.1 h12_ sb (by omega)
    rw [hr_, il_0]
    refine Or.inr ⟨rfl, fun j h1 h2 q => ?_⟩
    by_cases z : j < v4_16.toInt
    · exact g.2 j h1 z q
    · have := onI_out h12_ sb (j := v4_16.toInt) (k := j) (by omega) (by omega)
      omega
  · rw [h17_] at h21_
    rw [h26_] at h30_
    have c1 := on_spec h21_.1 h12_ sb (by omega)
    have c2 := on_spec h30_.1 h12_ sb (by omega)
    have hd := x12held hs36_ hv (by omega)
    rw [hr_]
    exact Or.inl ⟨g.1, by omega, g.2, by omega, by rw [← c2, ← hd]; exact h37_⟩
end
section
/-! what a walker does by its habit -/
def hbV (f l r u t : Int32) : Nat → Int32 := fun i => if i = 0 then f else if i = 1 then l else if i = 2 then r else if i = 3 then u else t
def habS (n : Nat → Int32) (f l r u t : Int32) : Int32 := if (n 445).toInt ≤ 0 then (if f.toInt = 1 then 1 else 0) else evR n 2 (hbV f l r u t)
theorem sval5 {M M1 M2 M3 M4 M5 : mM} {c : rf} {a0 a1 a2 a3 a4 : Int32} (h1 : M1 = up M c 0 a0) (h2 : M2 = up M1 c 1 a1) (h3 : M3 = up M2 c 2 a2) (h4 : M4 = up M3 c 3 a3) (h5 : M5 = up M4 c 4 a4) : ∀ i, i < 5 → M5.1 c i = hbV a0 a1 a2 a3 a4 i := fun i hi => by
  obtain rfl | rfl | rfl | rfl | rfl : i = 0 ∨ i = 1 ∨ i = 2 ∨ i = 3 ∨ i = 4 := by omega
  · rw [zupN h5 (by simp), zupN h4 (by simp), zupN h3 (by simp), zupN h2 (by simp), zupE h1 rfl rfl]; rfl
  · rw [zupN h5 (by simp), zupN h4 (by simp), zupN h3 (by simp), zupE h2 rfl rfl]; rfl
  · rw [zupN h5 (by simp), zupN h4 (by simp), zupE h3 rfl rfl]; rfl
  · rw [zupN h5 (by simp), zupE h4 rfl rfl]; rfl
  · rw [zupE h5 rfl rfl]; rfl
theorem x2habit {b : Nat} {v u t s q : Int32} {M M' : mM} {r : Int32} {n : Nat → Int32} (h : SP_X2_habitValue b v u t s q M r M') (hT : TXR b M.1 n) (hW : WT n) : r = habS n v u t s q := by
  have q0 := il_0
  have T := hT 2 (by omega)
  simp only [show 345 + 50 * 2 = 445 by decide, show 346 + 50 * 2 = 446 by decide] at T
  unfold habS
  refine xE_SP_X2_habitValue h (fun r1_ hs5_ h4_ => ⟨(fun h6_ M7_ hM8_ M11_ hM12_ M15_ hM16_ M19_ hM20_ M23_ hM24_ _ M28_ _ hF32_ r27_ hs34_ hr_ hM_ => ?_), (fun h6_ => ⟨(fun h35_ hr_ hM_ => ?_), (fun h35_ hr_ hM_ => ?_)⟩)⟩)
  · have g := x1given hs5_
    rw [T.1] at g
    have k : ∀ (c : rf) (j : Nat), c.1 ≠ 29 → M23_.1 c j = M.1 c j := fun c j hc => by
      rw [zupR hM24_ hc, zupR hM20_ hc, zupR hM16_ hc, zupR hM12_ hc, zupR hM8_ hc]
    rw [if_neg (by omega), hr_]
    refine x1work (nn := 5) hs34_ (by omega) hW (by rw [k _ _ (by simp)]; exact T.1) (fun i hi => by rw [k _ _ (by simp)]; exact T.2 i hi) (sval5 hM8_ hM12_ hM16_ hM20_ hM24_) (by show 0 < (n 445).toInt; omega)
  · have g := x1given hs5_
    rw [T.1] at g
    rw [if_pos (by omega), if_neg h35_, hr_]
  · have g := x1given hs5_
    rw [T.1] at g
    rw [if_pos (by omega), if_pos h35_, hr_]
def HabC (b : Nat) (v : Int32) (w : Nat) (M M' : mM) : Prop := ∃ (s rf sl rl sr rr bu now r : Int32) (M2 : mM), s = M.1 (9, b, w) 2 ∧ SP_X9_yardsToFull b w s M rf ∧ sl = (s + (6 : Int32)) &&& (7 : Int32) ∧ SP_X9_yardsToFull b w sl M rl ∧ sr = (s + (2 : Int32)) &&& (7 : Int32) ∧ SP_X9_yardsToFull b w sr M rr ∧ bu = M.1 (9, b, w) 7 ∧ now = M.1 (10, b, 0) 7 ∧ FR (S_c_X2_habitValue b) M M2 ∧ SP_X2_habitValue b rf rl rr bu now M r M2 ∧
  ((¬ (fmX r).toInt = 0 ∧ ¬ (fmX r).toInt = 3 ∧ SP_X9_turn b w (fmX r) M2 M') ∨ ((fmX r).toInt = 3 ∧ SP_X9_turn b w (-2) M2 M') ∨ ((fmX r).toInt = 0 ∧ SP_X10_goOn b v M2 M'))
def clkP (now every : Int32) (kind : Int) : Prop := 0 < every.toInt ∧ (now - now / every * every).toInt = 0 ∧ undP kind 1
theorem lwC {b : Nat} {v : Int32} {M M' : mM} (h : SP_X10_letWalkerGo b v M M') (hv : 0 ≤ v.toInt ∧ v.toInt < (M.1 (10, b, 0) 6).toInt ∧ v.toInt < 8) (hk : 0 ≤ (M.1 (9, b, v.toInt.toNat) 0).toInt ∧ (M.1 (9, b, v.toInt.toNat) 0).toInt ≤ 7) :
    (¬ clkP (M.1 (10, b, 0) 7) (M.1 (9, b, v.toInt.toNat) 5) (M.1 (9, b, v.toInt.toNat) 0).toInt ∧ HabC b v v.toInt.toNat M M') ∨ (clkP (M.1 (10, b, 0) 7) (M.1 (9, b, v.toInt.toNat) 5) (M.1 (9, b, v.toInt.toNat) 0).toInt ∧ ∃ (r : Int32) (M1 : mM), SP_X10_makeClick b v M r M1 ∧ HabC b v v.toInt.toNat M1 M') := by
  have q1 := il_1
  unfold clkP
  refine xE_SP_X10_letWalkerGo h ⟨(fun hs5_ h4_ j7_ h8_ h9_ z10_ e11_ => ⟨(fun h12_ z13_ e14_ r15_ hs19_ z22_ h23_ z24_ h26_ h25_ r27_ hs31_ z34_ h35_ z36_ h38_ h37_ r39_ hs43_ z44_ e45_ z46_ e47_ M49_ _ hF53_ r48_ hs55_ z56_ z56_h => ⟨(fun h57_ => ⟨(fun h58_ M59_ _ hF63_ hs65_ hM_ => ?_), (fun h58_ M66_ _ hF70_ hs72_ hM_ => ?_)⟩), (fun h57_ M73_ _ hF77_ hs79_ hM_ => ?_)⟩), (fun h12_ z80_ e81_ z82_ h83_ => ⟨(fun h84_ z85_ e86_ r87_ hs91_ z94_ h95_ z96_ h98_ h97_ r99_ hs103_ z106_ h107_ z108_ h110_ h109_ r111_ hs115_ z116_ e117_ M121_ _ hF125_ r120_ hs127_ z128_ z128_h => ⟨(fun h129_ => ⟨(fun h130_ M131_ _ hF135_ hs137_ hM_ => ?_), (fun h130_ M138_ _ hF142_ hs144_ hM_ => ?_)⟩), (fun h129_ M145_ _ hF149_ hs151_ hM_ => ?_)⟩), (fun h84_ r152_ hs156_ h155_ => ⟨(fun h157_ z158_ e159_ r160_ hs164_ z167_ h168_ z169_ h171_ h170_ r172_ hs176_ z179_ h180_ z181_ h183_ h182_ r184_ hs188_ z189_ e190_ M194_ _ hF198_ r193_ hs200_ z201_ z201_h => ⟨(fun h202_ => ⟨(fun h203_ M204_ _ hF208_ hs210_ hM_ => ?_), (fun h203_ M211_ _ hF215_ hs217_ hM_ => ?_)⟩), (fun h202_ M218_ _ hF222_ hs224_ hM_ => ?_)⟩), (fun h157_ M226_ _ hF230_ r225_ hs232_ z233_ e234_ r235_ hs239_ z242_ h243_ z244_ h246_ h245_ r247_ hs251_ z254_ h255_ z256_ h258_ h257_ r259_ hs263_ z264_ e265_ z266_ e267_ M269_ _ hF273_ r268_ hs275_ z276_ z276_h => ⟨(fun h277_ => ⟨(fun h278_ M279_ _ hF283_ hs285_ hM_ => ?_), (fun h278_ M286_ _ hF290_ hs292_ hM_ => ?_)⟩), (fun h277_ M293_ _ hF297_ hs299_ hM_ => ?_)⟩)⟩)⟩)⟩), (fun hs5_ hM_ => ?_)⟩
  · obtain rfl : j7_ = v.toInt.toNat := by omega
    refine Or.inl ⟨fun q => by rw [← e11_] at q; omega, ?_⟩
    exact ⟨z13_, r15_, z24_, r27_, z36_, r39_, z44_, z46_, r48_, M49_, e14_, hs19_, by rw [h26_, h23_], hs31_, by rw [h38_, h35_], hs43_, e45_, e47_, hF53_, hs55_, Or.inl ⟨(by rw [← z56_h]; exact h57_), (by rw [← z56_h]; exact h58_), by rw [hM_, ← z56_h]; exact hs65_⟩⟩
  · obtain rfl : j7_ = v.toInt.toNat := by omega
    refine Or.inl ⟨fun q => by rw [← e11_] at q; omega, ?_⟩
    exact ⟨z13_, r15_, z24_, r27_, z36_, r39_, z44_, z46_, r48_, M49_, e14_, hs19_, by rw [h26_, h23_], hs31_, by rw [h38_, h35_], hs43_, e45_, e47_, hF53_, hs55_, Or.inr (Or.inl ⟨(by rw [← z56_h]; exact h58_), by rw [hM_]; exact hs72_⟩)⟩
  · obtain rfl : j7_ = v.toInt.toNat := by omega
    refine Or.inl ⟨fun q => by rw [← e11_] at q; omega, ?_⟩
    exact ⟨z13_, r15_, z24_, r27_, z36_, r39_, z44_, z46_, r48_, M49_, e14_, hs19_, by rw [h26_, h23_], hs31_, by rw [h38_, h35_], hs43_, e45_, e47_, hF53_, hs55_, Or.inr (Or.inr ⟨(by rw [← z56_h]; exact h57_), by rw [hM_]; exact hs79_⟩)⟩
  · obtain rfl : j7_ = v.toInt.toNat := by omega
    refine Or.inl ⟨fun q => h84_ (by rw [h83_, e81_, e11_]; exact q.2.1), ?_⟩
    exact ⟨z85_, r87_, z96_, r99_, z108_, r111_, z116_, z80_, r120_, M121_, e86_, hs91_, by rw [h98_, h95_], hs103_, by rw [h110_, h107_], hs115_, e117_, e81_, hF125_, hs127_, Or.inl ⟨(by rw [← z128_h]; exact h129_), (by rw [← z128_h]; exact h130_), by rw [hM_, ← z128_h]; exact hs137_⟩⟩
  · obtain rfl : j7_ = v.toInt.toNat := by omega
    refine Or.inl ⟨fun q => h84_ (by rw [h83_, e81_, e11_]; exact q.2.1), ?_⟩
    exact ⟨z85_, r87_, z96_, r99_, z108_, r111_, z116_, z80_, r120_, M121_, e86_, hs91_, by rw [h98_, h95_], hs103_, by rw [h110_, h107_], hs115_, e117_, e81_, hF125_, hs127_, Or.inr (Or.inl ⟨(by rw [← z128_h]; exact h130_), by rw [hM_]; exact hs144_⟩)⟩
  · obtain rfl : j7_ = v.toInt.toNat := by omega
    refine Or.inl ⟨fun q => h84_ (by rw [h83_, e81_, e11_]; exact q.2.1), ?_⟩
    exact ⟨z85_, r87_, z96_, r99_, z108_, r111_, z116_, z80_, r120_, M121_, e86_, hs91_, by rw [h98_, h95_], hs103_, by rw [h110_, h107_], hs115_, e117_, e81_, hF125_, hs127_, Or.inr (Or.inr ⟨(by rw [← z128_h]; exact h129_), by rw [hM_]; exact hs151_⟩)⟩
  · obtain rfl : j7_ = v.toInt.toNat := by omega
    have un := x9isOf hs156_ hk
    rw [q1] at un
    refine Or.inl ⟨fun q => (un.resolve_left (fun z => by omega)).2 q.2.2, ?_⟩
    exact ⟨z158_, r160_, z169_, r172_, z181_, r184_, z189_, z80_, r193_, M194_, e159_, hs164_, by rw [h171_, h168_], hs176_, by rw [h183_, h180_], hs188_, e190_, e81_, hF198_, hs200_, Or.inl ⟨(by rw [← z201_h]; exact h202_), (by rw [← z201_h]; exact h203_), by rw [hM_, ← z201_h]; exact hs210_⟩⟩
  · obtain rfl : j7_ = v.toInt.toNat := by omega
    have un := x9isOf hs156_ hk
    rw [q1] at un
    refine Or.inl ⟨fun q => (un.resolve_left (fun z => by omega)).2 q.2.2, ?_⟩
    exact ⟨z158_, r160_, z169_, r172_, z181_, r184_, z189_, z80_, r193_, M194_, e159_, hs164_, by rw [h171_, h168_], hs176_, by rw [h183_, h180_], hs188_, e190_, e81_, hF198_, hs200_, Or.inr (Or.inl ⟨(by rw [← z201_h]; exact h203_), by rw [hM_]; exact hs217_⟩)⟩
  · obtain rfl : j7_ = v.toInt.toNat := by omega
    have un := x9isOf hs156_ hk
    rw [q1] at un
    refine Or.inl ⟨fun q => (un.resolve_left (fun z => by omega)).2 q.2.2, ?_⟩
    exact ⟨z158_, r160_, z169_, r172_, z181_, r184_, z189_, z80_, r193_, M194_, e159_, hs164_, by rw [h171_, h168_], hs176_, by rw [h183_, h180_], hs188_, e190_, e81_, hF198_, hs200_, Or.inr (Or.inr ⟨(by rw [← z201_h]; exact h202_), by rw [hM_]; exact hs224_⟩)⟩
  · obtain rfl : j7_ = v.toInt.toNat := by omega
    have un := x9isOf hs156_ hk
    rw [q1] at un
    refine Or.inr ⟨⟨by rw [← e11_]; omega, by rw [← e11_, ← e81_, ← h83_]; assumption, (un.resolve_right (fun z => by omega)).2⟩, r225_, M226_, hs232_, ?_⟩
    exact ⟨z233_, r235_, z244_, r247_, z256_, r259_, z264_, z266_, r268_, M269_, e234_, hs239_, by rw [h246_, h243_], hs251_, by rw [h258_, h255_], hs263_, e265_, e267_, hF273_, hs275_, Or.inl ⟨(by rw [← z276_h]; exact h277_), (by rw [← z276_h]; exact h278_), by rw [hM_, ← z276_h]; exact hs285_⟩⟩
  · obtain rfl : j7_ = v.toInt.toNat := by omega
    have un := x9isOf hs156_ hk
    rw [q1] at un
    refine Or.inr ⟨⟨by rw [← e11_]; omega, by rw [← e11_, ← e81_, ← h83_]; assumption, (un.resolve_right (fun z => by omega)).2⟩, r225_, M226_, hs232_, ?_⟩
    exact ⟨z233_, r235_, z244_, r247_, z256_, r259_, z264_, z266_, r268_, M269_, e234_, hs239_, by rw [h246_, h243_], hs251_, by rw [h258_, h255_], hs263_, e265_, e267_, hF273_, hs275_, Or.inr (Or.inl ⟨(by rw [← z276_h]; exact h278_), by rw [hM_]; exact hs292_⟩)⟩
  · obtain rfl : j7_ = v.toInt.toNat := by omega
    have un := x9isOf hs156_ hk
    rw [q1] at un
    refine Or.inr ⟨⟨by rw [← e11_]; omega, by rw [← e11_, ← e81_, ← h83_]; assumption, (un.resolve_right (fun z => by omega)).2⟩, r225_, M226_, hs232_, ?_⟩
    exact ⟨z233_, r235_, z244_, r247_, z256_, r259_, z264_, z266_, r268_, M269_, e234_, hs239_, by rw [h246_, h243_], hs251_, by rw [h258_, h255_], hs263_, e265_, e267_, hF273_, hs275_, Or.inr (Or.inr ⟨(by rw [← z276_h]; exact h277_), by rw [hM_]; exact hs299_⟩)⟩
  · have q0 := il_0; have := x10has hs5_; omega
/-- the model's -/
def trD (s r : Int32) : Int32 := if r.toInt = 1 then (s + (1 : Int32)) &&& (7 : Int32) else if r.toInt = 2 then (s + (2 : Int32)) &&& (7 : Int32) else (s + (6 : Int32)) &&& (7 : Int32)
def HabD (v : Int32) (M M' : mM) : Prop := ∃ (r : Int32) (M2 : mM), InvD M2 ∧ FR S_c_X12_habitOf M M2 ∧ SP_X12_habitOf v M r M2 ∧ ((¬ r.toInt = 0 ∧ M' = up M2 (50, 0, 0) (182 + 9 * v.toInt.toNat) (trD (M2.1 (50, 0, 0) (182 + 9 * v.toInt.toNat)) r)) ∨ (r.toInt = 0 ∧ SP_X12_goesOn v M2 M'))
theorem wgD {v : Int32} {M M' : mM} (h : SP_X12_walkerGoes v M M') (hv : 0 ≤ v.toInt ∧ v.toInt ≤ 7) :
    ((M.1 (50, 0, 0) (186 + 9 * v.toInt.toNat)).toInt = 0 ∧ M' = M) ∨ (¬ (M.1 (50, 0, 0) (186 + 9 * v.toInt.toNat)).toInt = 0 ∧
      ((¬ clkP (M.1 (50, 0, 0) 0) (M.1 (50, 0, 0) (185 + 9 * v.toInt.toNat)) (M.1 (50, 0, 0) (180 + 9 * v.toInt.toNat)).toInt ∧ HabD v M M') ∨ (clkP (M.1 (50, 0, 0) 0) (M.1 (50, 0, 0) (185 + 9 * v.toInt.toNat)) (M.1 (50, 0, 0) (180 + 9 * v.toInt.toNat)).toInt ∧ ∃ (r : Int32) (M1 : mM), InvD M1 ∧ SP_X12_clicks v M r M1 ∧ HabD v M1 M'))) := by
  have q1 := il_1
  have i1 : (1 : Int32).toInt = 1 := by decide
  have i2 : (2 : Int32).toInt = 2 := by decide
  have i6 : (6 : Int32).toInt = 6 := by decide
  have T1 : ∀ {s r a x : Int32}, 0 ≤ s.toInt ∧ s.toInt ≤ 7 → a.toInt = s.toInt + 1 → x = a &&& (7 : Int32) → r.toInt = 1 → x = trD s r := fun {s r a x} hs ha hx hr => by
    unfold trD
    rw [if_pos hr, hx, show a = s + (1 : Int32) from i32e (by rw [ha, addI (x := s) rfl i1 (by omega) (by omega)])]
  have T2 : ∀ {s r a x : Int32}, 0 ≤ s.toInt ∧ s.toInt ≤ 7 → a.toInt = s.toInt + 2 → x = a &&& (7 : Int32) → r.toInt = 2 → x = trD s r := fun {s r a x} hs ha hx hr => by
    unfold trD
    rw [if_neg (by omega), if_pos hr, hx, show a = s + (2 : Int32) from i32e (by rw [ha, addI (x := s) rfl i2 (by omega) (by omega)])]
  have T6 : ∀ {s r a x : Int32}, 0 ≤ s.toInt ∧ s.toInt ≤ 7 → a.toInt = s.toInt + 6 → x = a &&& (7 : Int32) → ¬ r.toInt = 1 → ¬ r.toInt = 2 → x = trD s r := fun {s r a x} hs ha hx hr hr2 => by
    unfold trD
    rw [if_neg hr, if_neg hr2, hx, show a = s + (6 : Int32) from i32e (by rw [ha, addI (x := s) rfl i6 (by omega) (by omega)])]
  unfold clkP
  refine xE_SP_X12_walkerGoes h (fun r1_ hs5_ h4_ z6_ h7_ j10_ h11_ z8_ e9_ z12_ h13_ j16_ h17_ z14_ e15_ => ?_)
  obtain rfl : j10_ = 185 + 9 * v.toInt.toNat := by omega
  obtain rfl : j16_ = 186 + 9 * v.toInt.toNat := by omega
  refine ⟨(fun h18_ => ⟨(fun h19_ M21_ hI24_ hF25_ r20_ hs27_ => ⟨(fun h28_ z29_ h30_ z31_ h32_ j35_ h36_ z33_ e34_ h37_ => ⟨(fun h38_ => ⟨(fun h39_ z40_ h41_ z42_ h44_ h43_ j47_ h48_ M45_ hM46_ hM_ => ?_), (fun h39_ z51_ h52_ z53_ h55_ h54_ j58_ h59_ M56_ hM57_ hM_ => ?_)⟩), (fun h38_ z62_ h63_ z64_ h66_ h65_ j69_ h70_ M67_ hM68_ hM_ => ?_)⟩), (fun h28_ M73_ hI76_ hF77_ hs79_ hM_ => ?_)⟩), (fun h19_ z80_ e81_ z82_ h83_ => ⟨(fun h84_ M86_ hI89_ hF90_ r85_ hs92_ => ⟨(fun h93_ z94_ h95_ z96_ h97_ j100_ h101_ z98_ e99_ h102_ => ⟨(fun h103_ => ⟨(fun h104_ z105_ h106_ z107_ h109_ h108_ j112_ h113_ M110_ hM111_ hM_ => ?_), (fun h104_ z116_ h117_ z118_ h120_ h119_ j123_ h124_ M121_ hM122_ hM_ => ?_)⟩), (fun h103_ z127_ h128_ z129_ h131_ h130_ j134_ h135_ M132_ hM133_ hM_ => ?_)⟩), (fun h93_ M138_ hI141_ hF142_ hs144_ hM_ => ?_)⟩), (fun h84_ r145_ hs149_ h148_ r150_ hs154_ h153_ => ⟨(fun h155_ M157_ hI160_ hF161_ r156_ hs163_ => ⟨(fun h164_ z165_ h166_ z167_ h168_ j171_ h172_ z169_ e170_ h173_ => ⟨(fun h174_ => ⟨(fun h175_ z176_ h177_ z178_ h180_ h179_ j183_ h184_ M181_ hM182_ hM_ => ?_), (fun h175_ z187_ h188_ z189_ h191_ h190_ j194_ h195_ M192_ hM193_ hM_ => ?_)⟩), (fun h174_ z198_ h199_ z200_ h202_ h201_ j205_ h206_ M203_ hM204_ hM_ => ?_)⟩), (fun h164_ M209_ hI212_ hF213_ hs215_ hM_ => ?_)⟩), (fun h155_ M217_ hI220_ hF221_ r216_ hs223_ M225_ hI228_ hF229_ r224_ hs231_ => ⟨(fun h232_ z233_ h234_ z235_ h236_ j239_ h240_ z237_ e238_ h241_ => ⟨(fun h242_ => ⟨(fun h243_ z244_ h245_ z246_ h248_ h247_ j251_ h252_ M249_ hM250_ hM_ => ?_), (fun h243_ z255_ h256_ z257_ h259_ h258_ j262_ h263_ M260_ hM261_ hM_ => ?_)⟩), (fun h242_ z266_ h267_ z268_ h270_ h269_ j273_ h274_ M271_ hM272_ hM_ => ?_)⟩), (fun h232_ M277_ hI280_ hF281_ hs283_ hM_ => ?_)⟩)⟩)⟩)⟩), (fun h18_ hM_ => ?_)⟩
  all_goals
    rw [← e9_, ← e15_]
  · skip
    obtain rfl : j35_ = 182 + 9 * v.toInt.toNat := by omega
    obtain rfl : j47_ = 182 + 9 * v.toInt.toNat := by omega
    refine Or.inr ⟨h18_, Or.inl ⟨fun q => by omega, ?_⟩⟩
    exact ⟨r20_, M21_, hI24_, hF25_, hs27_, Or.inl ⟨h28_, by rw [hM_, hM46_, ← e34_, T6 h37_ h41_ h44_ h38_ h39_]⟩⟩
  · skip
    obtain rfl : j35_ = 182 + 9 * v.toInt.toNat := by omega
    obtain rfl : j58_ = 182 + 9 * v.toInt.toNat := by omega
    refine Or.inr ⟨h18_, Or.inl ⟨fun q => by omega, ?_⟩⟩
    exact ⟨r20_, M21_, hI24_, hF25_, hs27_, Or.inl ⟨h28_, by rw [hM_, hM57_, ← e34_, T2 h37_ h52_ h55_ h39_]⟩⟩
  · skip
    obtain rfl : j35_ = 182 + 9 * v.toInt.toNat := by omega
    obtain rfl : j69_ = 182 + 9 * v.toInt.toNat := by omega
    refine Or.inr ⟨h18_, Or.inl ⟨fun q => by omega, ?_⟩⟩
    exact ⟨r20_, M21_, hI24_, hF25_, hs27_, Or.inl ⟨h28_, by rw [hM_, hM68_, ← e34_, T1 h37_ h63_ h66_ h38_]⟩⟩
  · skip
    refine Or.inr ⟨h18_, Or.inl ⟨fun q => by omega, ?_⟩⟩
    exact ⟨r20_, M21_, hI24_, hF25_, hs27_, Or.inr ⟨h28_, by rw [hM_]; exact hs79_⟩⟩
  · skip
    obtain rfl : j100_ = 182 + 9 * v.toInt.toNat := by omega
    obtain rfl : j112_ = 182 + 9 * v.toInt.toNat := by omega
    refine Or.inr ⟨h18_, Or.inl ⟨fun q => h84_ (by rw [h83_, e81_]; exact q.2.1), ?_⟩⟩
    exact ⟨r85_, M86_, hI89_, hF90_, hs92_, Or.inl ⟨h93_, by rw [hM_, hM111_, ← e99_, T6 h102_ h106_ h109_ h103_ h104_]⟩⟩
  · skip
    obtain rfl : j100_ = 182 + 9 * v.toInt.toNat := by omega
    obtain rfl : j123_ = 182 + 9 * v.toInt.toNat := by omega
    refine Or.inr ⟨h18_, Or.inl ⟨fun q => h84_ (by rw [h83_, e81_]; exact q.2.1), ?_⟩⟩
    exact ⟨r85_, M86_, hI89_, hF90_, hs92_, Or.inl ⟨h93_, by rw [hM_, hM122_, ← e99_, T2 h102_ h117_ h120_ h104_]⟩⟩
  · skip
    obtain rfl : j100_ = 182 + 9 * v.toInt.toNat := by omega
    obtain rfl : j134_ = 182 + 9 * v.toInt.toNat := by omega
    refine Or.inr ⟨h18_, Or.inl ⟨fun q => h84_ (by rw [h83_, e81_]; exact q.2.1), ?_⟩⟩
    exact ⟨r85_, M86_, hI89_, hF90_, hs92_, Or.inl ⟨h93_, by rw [hM_, hM133_, ← e99_, T1 h102_ h128_ h131_ h103_]⟩⟩
  · skip
    refine Or.inr ⟨h18_, Or.inl ⟨fun q => h84_ (by rw [h83_, e81_]; exact q.2.1), ?_⟩⟩
    exact ⟨r85_, M86_, hI89_, hF90_, hs92_, Or.inr ⟨h93_, by rw [hM_]; exact hs144_⟩⟩
  · have kd := x12kindOf hs149_ hv
    have un := x12isUnder hs154_ h148_
    rw [q1, kd] at un
    obtain rfl : j171_ = 182 + 9 * v.toInt.toNat := by omega
    obtain rfl : j183_ = 182 + 9 * v.toInt.toNat := by omega
    refine Or.inr ⟨h18_, Or.inl ⟨fun q => (un.resolve_left (fun z => by omega)).2 q.2.2, ?_⟩⟩
    exact ⟨r156_, M157_, hI160_, hF161_, hs163_, Or.inl ⟨h164_, by rw [hM_, hM182_, ← e170_, T6 h173_ h177_ h180_ h174_ h175_]⟩⟩
  · have kd := x12kindOf hs149_ hv
    have un := x12isUnder hs154_ h148_
    rw [q1, kd] at un
    obtain rfl : j171_ = 182 + 9 * v.toInt.toNat := by omega
    obtain rfl : j194_ = 182 + 9 * v.toInt.toNat := by omega
    refine Or.inr ⟨h18_, Or.inl ⟨fun q => (un.resolve_left (fun z => by omega)).2 q.2.2, ?_⟩⟩
    exact ⟨r156_, M157_, hI160_, hF161_, hs163_, Or.inl ⟨h164_, by rw [hM_, hM193_, ← e170_, T2 h173_ h188_ h191_ h175_]⟩⟩
  · have kd := x12kindOf hs149_ hv
    have un := x12isUnder hs154_ h148_
    rw [q1, kd] at un
    obtain rfl : j171_ = 182 + 9 * v.toInt.toNat := by omega
    obtain rfl : j205_ = 182 + 9 * v.toInt.toNat := by omega
    refine Or.inr ⟨h18_, Or.inl ⟨fun q => (un.resolve_left (fun z => by omega)).2 q.2.2, ?_⟩⟩
    exact ⟨r156_, M157_, hI160_, hF161_, hs163_, Or.inl ⟨h164_, by rw [hM_, hM204_, ← e170_, T1 h173_ h199_ h202_ h174_]⟩⟩
  · have kd := x12kindOf hs149_ hv
    have un := x12isUnder hs154_ h148_
    rw [q1, kd] at un
    refine Or.inr ⟨h18_, Or.inl ⟨fun q => (un.resolve_left (fun z => by omega)).2 q.2.2, ?_⟩⟩
    exact ⟨r156_, M157_, hI160_, hF161_, hs163_, Or.inr ⟨h164_, by rw [hM_]; exact hs215_⟩⟩
  · have kd := x12kindOf hs149_ hv
    have un := x12isUnder hs154_ h148_
    rw [q1, kd] at un
    obtain rfl : j239_ = 182 + 9 * v.toInt.toNat := by omega
    obtain rfl : j251_ = 182 + 9 * v.toInt.toNat := by omega
    refine Or.inr ⟨h18_, Or.inr ⟨⟨by omega, by rw [← e81_, ← h83_]; assumption, (un.resolve_right (fun z => by omega)).2⟩, r216_, M217_, hI220_, hs223_, ?_⟩⟩
    exact ⟨r224_, M225_, hI228_, hF229_, hs231_, Or.inl ⟨h232_, by rw [hM_, hM250_, ← e238_, T6 h241_ h245_ h248_ h242_ h243_]⟩⟩
  · have kd := x12kindOf hs149_ hv
    have un := x12isUnder hs154_ h148_
    rw [q1, kd] at un
    obtain rfl : j239_ = 182 + 9 * v.toInt.toNat := by omega
    obtain rfl : j262_ = 182 + 9 * v.toInt.toNat := by omega
    refine Or.inr ⟨h18_, Or.inr ⟨⟨by omega, by rw [← e81_, ← h83_]; assumption, (un.resolve_right (fun z => by omega)).2⟩, r216_, M217_, hI220_, hs223_, ?_⟩⟩
    exact ⟨r224_, M225_, hI228_, hF229_, hs231_, Or.inl ⟨h232_, by rw [hM_, hM261_, ← e238_, T2 h241_ h256_ h259_ h243_]⟩⟩
  · have kd := x12kindOf hs149_ hv
    have un := x12isUnder hs154_ h148_
    rw [q1, kd] at un
    obtain rfl : j239_ = 182 + 9 * v.toInt.toNat := by omega
    obtain rfl : j273_ = 182 + 9 * v.toInt.toNat := by omega
    refine Or.inr ⟨h18_, Or.inr ⟨⟨by omega, by rw [← e81_, ← h83_]; assumption, (un.resolve_right (fun z => by omega)).2⟩, r216_, M217_, hI220_, hs223_, ?_⟩⟩
    exact ⟨r224_, M225_, hI228_, hF229_, hs231_, Or.inl ⟨h232_, by rw [hM_, hM272_, ← e238_, T1 h241_ h267_ h270_ h242_]⟩⟩
  · have kd := x12kindOf hs149_ hv
    have un := x12isUnder hs154_ h148_
    rw [q1, kd] at un
    refine Or.inr ⟨h18_, Or.inr ⟨⟨by omega, by rw [← e81_, ← h83_]; assumption, (un.resolve_right (fun z => by omega)).2⟩, r216_, M217_, hI220_, hs223_, ?_⟩⟩
    exact ⟨r224_, M225_, hI228_, hF229_, hs231_, Or.inr ⟨h232_, by rw [hM_]; exact hs283_⟩⟩
  · exact Or.inl ⟨h18_, hM_⟩
end
section
/-! a walker goes on -/
theorem OCC_wmove {b : Nat} {q q2 : rf → Nat → Int32} {n : Nat → Int32} {w : Nat} {x : Int32} {to c0 : Nat} (h : OCC b q n) (hN : nTh n ≤ 40) (hW : nWa n ≤ 8) (hw : (w : Int) < nWa n) (h0 : wcl n w = (c0 : Int)) (hx : x.toInt = (to : Int)) (hto : to < 192) (hf : occ b q to = -1)
    (ho : ∀ k, occ b q2 k = if k = to then 100 + (w : Int) else if k = c0 then -1 else occ b q k) : OCC b q2 (upd n (181 + 9 * w) x) := by
  obtain ⟨h1, h2, h3⟩ := h
  have o0 := h2 w hw
  rw [h0, Int.toNat_natCast] at o0
  have et : nTh (upd n (181 + 9 * w) x) = nTh n := by unfold nTh; rw [updN (by omega)]
  have ew : nWa (upd n (181 + 9 * w) x) = nWa n := by unfold nWa; rw [updN (by omega)]
  have wE : wcl (upd n (181 + 9 * w) x) w = (to : Int) := by unfold wcl; rw [updE rfl]; exact hx
  have wN : ∀ s : Nat, ¬ s = w → wcl (upd n (181 + 9 * w) x) s = wcl n s := fun s hs => by unfold wcl; rw [updN (by omega)]
  have tN : ∀ t : Nat, (t : Int) < nTh n → tcl (upd n (181 + 9 * w) x) t = tcl n t := fun t ht => by unfold tcl; rw [updN (by omega)]
  unfold OCC
  rw [et, ew]
  refine ⟨fun s hs hp => ?_, fun u hu => ?_, fun c hc => ?_⟩
  · rw [tN s hs] at hp ⊢
    have g := h1 s hs hp
    rw [ho, if_neg (fun z => by rw [z] at g; omega), if_neg (fun z => by rw [z] at g; omega)]
    exact g
  · by_cases e : u = w
    · rw [e, wE, ho, if_pos (by omega)]
    · rw [wN u e]
      have g := h2 u hu
      rw [ho, if_neg (fun z => by rw [z] at g; omega), if_neg (fun z => by rw [z] at g; omega)]
      exact g
  · rw [ho]
    by_cases e : c = to
    · rw [if_pos e]
      exact Or.inr (Or.inr ⟨by omega, by omega, by rw [show (100 + (w : Int) - 100).toNat = w by omega, wE, e]⟩)
    · rw [if_neg e]
      by_cases e2 : c = c0
      · rw [if_pos e2]; exact Or.inl rfl
      · rw [if_neg e2]
        rcases h3 c hc with o | ⟨o1, o2, o3⟩ | ⟨o1, o2, o3⟩
        · exact Or.inl o
        · exact Or.inr (Or.inl ⟨o1, o2, by rw [tN _ (by omega)]; exact o3⟩)
        · refine Or.inr (Or.inr ⟨o1, o2, ?_⟩)
          rw [wN _ (fun z => by rw [z, h0] at o3; omega)]
          exact o3
theorem WRR_wmove {b : Nat} {M D : mM} {w to c0 : Nat} {x i : Int32} (h : WRR b M.1 (D.1 (50, 0, 0))) (hN : NW5 (D.1 (50, 0, 0))) (hw : (w : Int) < nWa (D.1 (50, 0, 0))) (hi : i.toInt = 100 + (w : Int)) (h0 : wcl (D.1 (50, 0, 0)) w = (c0 : Int)) (hx : x.toInt = (to : Int)) (hto : to < 192) (hf : occ b M.1 to = -1) :
    WRR b (up (up (up M (35, b, 0) c0 (-1)) (35, b, 0) to i) (9, b, w) 1 x).1 ((up D (50, 0, 0) (181 + 9 * w) x).1 (50, 0, 0)) := by
  have b1 := nTh_b hN
  have b2 := nWa_b hN
  rw [up_row]
  have nn : ∀ j, ¬ j = 181 + 9 * w → upd (D.1 (50, 0, 0)) (181 + 9 * w) x j = D.1 (50, 0, 0) j := fun j hj => updN hj
  have qq : ∀ (c : rf) (k : Nat), ¬ c.1 = 35 → ¬ c.1 = 9 → (up (up (up M (35, b, 0) c0 (-1)) (35, b, 0) to i) (9, b, w) 1 x).1 c k = M.1 c k := fun c k h1 h2 => by
    rw [zupR rfl h2, zupR rfl h1, zupR rfl h1]
  have ew : nWa (upd (D.1 (50, 0, 0)) (181 + 9 * w) x) = nWa (D.1 (50, 0, 0)) := by unfold nWa; rw [nn 2 (by omega)]
  refine ⟨LWR_keep h.1 (fun r k hr => qq _ _ (by dsimp only; omega) (by dsimp only; omega)) (fun j hj => nn j (by omega)), THR_keep h.2.1 b1.2 (fun r k hr => qq _ _ (by dsimp only; omega) (by dsimp only; omega)) (fun j hj => nn j (by omega)), ?_,
    TXR_keep h.2.2.2.1 (TXz hN) (fun r u k hr hu => qq _ _ (by dsimp only; omega) (by dsimp only; omega)) (fun j h1 h2 => nn j (by omega)), ?_, MIR_keep h.2.2.2.2.2 b1.2 b2.2 (fun j hj => nn j (by omega)) (fun u h1 h2 => ⟨fun k hk => nn _ (by omega), fun c hc => nn _ (by omega)⟩)⟩
  · refine ⟨by rw [qq _ _ (by simp) (by simp), nn 2 (by omega)]; exact h.2.2.1.1, fun u hu => ⟨fun k hk => ?_, fun c hc => ?_⟩⟩
    · rw [ew] at hu
      by_cases e : u = w ∧ k = 1
      · rw [e.1, e.2, zupE rfl rfl rfl, updE (by omega)]
      · rw [zupN rfl (fun z => e ⟨congrArg (fun c : rf => c.2.2) z.1, z.2⟩), zupR rfl (by simp), zupR rfl (by simp), nn _ (by omega)]; exact (h.2.2.1.2 u hu).1 k hk
    · rw [ew] at hu
      rw [qq _ _ (by simp) (by simp), qq _ _ (by simp) (by simp), nn _ (by omega), nn _ (by omega)]
      exact (h.2.2.1.2 u hu).2 c hc
  · refine OCC_wmove h.2.2.2.2.1 b1.2 b2.2 hw h0 hx hto hf (fun k => ?_)
    unfold occ
    rw [zupR (c' := (35, b, 0)) rfl (by simp)]
    by_cases e : k = to
    · rw [if_pos e, zupE rfl rfl e]; exact hi
    · rw [if_neg e, zupN rfl (fun z => e z.2)]
      by_cases e2 : k = c0
      · rw [if_pos e2, zupE rfl rfl e2]; exact il_m1
      · rw [if_neg e2, zupN rfl (fun z => e2 z.2)]
/-- two loops that stop together -/
theorem RTC_pre {α : Type} {S : α → α → Prop} {a : α} : ∀ (n m : Nat) (z : α), n < m → RTC S a m z → ∃ y y', RTC S a n y ∧ S y y'
  | n, 0, _, h, _ => absurd h (Nat.not_lt_zero n)
  | n, m + 1, z, h, ⟨x, h1, h2⟩ => by
    rcases Nat.lt_or_ge n m with q | q
    · exact RTC_pre n m x q h1
    · obtain rfl : n = m := by omega
      exact ⟨x, z, h1, h2⟩
theorem lockE {α β : Type} {S : α → α → Prop} {T : β → β → Prop} (R : α → β → Prop) {a z : α} {b w : β} (ha : RCH S a z) (hb : RCH T b w) (h0 : R a b)
    (hst : ∀ x z y w, R x y → S x z → T y w → R z w) (n1 : ∀ y y', R z y → T y y' → False) (n2 : ∀ x x', R x w → S x x' → False) : R z w := by
  obtain ⟨n, hn⟩ := ha
  obtain ⟨m, hm⟩ := hb
  have all : ∀ (k : Nat) (x : α) (y : β), RTC S a k x → RTC T b k y → R x y := fun k => by
    induction k with
    | zero =>
      intro x y h1 h2
      have e1 : a = x := h1
      have e2 : b = y := h2
      subst e1 e2
      exact h0
    | succ k ih =>
      rintro x y ⟨x0, h1, h2⟩ ⟨y0, g1, g2⟩
      exact hst x0 x y0 y (ih x0 y0 h1 g1) h2 g2
  rcases Nat.lt_trichotomy n m with q | q | q
  · obtain ⟨y, y', h1, h2⟩ := RTC_pre n m w q hm
    exact (n1 y y' (all n z y hn h1) h2).elim
  · subst q
    exact all n z w hn hm
  · obtain ⟨x, x', h1, h2⟩ := RTC_pre m n z q hn
    exact (n2 x x' (all m x w h1 hm) h2).elim
/-- a number of a head's yes changes -/
theorem WRR_yes {b w k : Nat} {M D : mM} {x : Int32} (h : WRR b M.1 (D.1 (50, 0, 0))) (hN : NW5 (D.1 (50, 0, 0))) (hw : (w : Int) < nWa (D.1 (50, 0, 0))) (hk : k < 192) : WRR b (up M (40, b, w) k x).1 ((up D (50, 0, 0) (495 + 384 * w + k) x).1 (50, 0, 0)) := by
  rw [up_row]
  refine WRR_heads h hN hw (fun c j h1 h2 h3 h4 => by rw [up_other _ _ h3]) (fun j hj => updN (by omega)) (fun j hj => ⟨?_, ?_⟩)
  · by_cases e : j = k
    · rw [updE (by omega)]; exact zupE rfl rfl e
    · rw [updN (by omega), zupN rfl (fun z => e z.2)]; exact ((h.2.2.1.2 w hw).2 j hj).1
  · rw [updN (by omega), zupR rfl (by simp)]; exact ((h.2.2.1.2 w hw).2 j hj).2
def goR (b : Nat) (v : Int32) (M D : mM) : Prop := WRR b M.1 (D.1 (50, 0, 0)) ∧ InvD D ∧ (D.1 (12, 0, 0) 7).toInt = -1 ∧ v.toInt < nWa (D.1 (50, 0, 0))
theorem free_both {b : Nat} {c s r r2 f g : Int32} {M D : mM} (h1 : SP_X7_cellFrom c s 1 M r) (h2 : SP_X7_isFree b r M f) (h3 : onP c s 1 r2) (h4 : 0 ≤ r2.toInt → SP_X12_isFree r2 D g) (hO : OCC b M.1 (D.1 (50, 0, 0))) (hu : (D.1 (12, 0, 0) 7).toInt = -1) (hc : 0 ≤ c.toInt ∧ c.toInt ≤ 191) (hs : 0 ≤ s.toInt ∧ s.toInt ≤ 7) :
    r = r2 ∧ (-1 ≤ r.toInt ∧ r.toInt ≤ 191) ∧ ((f.toInt = 1 ∧ 0 ≤ r.toInt ∧ g.toInt = 1 ∧ occ b M.1 r.toInt.toNat = -1) ∨ (f.toInt = 0 ∧ (r.toInt < 0 ∨ (0 ≤ r.toInt ∧ g.toInt = 0)))) := by
  have q1 := il_1
  have cf := cF_spec h1
  have on := on_spec h3 hc hs (by omega)
  have ob := onI_b (c := c.toInt) (s := s.toInt) (y := (1 : Int32).toInt)
  obtain rfl : r = r2 := i32e (by omega)
  have fr := x7free h2
  refine ⟨rfl, by omega, ?_⟩
  by_cases p : 0 ≤ r.toInt
  · have gr := x12free (h4 p) hO (by omega) (by omega)
    omega
  · omega
end
section
theorem RCH_mono {α : Type} {S T : α → α → Prop} {a z : α} (h : RCH S a z) (hs : ∀ x y, S x y → T x y) : RCH T a z := rind h (fun z => RCH T a z) RCH.refl (fun x y p s => RCH.tail p (hs x y s))
/-- the model's steps on -/
def gsD (w : Nat) (x y : Int32 × mM) : Prop := 0 < x.1.toInt ∧ y.1.toInt = x.1.toInt - 1 ∧ ∃ r g : Int32, onP (x.2.1 (50, 0, 0) (181 + 9 * w)) (x.2.1 (50, 0, 0) (182 + 9 * w)) 1 r ∧ 0 ≤ r.toInt ∧ SP_X12_isFree r x.2 g ∧ ¬ g.toInt = 0 ∧ y.2 = up x.2 (50, 0, 0) (181 + 9 * w) r
def geD (w : Nat) (x : Int32 × mM) (D : mM) : Prop := (x.1.toInt ≤ 0 ∧ D = x.2) ∨ (0 < x.1.toInt ∧ ∃ r g : Int32, onP (x.2.1 (50, 0, 0) (181 + 9 * w)) (x.2.1 (50, 0, 0) (182 + 9 * w)) 1 r ∧
  ((r.toInt < 0 ∧ D = up x.2 (50, 0, 0) (187 + 9 * w) (x.2.1 (50, 0, 0) (187 + 9 * w) + (1 : Int32))) ∨ (0 ≤ r.toInt ∧ SP_X12_isFree r x.2 g ∧ g.toInt = 0 ∧ D = up (up x.2 (50, 0, 0) (187 + 9 * w) (x.2.1 (50, 0, 0) (187 + 9 * w) + (1 : Int32))) (50, 0, 0) (495 + 384 * w + r.toInt.toNat) (bmp (x.2.1 (50, 0, 0) (495 + 384 * w + r.toInt.toNat)) 3))))
theorem goDx {v : Int32} {M M' : mM} (h : SP_X12_goesOn v M M') (hv : 0 ≤ v.toInt ∧ v.toInt ≤ 7) : ∃ (s0 : Int32) (z : Int32 × mM), s0.toInt = speedI (M.1 (50, 0, 0) (180 + 9 * v.toInt.toNat)).toInt ∧ RCH (gsD v.toInt.toNat) (s0, M) z ∧ InvD z.2 ∧ geD v.toInt.toNat z M' := by
  have i1 : (1 : Int32).toInt = 1 := by decide
  have i2 : (2 : Int32).toInt = 2 := by decide
  unfold SP_X12_goesOn at h
  obtain ⟨r1_, hs5_, h4_, r6_, hs10_, h9_, h⟩ := h
  have kd := x12kindOf hs10_ hv
  have st1 : ∀ x y : Int32 × mM, ST_X12_goesOn_22 M r1_ x.1 x.2 y.1 y.2 → gsD v.toInt.toNat x y := fun x y st => by
    obtain ⟨x1, x2⟩ := x
    obtain ⟨y1, y2⟩ := y
    unfold gsD
    (try dsimp only at st ⊢)
    refine xE_ST_X12_goesOn_22 st (fun p_hv0_22 _ p_hF_22 p_h13_ p_z14_ p_h15_ p_j18_ p_h19_ p_z16_ p_e17_ p_h20_ p_z21_ p_h22_ p_j25_ p_h26_ p_z23_ p_e24_ p_h27_ p_r28_ p_hs32_ p_h31_ p_h33_ p_r49_ p_hs53_ p_h52_ p_h54_ p_z55_ p_h56_ p_j59_ p_h60_ p_M57_ p_hM58_ p_z63_ p_h64_ p_hq_v3_22y p_hM_ => ?_)
    obtain rfl : p_j18_ = 181 + 9 * v.toInt.toNat := by omega
    obtain rfl : p_j25_ = 182 + 9 * v.toInt.toNat := by omega
    obtain rfl : p_j59_ = 181 + 9 * v.toInt.toNat := by omega
    rw [← p_e17_, ← p_e24_]
    exact ⟨p_h13_, by rw [p_hq_v3_22y]; omega, p_r28_, p_r49_, p_h31_.1, p_h33_, p_hs53_, p_h54_, by rw [p_hM_, p_hM58_]⟩
  have st2 : ∀ x y : Int32 × mM, ST_X12_goesOn_22b M r1_ x.1 x.2 y.1 y.2 → gsD v.toInt.toNat x y := fun x y st => by
    obtain ⟨x1, x2⟩ := x
    obtain ⟨y1, y2⟩ := y
    unfold gsD
    (try dsimp only at st ⊢)
    refine xE_ST_X12_goesOn_22b st (fun p_hv0_22 _ p_hF_22 p_h93_ p_z94_ p_h95_ p_j98_ p_h99_ p_z96_ p_e97_ p_h100_ p_z101_ p_h102_ p_j105_ p_h106_ p_z103_ p_e104_ p_h107_ p_r108_ p_hs112_ p_h111_ p_h113_ p_r129_ p_hs133_ p_h132_ p_h134_ p_z135_ p_h136_ p_j139_ p_h140_ p_M137_ p_hM138_ p_z143_ p_h144_ p_hq_v3_22y p_hM_ => ?_)
    obtain rfl : p_j98_ = 181 + 9 * v.toInt.toNat := by omega
    obtain rfl : p_j105_ = 182 + 9 * v.toInt.toNat := by omega
    obtain rfl : p_j139_ = 181 + 9 * v.toInt.toNat := by omega
    rw [← p_e97_, ← p_e104_]
    exact ⟨p_h93_, by rw [p_hq_v3_22y]; omega, p_r108_, p_r129_, p_h111_.1, p_h113_, p_hs133_, p_h134_, by rw [p_hM_, p_hM138_]⟩
  rcases h with ⟨h11_, v3_22, hv0_22, M_22, hL_22, hI_22, hF_22, h⟩ | ⟨h11_, v3_22, hv0_22, M_22, hL_22, hI_22, hF_22, h⟩
  · refine ⟨1, (v3_22, M_22), by rw [kd] at h11_; unfold speedI; rw [if_neg h11_, i1], RCH_mono hL_22 st1, hI_22, ?_⟩
    unfold geD
    (try dsimp only)
    rcases h with ⟨h13_, hM_⟩ | ⟨h13_, z14_, h15_, j18_, h19_, z16_, e17_, h20_, z21_, h22_, j25_, h26_, z23_, e24_, h27_, r28_, hs32_, h31_, h⟩
    · exact Or.inl ⟨h13_, hM_⟩
    · obtain rfl : j18_ = 181 + 9 * v.toInt.toNat := by omega
      obtain rfl : j25_ = 182 + 9 * v.toInt.toNat := by omega
      rw [← e17_, ← e24_]
      rcases h with ⟨h33_, z34_, h35_, j38_, h39_, z36_, e37_, z40_, h41_, j44_, h45_, M42_, hM43_, h48_, hM_⟩ | ⟨h33_, r49_, hs53_, h52_, h54_, z65_, h66_, j69_, h70_, z67_, e68_, z71_, h72_, j75_, h76_, M73_, hM74_, h79_, hI77_, r80_, hs84_, h83_, M85_, hI88_, hF89_, hs91_, hM_⟩
      · obtain rfl : j38_ = 187 + 9 * v.toInt.toNat := by omega
        obtain rfl : j44_ = 187 + 9 * v.toInt.toNat := by omega
        exact Or.inr ⟨h13_, r28_, r28_, h31_.1, Or.inl ⟨h33_, by rw [hM_, hM43_, h41_, e37_]⟩⟩
      · obtain rfl : j69_ = 187 + 9 * v.toInt.toNat := by omega
        obtain rfl : j75_ = 187 + 9 * v.toInt.toNat := by omega
        have ad := x12more hs91_
        rw [show r80_.toInt.toNat = 495 + 384 * v.toInt.toNat + r28_.toInt.toNat by omega] at ad
        exact Or.inr ⟨h13_, r28_, r49_, h31_.1, Or.inr ⟨h33_, hs53_, h54_, by rw [hM_, ad, hM74_, h72_, e68_, up_row, updN (by omega)]⟩⟩
  · refine ⟨2, (v3_22, M_22), by rw [kd] at h11_; unfold speedI; rw [if_pos h11_, i2], RCH_mono hL_22 st2, hI_22, ?_⟩
    unfold geD
    (try dsimp only)
    rcases h with ⟨h13_, hM_⟩ | ⟨h13_, z14_, h15_, j18_, h19_, z16_, e17_, h20_, z21_, h22_, j25_, h26_, z23_, e24_, h27_, r28_, hs32_, h31_, h⟩
    · exact Or.inl ⟨h13_, hM_⟩
    · obtain rfl : j18_ = 181 + 9 * v.toInt.toNat := by omega
      obtain rfl : j25_ = 182 + 9 * v.toInt.toNat := by omega
      rw [← e17_, ← e24_]
      rcases h with ⟨h33_, z34_, h35_, j38_, h39_, z36_, e37_, z40_, h41_, j44_, h45_, M42_, hM43_, h48_, hM_⟩ | ⟨h33_, r49_, hs53_, h52_, h54_, z65_, h66_, j69_, h70_, z67_, e68_, z71_, h72_, j75_, h76_, M73_, hM74_, h79_, hI77_, r80_, hs84_, h83_, M85_, hI88_, hF89_, hs91_, hM_⟩
      · obtain rfl : j38_ = 187 + 9 * v.toInt.toNat := by omega
        obtain rfl : j44_ = 187 + 9 * v.toInt.toNat := by omega
        exact Or.inr ⟨h13_, r28_, r28_, h31_.1, Or.inl ⟨h33_, by rw [hM_, hM43_, h41_, e37_]⟩⟩
      · obtain rfl : j69_ = 187 + 9 * v.toInt.toNat := by omega
        obtain rfl : j75_ = 187 + 9 * v.toInt.toNat := by omega
        have ad := x12more hs91_
        rw [show r80_.toInt.toNat = 495 + 384 * v.toInt.toNat + r28_.toInt.toNat by omega] at ad
        exact Or.inr ⟨h13_, r28_, r49_, h31_.1, Or.inr ⟨h33_, hs53_, h54_, by rw [hM_, ad, hM74_, h72_, e68_, up_row, updN (by omega)]⟩⟩
/-- the class's steps on -/
def gsC (b : Nat) (v : Int32) (w : Nat) (x y : Int32 × mM) : Prop := ∃ sp r f : Int32, SP_X9_speed b w x.2 sp ∧ x.1.toInt < sp.toInt ∧ y.1.toInt = x.1.toInt + 1 ∧ SP_X7_cellFrom (x.2.1 (9, b, w) 1) (x.2.1 (9, b, w) 2) 1 x.2 r ∧ SP_X7_isFree b r x.2 f ∧ f.toInt = 1 ∧ 0 ≤ r.toInt ∧ r.toInt ≤ 191 ∧
  ∃ z : Int32, z.toInt = 100 + v.toInt ∧ ((0 ≤ (x.2.1 (9, b, w) 1).toInt ∧ (x.2.1 (9, b, w) 1).toInt ≤ 191) → y.2 = up (up (up x.2 (35, b, 0) (x.2.1 (9, b, w) 1).toInt.toNat (-1)) (35, b, 0) r.toInt.toNat z) (9, b, w) 1 r)
def geC (b : Nat) (w : Nat) (x : Int32 × mM) (M : mM) : Prop := ∃ sp : Int32, SP_X9_speed b w x.2 sp ∧ ((sp.toInt ≤ x.1.toInt ∧ M = x.2) ∨ (x.1.toInt < sp.toInt ∧ ∃ r f : Int32, SP_X7_cellFrom (x.2.1 (9, b, w) 1) (x.2.1 (9, b, w) 2) 1 x.2 r ∧ SP_X7_isFree b r x.2 f ∧ f.toInt = 0 ∧
  ((r.toInt < 0 ∧ M = up x.2 (9, b, w) 7 (x.2.1 (9, b, w) 7 + (1 : Int32))) ∨ (0 ≤ r.toInt ∧ r.toInt ≤ 191 ∧ M = up (up x.2 (9, b, w) 7 (x.2.1 (9, b, w) 7 + (1 : Int32))) (40, b, w) r.toInt.toNat (bmp (x.2.1 (40, b, w) r.toInt.toNat) 3)))))
theorem goCx {b : Nat} {v : Int32} {M M' : mM} (h : SP_X10_goOn b v M M') (hv : 0 ≤ v.toInt ∧ v.toInt < (M.1 (10, b, 0) 6).toInt ∧ v.toInt < 8) : ∃ z : Int32 × mM, RCH (gsC b v v.toInt.toNat) (0, M) z ∧ geC b v.toInt.toNat z M' := by
  have q0 := il_0
  have q1 := il_1
  have st : ∀ x y : Int32 × mM, ST_X10_goOn_18 b v M v.toInt.toNat x.1 x.2 y.1 y.2 → gsC b v v.toInt.toNat x y := fun x y st => by
    obtain ⟨x1, x2⟩ := x
    obtain ⟨y1, y2⟩ := y
    unfold gsC
    (try dsimp only at st ⊢)
    refine xE_ST_X10_goOn_18 st (fun p_hv0_18 _ p_hF_18 p_r11_ p_hs15_ p_h14_ p_h16_ p_z17_ p_e18_ p_z19_ p_e20_ p_r21_ p_hs25_ p_h24_ p_hs30_ p_h29_ p_M34_ _ p_hF38_ p_hs40_ p_z41_ p_h42_ p_M43_ _ p_hF47_ p_hs49_ p_M50_ p_hM51_ p_z54_ p_h55_ p_hq_v3_18y p_hM_ => ?_)
    rw [p_e18_, p_e20_] at p_hs25_
    refine ⟨p_r11_, p_r21_, 1, p_hs15_, p_h16_, by rw [p_hq_v3_18y]; omega, p_hs25_, p_hs30_, il_1, p_h29_.1, p_h29_.2, p_z41_, p_h42_, fun cb => ?_⟩
    rw [p_hM_, p_hM51_, x7settle p_hs49_ p_h29_, x7settle p_hs40_ (by rw [p_e18_]; exact cb), p_e18_]
  refine xE_SP_X10_goOn h ⟨(fun hs5_ h4_ j7_ h8_ h9_ v3_18 hv0_18 M_18 hL_18 _ hF_18 r11_ hs15_ h14_ => ⟨(fun h16_ hM_ => ?_), (fun h16_ z17_ e18_ z19_ e20_ r21_ hs25_ h24_ hs30_ z57_ e58_ z59_ h60_ M61_ hM62_ _ M65_ _ hF69_ hs71_ hM_ => ?_)⟩), (fun hs5_ hM_ => ?_)⟩
  · obtain rfl : j7_ = v.toInt.toNat := by omega
    exact ⟨(v3_18, M_18), RCH_mono hL_18 st, r11_, hs15_, Or.inl ⟨h16_, hM_⟩⟩
  · obtain rfl : j7_ = v.toInt.toNat := by omega
    rw [e18_, e20_] at hs25_
    refine ⟨(v3_18, M_18), RCH_mono hL_18 st, r11_, hs15_, Or.inr ⟨h16_, r21_, 0, hs25_, hs30_, il_0, ?_⟩⟩
    (try dsimp only)
    by_cases p : 0 ≤ r21_.toInt
    · have ad := x9addYes hs71_ ⟨p, h24_.2⟩
      exact Or.inr ⟨p, h24_.2, by rw [hM_, ad, hM62_, h60_, e58_, zupR rfl (by simp)]⟩
    · refine Or.inl ⟨by omega, ?_⟩
      rw [hM_]
      refine xE_SP_X9_addYes hs71_ ⟨(fun k_hs5_ k_h4_ k_j9_ k_h10_ k_z7_ k_e8_ k_z11_ k_h12_ k_z13_ k_h14_ k_j17_ k_h18_ k_M15_ k_hM16_ k_hM_ => ?_), (fun k_hs5_ k_h4_ k_hM_ => ?_)⟩
      · omega
      · rw [k_hM_, hM62_, h60_, e58_]
  · have := x10has hs5_
    omega
theorem go_both {b : Nat} {v : Int32} {M M' D D2 : mM} (h1 : SP_X10_goOn b v M M') (h2 : SP_X12_goesOn v D D2) (hR : WRR b M.1 (D.1 (50, 0, 0))) (hD : InvD D) (hu : (D.1 (12, 0, 0) 7).toInt = -1) (hv : 0 ≤ v.toInt ∧ v.toInt < nWa (D.1 (50, 0, 0))) : WRR b M'.1 (D2.1 (50, 0, 0)) := by
  have q0 := il_0
  have nw := nWa_b hD.2.1
  have hc := eT hR.2.2.1.1
  obtain ⟨z, c1, c2⟩ := goCx h1 ⟨hv.1, by unfold nWa at hv; omega, by omega⟩
  obtain ⟨s0, y, d0, d1, d2, d3⟩ := goDx h2 ⟨hv.1, by omega⟩
  -- what both hold as they go along
  have facts : ∀ {x : Int32 × mM} {y : Int32 × mM}, WRR b x.2.1 (y.2.1 (50, 0, 0)) → NW5 (y.2.1 (50, 0, 0)) → v.toInt < nWa (y.2.1 (50, 0, 0)) → x.2.1 (9, b, v.toInt.toNat) 1 = y.2.1 (50, 0, 0) (181 + 9 * v.toInt.toNat) ∧ x.2.1 (9, b, v.toInt.toNat) 2 = y.2.1 (50, 0, 0) (182 + 9 * v.toInt.toNat) ∧ x.2.1 (9, b, v.toInt.toNat) 0 = y.2.1 (50, 0, 0) (180 + 9 * v.toInt.toNat) ∧ x.2.1 (9, b, v.toInt.toNat) 7 = y.2.1 (50, 0, 0) (187 + 9 * v.toInt.toNat) ∧
      (0 ≤ (y.2.1 (50, 0, 0) (180 + 9 * v.toInt.toNat)).toInt ∧ (y.2.1 (50, 0, 0) (180 + 9 * v.toInt.toNat)).toInt ≤ 7) ∧ (0 ≤ (y.2.1 (50, 0, 0) (181 + 9 * v.toInt.toNat)).toInt ∧ (y.2.1 (50, 0, 0) (181 + 9 * v.toInt.toNat)).toInt ≤ 191) ∧ (0 ≤ (y.2.1 (50, 0, 0) (182 + 9 * v.toInt.toNat)).toInt ∧ (y.2.1 (50, 0, 0) (182 + 9 * v.toInt.toNat)).toInt ≤ 7) := fun {x y} r i l => by
    have w9 := (r.2.2.1.2 v.toInt.toNat (by omega)).1
    have a1 := w9 1 (by omega)
    have a2 := w9 2 (by omega)
    have a0 := w9 0 (by omega)
    have a7 := w9 7 (by omega)
    rw [show 180 + 9 * v.toInt.toNat + 1 = 181 + 9 * v.toInt.toNat by omega] at a1
    rw [show 180 + 9 * v.toInt.toNat + 2 = 182 + 9 * v.toInt.toNat by omega] at a2
    rw [show 180 + 9 * v.toInt.toNat + 0 = 180 + 9 * v.toInt.toNat by omega] at a0
    rw [show 180 + 9 * v.toInt.toNat + 7 = 187 + 9 * v.toInt.toNat by omega] at a7
    exact ⟨a1, a2, a0, a7, ((i.1 (180 + 9 * v.toInt.toNat)).2.2.2.2.2.2.2 (by omega) (by omega)).1 (by omega), ((i.1 (181 + 9 * v.toInt.toNat)).2.2.2.2.2.2.2 (by omega) (by omega)).2.1 (by omega), ((i.1 (182 + 9 * v.toInt.toNat)).2.2.2.2.2.2.2 (by omega) (by omega)).2.2 (by omega)⟩
  have spd : ∀ {x : Int32 × mM} {sp : Int32} {k : Int32}, SP_X9_speed b v.toInt.toNat x.2 sp → x.2.1 (9, b, v.toInt.toNat) 0 = k → 0 ≤ k.toInt ∧ k.toInt ≤ 7 → sp.toInt = speedI k.toInt := fun {x sp k} h e hk => by
    have := x9speed h (by rw [e]; exact hk)
    rw [this, e]
  have L := lockE (fun x y : Int32 × mM => WRR b x.2.1 (y.2.1 (50, 0, 0)) ∧ NW5 (y.2.1 (50, 0, 0)) ∧ (y.2.1 (12, 0, 0) 7).toInt = -1 ∧ v.toInt < nWa (y.2.1 (50, 0, 0)) ∧ y.2.1 (50, 0, 0) (180 + 9 * v.toInt.toNat) = D.1 (50, 0, 0) (180 + 9 * v.toInt.toNat) ∧ x.1.toInt + y.1.toInt = s0.toInt) c1 d1 ⟨hR, hD.2.1, hu, hv.2, rfl, by dsimp only; omega⟩
    (fun x z y w r s t => by
      obtain ⟨r1, r2, r3, r4, r5, r6⟩ := r
      obtain ⟨sp, rr, f, s1, s2, s3, s4, s5, s6, s7, s8, zz, s9, s10⟩ := s
      obtain ⟨t1, t2, rd, g, t3, t4, t5, t6, t7⟩ := t
      obtain ⟨f1, f2, f0, f7, b0, b1, b2⟩ := facts r1 r2 r4
      rw [f1, f2] at s4
      have fb := free_both s4 s5 t3 (fun _ => t5) r1.2.2.2.2.1 r3 b1 b2
      obtain rfl : rr = rd := fb.1
      have s10 := s10 (by rw [f1]; exact b1)
      rw [f1] at s10
      have rw2 := WRR_wmove (x := rr) (i := zz) (to := rr.toInt.toNat) (c0 := (y.2.1 (50, 0, 0) (181 + 9 * v.toInt.toNat)).toInt.toNat) r1 r2 (w := v.toInt.toNat) (by omega) (by omega) (by unfold wcl; omega) (by omega) (by omega) (by omega)
      rw [← s10, ← t7] at rw2
      refine ⟨rw2, ?_, by rw [t7, up_other _ _ (by simp)]; exact r3, by rw [t7, up_row]; unfold nWa; rw [updN (by omega)]; exact r4, by rw [t7, up_row, updN (by omega)]; exact r5, by omega⟩
      rw [t7, up_row]
      refine ⟨PN_upd r2.1 ?_, WT_upd r2.2 (by omega)⟩
      unfold PN
      omega)
    (fun y y' r t => by
      obtain ⟨r1, r2, r3, r4, r5, r6⟩ := r
      obtain ⟨sp, e1, e2⟩ := c2
      obtain ⟨t1, t2, rd, g, t3, t4, t5, t6, t7⟩ := t
      obtain ⟨f1, f2, f0, f7, b0, b1, b2⟩ := facts r1 r2 r4
      have es := spd e1 f0 b0
      rw [r5, ← d0] at es
      rcases e2 with e2 | ⟨e2, rr, f, e3, e4, e5, e6⟩
      · omega
      · rw [f1, f2] at e3
        have fb := free_both e3 e4 t3 (fun _ => t5) r1.2.2.2.2.1 r3 b1 b2
        have := fb.1
        subst this
        omega)
    (fun x x' r s => by
      obtain ⟨r1, r2, r3, r4, r5, r6⟩ := r
      obtain ⟨sp, rr, f, s1, s2, s3, s4, s5, s6, s7, s8, zz, s9, s10⟩ := s
      obtain ⟨f1, f2, f0, f7, b0, b1, b2⟩ := facts r1 r2 r4
      have es := spd s1 f0 b0
      rw [r5, ← d0] at es
      rcases d3 with d3 | ⟨d3, rd, g, d4, d5⟩
      · omega
      · rw [f1, f2] at s4
        rcases d5 with d5 | ⟨d5, d6, d7, d8⟩
        · have cf := cF_spec s4
          have on := on_spec d4 b1 b2 (by have := il_1; omega)
          omega
        · have fb := free_both s4 s5 d4 (fun _ => d6) r1.2.2.2.2.1 r3 b1 b2
          have := fb.1
          subst this
          omega)
  obtain ⟨r1, r2, r3, r4, r5, r6⟩ := L
  obtain ⟨sp, e1, e2⟩ := c2
  obtain ⟨f1, f2, f0, f7, b0, b1, b2⟩ := facts r1 r2 r4
  have es := spd e1 f0 b0
  rw [r5, ← d0] at es
  rcases e2 with ⟨e2, e3⟩ | ⟨e2, rr, f, e3, e4, e5, e6⟩ <;> rcases d3 with ⟨d3, d4⟩ | ⟨d3, rd, g, d4, d5⟩
  · rw [e3, d4]; exact r1
  · omega
  · omega
  · rw [f1, f2] at e3
    have on := on_spec d4 b1 b2 (by have := il_1; omega)
    have cf := cF_spec e3
    have B := WRR_wf (f := 7) (x := z.2.1 (9, b, v.toInt.toNat) 7 + (1 : Int32)) r1 r2 (w := v.toInt.toNat) (by omega) (by omega)
    rw [show 180 + 9 * v.toInt.toNat + 7 = 187 + 9 * v.toInt.toNat by omega] at B
    have er : rr = rd := i32e (by have := onI_b (c := (y.2.1 (50, 0, 0) (181 + 9 * v.toInt.toNat)).toInt) (s := (y.2.1 (50, 0, 0) (182 + 9 * v.toInt.toNat)).toInt) (y := (1 : Int32).toInt); have := il_1; omega)
    subst er
    rcases e6 with ⟨e6, e7⟩ | ⟨e6, e7, e8⟩ <;> rcases d5 with ⟨d5, d6⟩ | ⟨d5, d6, d7, d8⟩
    · rw [e7, d6, ← f7]; exact B
    · omega
    · omega
    · rw [e8, d8, ← f7]
      have wa := ((r1.2.2.1.2 v.toInt.toNat (by omega)).2 rr.toInt.toNat (by omega)).1
      rw [← wa]
      refine WRR_yes B ?_ (by rw [up_row]; unfold nWa at r4 ⊢; rw [updN (by omega)]; omega) (by omega)
      rw [up_row]
      refine ⟨PN_upd r2.1 ?_, WT_upd r2.2 (by omega)⟩
      unfold PN
      omega
end
section
/-! a walker's turn, a tenth -/
theorem x9turn {b w : Nat} {v : Int32} {M M' : mM} (h : SP_X9_turn b w v M M') : M' = up M (9, b, w) 2 ((M.1 (9, b, w) 2 + v) &&& (7 : Int32)) := by
  refine xE_SP_X9_turn h (fun z1_ e2_ z3_ h4_ z5_ h7_ h6_ M8_ hM9_ hM_ => ?_)
  rw [hM_, hM9_, h7_, h4_, e2_]
theorem hab_both {b : Nat} {v : Int32} {M M' D D2 : mM} (h1 : HabC b v v.toInt.toNat M M') (h2 : HabD v D D2) (hR : WRR b M.1 (D.1 (50, 0, 0))) (hD : InvD D) (hu : (D.1 (12, 0, 0) 7).toInt = -1) (hv : 0 ≤ v.toInt ∧ v.toInt < nWa (D.1 (50, 0, 0))) : WRR b M'.1 (D2.1 (50, 0, 0)) := by
  have i6 : (6 : Int32).toInt = 6 := by decide
  have i2 : (2 : Int32).toInt = 2 := by decide
  have im2 : (-2 : Int32).toInt = -2 := by decide
  have nw := nWa_b hD.2.1
  obtain ⟨s, rf_, sl, rl_, sr, rr, bu, now, r, M1, e1, y1, e2, y2, e3, y3, e4, e5, hF, hH, h⟩ := h1
  obtain ⟨t, D1, iD1, hF1, hO, g⟩ := h2
  have w9 := (hR.2.2.1.2 v.toInt.toNat (by omega)).1
  have hh := (hR.2.2.1.2 v.toInt.toNat (by omega)).2
  have a1 := w9 1 (by omega)
  have a2 := w9 2 (by omega)
  have a7 := w9 7 (by omega)
  rw [show 180 + 9 * v.toInt.toNat + 1 = 181 + 9 * v.toInt.toNat by omega] at a1
  rw [show 180 + 9 * v.toInt.toNat + 2 = 182 + 9 * v.toInt.toNat by omega] at a2
  rw [show 180 + 9 * v.toInt.toNat + 7 = 187 + 9 * v.toInt.toNat by omega] at a7
  have cb := ((hD.2.1.1 (181 + 9 * v.toInt.toNat)).2.2.2.2.2.2.2 (by omega) (by omega)).2.1 (by omega)
  have sb := ((hD.2.1.1 (182 + 9 * v.toInt.toNat)).2.2.2.2.2.2.2 (by omega) (by omega)).2.2 (by omega)
  rw [a2] at e1
  rw [← e1] at sb
  have k1 : ∀ (c : rf) (k : Nat), c.1 ≠ 25 → c.1 ≠ 29 → M1.1 c k = M.1 c k := fun c k q1 q2 => hF c k (fun q => by simp only [S_c_X2_habitValue, or_false] at q; omega)
  have kd : ∀ (c : rf) (k : Nat), c.1 ≠ 58 → c.1 ≠ 59 → D1.1 c k = D.1 c k := fun c k q1 q2 => hF1 c k (fun q => by simp only [S_c_X12_habitOf, or_false] at q; omega)
  have row : D1.1 (50, 0, 0) = D.1 (50, 0, 0) := funext fun k => kd _ _ (by simp) (by simp)
  have R1 : WRR b M1.1 (D1.1 (50, 0, 0)) := by rw [row]; exact WRR_q hR hD.2.1 k1
  have sl7 : 0 ≤ sl.toInt ∧ sl.toInt ≤ 7 := by rw [e2, and7]; omega
  have sr7 : 0 ≤ sr.toInt ∧ sr.toInt ≤ 7 := by rw [e3, and7]; omega
  have F1 := x9full y1 sb a1 cb hh
  have F2 := x9full y2 sl7 a1 cb hh
  have F3 := x9full y3 sr7 a1 cb hh
  have hab := x2habit hH hR.2.2.2.1 hD.2.1.2
  have act : t = fmX r := by
    refine xE_SP_X12_habitOf hO (fun k_r1_ k_hs5_ k_h4_ k_z6_ k_h7_ k_j10_ k_h11_ k_z8_ k_e9_ k_h12_ k_r13_ k_hs17_ k_M18_ k_hM19_ k_z22_ k_h23_ k_hI20_ k_r24_ k_hs28_ k_M29_ k_hM30_ k_z33_ k_h34_ k_hI31_ k_r35_ k_hs39_ k_M40_ k_hM41_ k_hI42_ k_r44_ k_hs48_ k_h47_ k_z49_ k_h50_ k_j53_ k_h54_ k_z51_ k_e52_ k_M55_ k_hM56_ k_z59_ k_e60_ k_M61_ k_hM62_ k_hI63_ k_r65_ k_hs69_ k_h68_ => ?_)
    obtain rfl : k_j10_ = 182 + 9 * v.toInt.toNat := by omega
    obtain rfl : k_j53_ = 187 + 9 * v.toInt.toNat := by omega
    have ks : k_z8_ = s := by rw [k_e9_, e1]
    subst ks
    have w18 : k_M18_.1 (50, 0, 0) = D.1 (50, 0, 0) := by rw [k_hM19_, up_other _ _ (by simp)]
    have w29 : k_M29_.1 (50, 0, 0) = D.1 (50, 0, 0) := by rw [k_hM30_, up_other _ _ (by simp)]; exact w18
    have w40 : k_M40_.1 (50, 0, 0) = D.1 (50, 0, 0) := by rw [k_hM41_, up_other _ _ (by simp)]; exact w29
    have w55 : k_M55_.1 (50, 0, 0) = D.1 (50, 0, 0) := by rw [k_hM56_, up_other _ _ (by simp)]; exact w40
    have w61 : k_M61_.1 (50, 0, 0) = D.1 (50, 0, 0) := by rw [k_hM62_, up_other _ _ (by simp)]; exact w55
    have G1 := x12full k_hs17_ ⟨hv.1, by omega⟩
    have G2 := x12full k_hs28_ ⟨hv.1, by omega⟩
    have G3 := x12full k_hs39_ ⟨hv.1, by omega⟩
    rw [w18] at G2
    rw [w29] at G3
    have z22 : k_z22_ = k_z8_ + (6 : Int32) := i32e (by rw [k_h23_, addI (x := k_z8_) rfl i6 (by omega) (by omega)])
    have z33 : k_z33_ = k_z8_ + (2 : Int32) := i32e (by rw [k_h34_, addI (x := k_z8_) rfl i2 (by omega) (by omega)])
    rw [z22, ← e2] at G2
    rw [z33, ← e3] at G3
    rw [show (k_z8_ &&& (7 : Int32)).toInt = k_z8_.toInt by rw [and7]; omega] at G1
    obtain rfl : rf_ = k_r13_ := i32e (FullP_uniq F1 G1)
    obtain rfl : rl_ = k_r24_ := i32e (FullP_uniq F2 G2)
    obtain rfl : rr = k_r35_ := i32e (FullP_uniq F3 G3)
    have hz51 : k_z51_ = bu := by rw [k_e52_, w40, e4, a7]
    have hz59 : k_z59_ = now := by rw [k_e60_, w55, e5]; exact hR.1.1.symm
    have sv := sval5 k_hM19_ k_hM30_ k_hM41_ k_hM56_ k_hM62_
    have tx := x12has (u := 2) k_hs69_ (by first | decide | simp | (dsimp only; omega))
    simp only [show 345 + 50 * 2 = 445 by decide] at tx
    rw [w61] at tx
    refine ⟨(fun k_h70_ k_z71_ k_e72_ => ⟨(fun k_h73_ k_hr_ k_hM_ => ?_), (fun k_h73_ k_hr_ k_hM_ => ?_)⟩), (fun k_h70_ k_M75_ k_hI78_ k_hF79_ k_r74_ k_hs81_ k_z82_ k_h84_ k_h83_ k_hr_ k_hM_ => ?_)⟩
    all_goals
      rw [fm_and, hab]
      unfold habS
    · rw [if_pos (by omega)]
      have s0 : k_M61_.1 (58, 0, 0) 0 = rf_ := sv 0 (by omega)
      rw [k_e72_, s0] at k_h73_
      rw [if_neg k_h73_, k_hr_]; decide
    · rw [if_pos (by omega)]
      have s0 : k_M61_.1 (58, 0, 0) 0 = rf_ := sv 0 (by omega)
      rw [k_e72_, s0] at k_h73_
      rw [if_pos k_h73_, k_hr_]; decide
    · rw [if_neg (by omega), k_hr_, k_h84_]
      have er : k_r74_ = evR (D.1 (50, 0, 0)) 2 (hbV rf_ rl_ rr bu now) := by
        rw [← w61]
        refine x12given (nn := 5) k_hs81_ k_hI63_ ⟨by decide, by omega⟩ (fun i hi => ?_) (fun i hi => ?_) (by rw [w61]; show 0 < (D.1 (50, 0, 0) 445).toInt; omega)
        · rw [w61] at hi ⊢
          exact ((hR.2.2.2.1 2 (by omega)).2 i hi).2
        · rw [sv i hi, hz51, hz59]
      rw [er]
  have tb : 0 ≤ (fmX r).toInt ∧ (fmX r).toInt ≤ 3 := by rw [fm_and, and3]; omega
  have i1 := il_1
  rw [act] at g
  have m2 : M1.1 (9, b, v.toInt.toNat) 2 = s := by rw [k1 _ _ (by simp) (by simp), a2, e1]
  have d2 : D1.1 (50, 0, 0) (182 + 9 * v.toInt.toNat) = s := by rw [row, e1]
  have turn : ∀ x : Int32, M' = up M1 (9, b, v.toInt.toNat) 2 x → D2 = up D1 (50, 0, 0) (182 + 9 * v.toInt.toNat) x → WRR b M'.1 (D2.1 (50, 0, 0)) := fun x h1 h2 => by
    have B := WRR_wf (f := 2) (x := x) R1 iD1.2.1 (w := v.toInt.toNat) (by rw [row]; omega) (by omega)
    rw [show 180 + 9 * v.toInt.toNat + 2 = 182 + 9 * v.toInt.toNat by omega, ← h1, ← h2] at B
    exact B
  rcases h with ⟨h3, h4, h5⟩ | ⟨h3, h5⟩ | ⟨h3, h5⟩ <;> rcases g with ⟨g1, g2⟩ | ⟨g1, g2⟩
  · have x9 := x9turn h5
    rw [m2] at x9
    rw [d2] at g2
    refine turn _ x9 ?_
    rw [g2]
    unfold trD
    by_cases q : (fmX r).toInt = 1
    · rw [if_pos q, show fmX r = 1 from i32e (q.trans i1.symm)]
    · have q2 : (fmX r).toInt = 2 := by omega
      rw [if_neg q, if_pos q2, show fmX r = 2 from i32e (q2.trans i2.symm)]
  · omega
  · have x9 := x9turn h5
    rw [m2] at x9
    rw [d2] at g2
    refine turn _ x9 ?_
    rw [g2]
    unfold trD
    rw [if_neg (by omega), if_neg (by omega)]
    have e : (s + (6 : Int32)) &&& (7 : Int32) = (s + (-2 : Int32)) &&& (7 : Int32) := i32e (by rw [and7, and7, addI (x := s) rfl i6 (by omega) (by omega), addI (x := s) rfl im2 (by omega) (by omega)]; omega)
    rw [e]
  · omega
  · omega
  · exact go_both h5 g2 R1 iD1 (by rw [kd _ _ (by simp) (by simp)]; exact hu) ⟨hv.1, by rw [row]; exact hv.2⟩
theorem wkt_step {b : Nat} {i i2 : Int32} {Mz M M' D D2 : mM} (h1 : ST_X10_passTenth_23 b Mz i M i2 M') (h2 : SP_X12_walkerGoes i D D2) (hR : WRR b M.1 (D.1 (50, 0, 0))) (hD : InvD D) (hu : (D.1 (12, 0, 0) 7).toInt = -1) (hv : 0 ≤ i.toInt ∧ i.toInt < nWa (D.1 (50, 0, 0))) : WRR b M'.1 (D2.1 (50, 0, 0)) := by
  have nw := nWa_b hD.2.1
  have hc := eT hR.2.2.1.1
  have w9 := (hR.2.2.1.2 i.toInt.toNat (by omega)).1
  have a0 := w9 0 (by omega)
  have a5 := w9 5 (by omega)
  have a6 := w9 6 (by omega)
  rw [show 180 + 9 * i.toInt.toNat + 0 = 180 + 9 * i.toInt.toNat by omega] at a0
  rw [show 180 + 9 * i.toInt.toNat + 5 = 185 + 9 * i.toInt.toNat by omega] at a5
  rw [show 180 + 9 * i.toInt.toNat + 6 = 186 + 9 * i.toInt.toNat by omega] at a6
  have kb := ((hD.2.1.1 (180 + 9 * i.toInt.toNat)).2.2.2.2.2.2.2 (by omega) (by omega)).1 (by omega)
  have d := wgD h2 ⟨hv.1, by omega⟩
  refine xE_ST_X10_passTenth_23 h1 (fun hv0_23 _ hF_23 z19_ e20_ h21_ h22_ j23_ h24_ h25_ z26_ e27_ h28_ => ⟨(fun h29_ z30_ h31_ hq_v1_23y hM_ => ?_), (fun h29_ M32_ _ hF36_ hs38_ z39_ h40_ hq_v1_23y hM_ => ?_)⟩)
  · obtain rfl : j23_ = i.toInt.toNat := by omega
    have y := eT e27_
    rw [a6] at y
    rcases d with d | d
    · rw [hM_, d.2]; exact hR
    · omega
  · obtain rfl : j23_ = i.toInt.toNat := by omega
    have y := eT e27_
    rw [a6] at y
    rcases d with d | ⟨-, d⟩
    · omega
    · have c := lwC hs38_ ⟨hv.1, by unfold nWa at hv; omega, by omega⟩ (by rw [a0]; exact kb)
      rw [hR.1.1, a5, a0] at c
      rw [hM_]
      rcases c with ⟨c1, c2⟩ | ⟨c1, r, M1, c2, c3⟩ <;> rcases d with ⟨d1, d2⟩ | ⟨d1, t, D1, d2, d3, d4⟩
      · exact hab_both c2 d2 hR hD hu hv
      · exact absurd d1 c1
      · exact absurd c1 d1
      · have cl := click_both c2 d3 hR hD hv hu
        exact hab_both c3 d4 cl.2.1 d2 (by rw [cl.2.2.2.1 _ _ (by simp) (by simp) (by simp)]; exact hu) ⟨hv.1, by unfold nWa; rw [cl.2.2.2.2 2 (by omega) (by omega)]; exact hv.2⟩
theorem WRR_now {b : Nat} {M D : mM} {x : Int32} (h : WRR b M.1 (D.1 (50, 0, 0))) (hN : NW5 (D.1 (50, 0, 0))) : WRR b (up M (10, b, 0) 7 x).1 ((up D (50, 0, 0) 0 x).1 (50, 0, 0)) := by
  have b1 := nTh_b hN
  have b2 := nWa_b hN
  rw [up_row]
  have nn : ∀ j, ¬ j = 0 → upd (D.1 (50, 0, 0)) 0 x j = D.1 (50, 0, 0) j := fun j hj => updN hj
  refine ⟨⟨by rw [zupE rfl rfl rfl, updE rfl], fun k hk => by rw [zupR rfl (by simp), nn _ (by omega)]; exact h.1.2.1 k hk, fun k hk => by rw [zupR rfl (by simp), zupR rfl (by simp), nn _ (by omega), nn _ (by omega)]; exact h.1.2.2 k hk⟩,
    THR_keep h.2.1 b1.2 (fun r k hr => zupR rfl (by dsimp only; omega)) (fun j hj => nn j (by omega)), WAR_keep h.2.2.1 b2.2 (fun r w k hr => zupR rfl (by dsimp only; omega)) (zupN rfl (fun z => absurd z.2 (by first | decide | simp | (dsimp only; omega)))) (fun j hj => nn j (by omega)),
    TXR_keep h.2.2.2.1 (TXz hN) (fun r u k hr hu => zupR rfl (by dsimp only; omega)) (fun j h1 h2 => nn j (by omega)), OCC_keep h.2.2.2.2.1 b1.2 b2.2 (fun k => zupR rfl (by simp)) (fun j hj => nn j (by omega)) (fun j hj => nn j (by omega)), MIR_keep h.2.2.2.2.2 b1.2 b2.2 (fun j hj => nn j (by omega)) (fun w h1 h2 => ⟨fun k hk => nn _ (by omega), fun c hc => nn _ (by omega)⟩)⟩
theorem tenth_both {b : Nat} {M M' D D2 : mM} (h1 : SP_X10_passTenth b M M') (h2 : SP_X12_tenth D D2) (hR : WRR b M.1 (D.1 (50, 0, 0))) (hD : InvD D) (hu : (D.1 (12, 0, 0) 7).toInt = -1) : WRR b M'.1 (D2.1 (50, 0, 0)) ∧ InvD D2 ∧ (D2.1 (12, 0, 0) 7).toInt = -1 := by
  have q0 := il_0
  refine xE_SP_X12_tenth h2 (fun d_z1_ d_e2_ d_z3_ d_h4_ d_M5_ d_hM6_ d_v1_12 d_hv0_12 d_M_12 d_hL_12 d_hI_12 d_hF_12 d_z10_ d_e11_ d_h12_ d_h13_ d_v1_35 d_hv0_35 d_M_35 d_hL_35 d_hI_35 d_hF_35 d_z15_ d_e16_ d_h17_ d_h18_ d_hM_ => ?_)
  have frD : (D2.1 (12, 0, 0) 7).toInt = -1 := by rw [d_hM_, d_hF_35 (12, 0, 0) 7 (fun q => by simp [S_c_X12_tenth] at q)]; exact hu
  have invD : InvD D2 := by rw [d_hM_]; exact d_hI_35
  -- the things
  have things : ∀ {z1 z3 z9 v2 : Int32} {M5 Mm : mM}, z1 = M.1 (10, b, 0) 7 → z3 = z1 + (1 : Int32) → M5 = up M (10, b, 0) 7 z3 → z9 = M5.1 (10, b, 0) 7 → RCH (fun x_ y_ => ST_X7_letThingsGo_2 b z9 M5 x_.1 x_.2 y_.1 y_.2) ((0 : Int32), M5) (v2, Mm) → ((Mm.1 (7, b, 0) 5).toInt ≤ v2.toInt ∨ 40 ≤ v2.toInt) → WRR b Mm.1 (d_M_12.1 (50, 0, 0)) ∧ (d_M_12.1 (12, 0, 0) 7).toInt = -1 := fun {z1 z3 z9 v2 M5 Mm} a1 a2 a3 a4 hL hE => by
    have ez : z3 = d_z3_ := by rw [a2, d_h4_, a1, d_e2_, hR.1.1]
    have R0 := WRR_now (x := z3) hR hD.2.1
    rw [← a3, ez, ← d_hM6_] at R0
    have e9 : z9 = d_z3_ := by rw [a4, a3, zupE rfl rfl rfl, ez]
    have L := lockE (fun x y : Int32 × mM => WRR b x.2.1 (y.2.1 (50, 0, 0)) ∧ x.1 = y.1 ∧ (y.2.1 (12, 0, 0) 7).toInt = -1 ∧ y.2.1 (50, 0, 0) 0 = d_z3_) hL d_hL_12 ⟨R0, rfl, by dsimp only; rw [d_hM6_, up_other _ _ (by simp)]; exact hu, by dsimp only; rw [d_hM6_, up_same]⟩
      (fun x z y w r s t => by
        obtain ⟨x1, x2⟩ := x
        obtain ⟨y1, y2⟩ := y
        obtain ⟨z1, z2⟩ := z
        obtain ⟨w1, w2⟩ := w
        (try dsimp only at r s t ⊢)
        obtain ⟨r1, r2, r3, r4⟩ := r
        subst r2
        have s' := s
        refine xE_ST_X12_tenth_12 t (fun t_hv0_12 t_hI_12 t_hF_12 t_z10_ t_e11_ t_h12_ t_h13_ t_M28_ t_hI31_ t_hF32_ t_hs34_ t_z35_ t_h36_ t_hq_v1_12y t_hM_ => ?_)
        have st := th_step s t_hs34_ r1 t_hI_12 r3 (by rw [e9, r4]) ⟨t_hv0_12, by unfold nTh; rw [← t_e11_]; exact t_h13_⟩
        rw [t_hM_]
        refine ⟨st.1, ?_, by rw [st.2.2 _ _ (by simp)]; exact r3, by rw [st.2.1 0 (by omega)]; exact r4⟩
        have ci : z1.toInt = x1.toInt + 1 := by
          refine xE_ST_X7_letThingsGo_2 s' (fun s_hv0_2 _ s_hF_2 s_z2_ s_e3_ s_h4_ s_h5_ s_j8_ s_h9_ s_z6_ s_e7_ s_j12_ s_h13_ s_z10_ s_e11_ => ⟨(fun s_h14_ s_z15_ s_h16_ s_hq_v2_2y s_hM_ => ?_), (fun s_h14_ => ⟨(fun s_h17_ s_z18_ s_h19_ s_hq_v2_2y s_hM_ => ?_), (fun s_h17_ s_z20_ s_h21_ => ⟨(fun s_h22_ s_z23_ s_h24_ s_hq_v2_2y s_hM_ => ?_), (fun s_h22_ s_M25_ _ s_hF29_ s_hs31_ s_z32_ s_h33_ s_hq_v2_2y s_hM_ => ?_)⟩)⟩)⟩)
          all_goals (rw [s_hq_v2_2y]; assumption)
        exact i32e (by rw [ci, t_hq_v1_12y, t_h36_]))
      (fun y y' r t => by
        obtain ⟨r1, r2, r3, r4⟩ := r
        refine xE_ST_X12_tenth_12 t (fun t_hv0_12 t_hI_12 t_hF_12 t_z10_ t_e11_ t_h12_ t_h13_ t_M28_ t_hI31_ t_hF32_ t_hs34_ t_z35_ t_h36_ t_hq_v1_12y t_hM_ => ?_)
        have c1 := eT r1.2.1.1
        have c2 := eT t_e11_
        have c3 := eT r2
        (try dsimp only at c1 c2 c3 hE)
        omega)
      (fun x x' r s => by
        obtain ⟨r1, r2, r3, r4⟩ := r
        have c1 := eT r1.2.1.1
        have c2 := eT d_e11_
        have c3 := eT r2
        have c4 : x.1.toInt < (x.2.1 (7, b, 0) 5).toInt := by
          unfold ST_X7_letThingsGo_2 at s
          obtain ⟨-, -, -, z2_, e3_, h4_, -⟩ := s
          rw [← e3_]; exact h4_
        (try dsimp only at c1 c2 c3)
        omega)
    exact ⟨L.1, L.2.2.1⟩
  have walkers : ∀ {v1 : Int32} {M11 Mm : mM}, WRR b M11.1 (d_M_12.1 (50, 0, 0)) → (d_M_12.1 (12, 0, 0) 7).toInt = -1 → RCH (fun x_ y_ => ST_X10_passTenth_23 b M x_.1 x_.2 y_.1 y_.2) ((0 : Int32), M11) (v1, Mm) → ((Mm.1 (10, b, 0) 6).toInt ≤ v1.toInt ∨ 8 ≤ v1.toInt) → WRR b Mm.1 (d_M_35.1 (50, 0, 0)) := fun {v1 M11 Mm} R0 u0 hL hE => by
    have L := lockE (fun x y : Int32 × mM => WRR b x.2.1 (y.2.1 (50, 0, 0)) ∧ x.1 = y.1 ∧ (y.2.1 (12, 0, 0) 7).toInt = -1) hL d_hL_35 ⟨R0, rfl, u0⟩
      (fun x z y w r s t => by
        obtain ⟨x1, x2⟩ := x
        obtain ⟨y1, y2⟩ := y
        obtain ⟨z1, z2⟩ := z
        obtain ⟨w1, w2⟩ := w
        (try dsimp only at r s t ⊢)
        obtain ⟨r1, r2, r3⟩ := r
        subst r2
        have s' := s
        refine xE_ST_X12_tenth_35 t (fun t_hv0_35 t_hI_35 t_hF_35 t_z15_ t_e16_ t_h17_ t_h18_ t_M19_ t_hI22_ t_hF23_ t_hs25_ t_z26_ t_h27_ t_hq_v1_35y t_hM_ => ?_)
        have st := wkt_step s t_hs25_ r1 t_hI_35 r3 ⟨t_hv0_35, by unfold nWa; rw [← t_e16_]; exact t_h18_⟩
        rw [t_hM_]
        refine ⟨st, ?_, by rw [t_hF23_ (12, 0, 0) 7 (fun q => by simp [S_c_X12_walkerGoes] at q)]; exact r3⟩
        have ci : z1.toInt = x1.toInt + 1 := by
          refine xE_ST_X10_passTenth_23 s' (fun s_hv0_23 _ s_hF_23 s_z19_ s_e20_ s_h21_ s_h22_ s_j23_ s_h24_ s_h25_ s_z26_ s_e27_ s_h28_ => ⟨(fun s_h29_ s_z30_ s_h31_ s_hq_v1_23y s_hM_ => ?_), (fun s_h29_ s_M32_ _ s_hF36_ s_hs38_ s_z39_ s_h40_ s_hq_v1_23y s_hM_ => ?_)⟩)
          all_goals (rw [s_hq_v1_23y]; assumption)
        exact i32e (by rw [ci, t_hq_v1_35y, t_h27_]))
      (fun y y' r t => by
        obtain ⟨r1, r2, r3⟩ := r
        refine xE_ST_X12_tenth_35 t (fun t_hv0_35 t_hI_35 t_hF_35 t_z15_ t_e16_ t_h17_ t_h18_ t_M19_ t_hI22_ t_hF23_ t_hs25_ t_z26_ t_h27_ t_hq_v1_35y t_hM_ => ?_)
        have c1 := eT r1.2.2.1.1
        have c2 := eT t_e16_
        have c3 := eT r2
        (try dsimp only at c1 c2 c3 hE)
        omega)
      (fun x x' r s => by
        obtain ⟨r1, r2, r3⟩ := r
        have c1 := eT r1.2.2.1.1
        have c2 := eT d_e16_
        have c3 := eT r2
        have c4 : x.1.toInt < (x.2.1 (10, b, 0) 6).toInt := by
          unfold ST_X10_passTenth_23 at s
          obtain ⟨-, -, -, z2_, e3_, h4_, -⟩ := s
          rw [← e3_]; exact h4_
        (try dsimp only at c1 c2 c3)
        omega)
    exact L.1
  refine ⟨?_, invD, frD⟩
  rw [d_hM_]
  unfold SP_X10_passTenth at h1
  obtain ⟨z1_, e2_, z3_, h4_, M5_, hM6_, z9_, e10_, hI7_, M11_, hI14_, hF15_, hs17_, v1_23, hv0_23, M_23, hL_23, hI_23, hF_23, z19_, e20_, h⟩ := h1
  have T : WRR b M11_.1 (d_M_12.1 (50, 0, 0)) ∧ (d_M_12.1 (12, 0, 0) 7).toInt = -1 := by
    refine xE_SP_X7_letThingsGo hs17_ (fun k_v2_2 k_hv0_2 k_M_2 k_hL_2 _ k_hF_2 k_z2_ k_e3_ => ⟨(fun k_h4_ k_hM_ => ?_), (fun k_h4_ k_h5_ k_hM_ => ?_)⟩)
    · rw [k_hM_]
      exact things e2_ h4_ hM6_ e10_ k_hL_2 (Or.inl (by rw [← k_e3_]; exact k_h4_))
    · rw [k_hM_]
      exact things e2_ h4_ hM6_ e10_ k_hL_2 (Or.inr k_h5_)
  rcases h with ⟨h21_, hM_⟩ | ⟨h21_, h22_, hM_⟩
  · rw [hM_]
    exact walkers T.1 T.2 hL_23 (Or.inl (by rw [← e20_]; exact h21_))
  · rw [hM_]
    exact walkers T.1 T.2 hL_23 (Or.inr h22_)
end
section
/-! worlds alike, all of them -/
def wR (r : Nat) : Prop := r = 1 ∨ r = 2 ∨ r = 7 ∨ r = 9 ∨ r = 10 ∨ r = 24 ∨ r = 26 ∨ r = 27 ∨ (30 ≤ r ∧ r ≤ 33) ∨ (35 ≤ r ∧ r ≤ 41)
def LER (b : Nat) (q : rf → Nat → Int32) (n : Nat → Int32) : Prop := ∀ l : Nat, (l : Int) < (n 3).toInt → q (30, b, 0) l = n (252 + 3 * l) ∧ q (31, b, 0) l = n (253 + 3 * l) ∧ q (32, b, 0) l = n (254 + 3 * l)
def TAR (b : Nat) (q : rf → Nat → Int32) (n : Nat → Int32) : Prop := ∀ i : Nat, (i : Int) < (n 4).toInt → q (33, b, 0) i = n (273 + i) ∧ 0 ≤ (n (273 + i)).toInt ∧ (n (273 + i)).toInt ≤ 255
def WTR (b : Nat) (q : rf → Nat → Int32) (n : Nat → Int32) : Prop := ∀ i : Nat, (i : Int) < (n 5).toInt → q (33, b, 1) i = n (321 + i)
def RW (b : Nat) (q : rf → Nat → Int32) (n : Nat → Int32) : Prop := WRR b q n ∧ LER b q n ∧ TAR b q n ∧ WTR b q n
theorem n345_b {n : Nat → Int32} (h : NW5 n) : (0 ≤ (n 3).toInt ∧ (n 3).toInt ≤ 7) ∧ (0 ≤ (n 4).toInt ∧ (n 4).toInt ≤ 48) ∧ (0 ≤ (n 5).toInt ∧ (n 5).toInt ≤ 24) := ⟨(h.1 3).2.2.1 rfl, (h.1 4).2.2.2.1 rfl, (h.1 5).2.2.2.2.1 rfl⟩
theorem LER_keep {b : Nat} {q q2 : rf → Nat → Int32} {n n2 : Nat → Int32} (h : LER b q n) (hb : (n 3).toInt ≤ 7) (hq : ∀ r k, r = 30 ∨ r = 31 ∨ r = 32 → q2 (r, b, 0) k = q (r, b, 0) k) (hn : ∀ j, j = 3 ∨ (252 ≤ j ∧ j < 273) → n2 j = n j) : LER b q2 n2 := fun l hl => by
  rw [hn 3 (by omega)] at hl
  rw [hq 30 l (by omega), hq 31 l (by omega), hq 32 l (by omega), hn _ (by omega), hn _ (by omega), hn _ (by omega)]
  exact h l hl
theorem TAR_keep {b : Nat} {q q2 : rf → Nat → Int32} {n n2 : Nat → Int32} (h : TAR b q n) (hb : (n 4).toInt ≤ 48) (hq : ∀ k, q2 (33, b, 0) k = q (33, b, 0) k) (hn : ∀ j, j = 4 ∨ (273 ≤ j ∧ j < 321) → n2 j = n j) : TAR b q2 n2 := fun l hl => by
  rw [hn 4 (by omega)] at hl
  rw [hq l, hn _ (by omega)]
  exact h l hl
theorem WTR_keep {b : Nat} {q q2 : rf → Nat → Int32} {n n2 : Nat → Int32} (h : WTR b q n) (hb : (n 5).toInt ≤ 24) (hq : ∀ k, q2 (33, b, 1) k = q (33, b, 1) k) (hn : ∀ j, j = 5 ∨ (321 ≤ j ∧ j < 345) → n2 j = n j) : WTR b q2 n2 := fun l hl => by
  rw [hn 5 (by omega)] at hl
  rw [hq l, hn _ (by omega)]
  exact h l hl
theorem WRR_same {b : Nat} {q q2 : rf → Nat → Int32} {n : Nat → Int32} (h : WRR b q n) (hN : NW5 n) (hq : ∀ (c : rf) (k : Nat), wR c.1 → c.2.1 = b → q2 c k = q c k) : WRR b q2 n :=
  ⟨LWR_keep h.1 (fun r k hr => hq _ _ (by unfold wR; dsimp only; omega) rfl) (fun _ _ => rfl),
   THR_keep h.2.1 (nTh_b hN).2 (fun r k hr => hq _ _ (by unfold wR; dsimp only; omega) rfl) (fun _ _ => rfl),
   WAR_keep h.2.2.1 (nWa_b hN).2 (fun r w k hr => hq _ _ (by unfold wR; dsimp only; omega) rfl) (hq _ _ (by unfold wR; dsimp only; omega) rfl) (fun _ _ => rfl),
   TXR_keep h.2.2.2.1 (TXz hN) (fun r u k hr hu => hq _ _ (by unfold wR; dsimp only; omega) rfl) (fun _ _ _ => rfl),
   OCC_keep h.2.2.2.2.1 (nTh_b hN).2 (nWa_b hN).2 (fun k => hq _ _ (by unfold wR; dsimp only; omega) rfl) (fun _ _ => rfl) (fun _ _ => rfl), h.2.2.2.2.2⟩
theorem RW_same {b : Nat} {q q2 : rf → Nat → Int32} {n : Nat → Int32} (h : RW b q n) (hN : NW5 n) (hq : ∀ (c : rf) (k : Nat), wR c.1 → c.2.1 = b → q2 c k = q c k) : RW b q2 n :=
  ⟨WRR_same h.1 hN hq, LER_keep h.2.1 (n345_b hN).1.2 (fun r k hr => hq _ _ (by unfold wR; dsimp only; omega) rfl) (fun _ _ => rfl), TAR_keep h.2.2.1 (n345_b hN).2.1.2 (fun k => hq _ _ (by unfold wR; dsimp only; omega) rfl) (fun _ _ => rfl), WTR_keep h.2.2.2 (n345_b hN).2.2.2 (fun k => hq _ _ (by unfold wR; dsimp only; omega) rfl) (fun _ _ => rfl)⟩
/-- what is behind a tenth, where the rest stays -/
theorem RW_of {b : Nat} {q q2 : rf → Nat → Int32} {n n2 : Nat → Int32} (h : RW b q n) (hN : NW5 n) (hw : WRR b q2 n2) (hq : ∀ (c : rf) (k : Nat), c.1 = 30 ∨ c.1 = 31 ∨ c.1 = 32 ∨ c.1 = 33 → q2 c k = q c k) (hn : ∀ j, j = 3 ∨ j = 4 ∨ j = 5 ∨ (252 ≤ j ∧ j < 345) → n2 j = n j) : RW b q2 n2 :=
  ⟨hw, LER_keep h.2.1 (n345_b hN).1.2 (fun r k hr => hq _ _ (by dsimp only; omega)) (fun j hj => hn j (by omega)), TAR_keep h.2.2.1 (n345_b hN).2.1.2 (fun k => hq _ _ (by dsimp only; omega)) (fun j hj => hn j (by omega)), WTR_keep h.2.2.2 (n345_b hN).2.2.2 (fun k => hq _ _ (by dsimp only; omega)) (fun j hj => hn j (by omega))⟩
/-- numbers of a thing change, not its cell -/
theorem WRR_thf {b t : Nat} {q q2 : rf → Nat → Int32} {n n2 : Nat → Int32} (h : WRR b q n) (hN : NW5 n) (ht : (t : Int) < nTh n) (hq : ∀ (c : rf) (k : Nat), ¬ ((c = (36, b, 0) ∨ c = (38, b, 0) ∨ c = (39, b, 0)) ∧ k = t) → wR c.1 → q2 c k = q c k) (hn : ∀ j, ¬ (j = 20 + 4 * t ∨ j = 22 + 4 * t ∨ j = 23 + 4 * t) → n2 j = n j)
    (e : q2 (36, b, 0) t = n2 (20 + 4 * t) ∧ q2 (38, b, 0) t = n2 (22 + 4 * t) ∧ q2 (39, b, 0) t = n2 (23 + 4 * t)) (hm : 0 ≤ (n2 (23 + 4 * t)).toInt ∧ ((n2 (20 + 4 * t)).toInt < 3 → (n2 (23 + 4 * t)).toInt = 0)) : WRR b q2 n2 := by
  have b1 := nTh_b hN
  have b2 := nWa_b hN
  have qq : ∀ (r u k : Nat), wR r → r ≠ 36 → r ≠ 38 → r ≠ 39 → q2 (r, b, u) k = q (r, b, u) k := fun r u k h0 h1 h2 h3 => hq _ _ (fun z => by
    rcases z.1 with z | z | z
    · exact h1 (congrArg (fun c : rf => c.1) z)
    · exact h2 (congrArg (fun c : rf => c.1) z)
    · exact h3 (congrArg (fun c : rf => c.1) z)) h0
  have et : nTh n2 = nTh n := by unfold nTh; rw [hn 1 (by omega)]
  have ew : nWa n2 = nWa n := by unfold nWa; rw [hn 2 (by omega)]
  refine ⟨LWR_keep h.1 (fun r k hr => qq _ _ _ (by unfold wR; omega) (by omega) (by omega) (by omega)) (fun j hj => hn j (by omega)), ?_, WAR_keep h.2.2.1 b2.2 (fun r w k hr => qq _ _ _ (by unfold wR; omega) (by omega) (by omega) (by omega)) (qq _ _ _ (by unfold wR; omega) (by omega) (by omega) (by omega)) (fun j hj => hn j (by omega)),
    TXR_keep h.2.2.2.1 (TXz hN) (fun r u k hr hu => qq _ _ _ (by unfold wR; omega) (by omega) (by omega) (by omega)) (fun j h1 h2 => hn j (by omega)), OCC_keep h.2.2.2.2.1 b1.2 b2.2 (fun k => qq _ _ _ (by unfold wR; omega) (by omega) (by omega) (by omega)) (fun j hj => hn j (by omega)) (fun j hj => hn j (by omega)), ?_⟩
  · refine ⟨by rw [qq 7 0 5 (by unfold wR; omega) (by omega) (by omega) (by omega), hn 1 (by omega)]; exact h.2.1.1, fun s hs => ?_⟩
    rw [et] at hs
    have g := h.2.1.2 s hs
    by_cases z : s = t
    · subst z
      exact ⟨e.1, by rw [qq 37 0 s (by unfold wR; omega) (by omega) (by omega) (by omega), hn _ (by omega)]; exact g.2.1, e.2.1, e.2.2⟩
    · rw [hq _ _ (fun y => z y.2) (by unfold wR; dsimp only; omega), hq _ _ (fun y => z y.2) (by unfold wR; dsimp only; omega), hq _ _ (fun y => z y.2) (by unfold wR; dsimp only; omega), hq _ _ (fun y => z y.2) (by unfold wR; dsimp only; omega), hn _ (by omega), hn _ (by omega), hn _ (by omega), hn _ (by omega)]
      exact g
  · obtain ⟨h1, h2, h3⟩ := h.2.2.2.2.2
    unfold MIR
    rw [et, ew]
    refine ⟨fun w hw => by rw [hn _ (by omega), hn _ (by omega)]; exact h1 w hw, fun s hs => ?_, fun w a c => ⟨fun k hk => by rw [hn _ (by omega)]; exact (h3 w a c).1 k hk, fun k hk => by rw [hn _ (by omega)]; exact (h3 w a c).2 k hk⟩⟩
    by_cases z : s = t
    · rw [z]; exact hm
    · rw [hn _ (by omega), hn _ (by omega)]; exact h2 s hs
/-- numbers of a walker change, not its cell -/
theorem WRR_wkf {b w : Nat} {q q2 : rf → Nat → Int32} {n n2 : Nat → Int32} (h : WRR b q n) (hN : NW5 n) (hw : (w : Int) < nWa n) (hq : ∀ (c : rf) (k : Nat), ¬ (c = (9, b, w) ∧ k ≠ 1) → wR c.1 → q2 c k = q c k) (hn : ∀ j, (j < 180 + 9 * w ∨ 189 + 9 * w ≤ j ∨ j = 181 + 9 * w) → n2 j = n j)
    (e : ∀ k, k < 9 → k ≠ 1 → q2 (9, b, w) k = n2 (180 + 9 * w + k)) (hm : (1 ≤ (n2 (183 + 9 * w)).toInt ∧ (n2 (183 + 9 * w)).toInt ≤ 9) ∧ (1 ≤ (n2 (184 + 9 * w)).toInt ∧ (n2 (184 + 9 * w)).toInt ≤ 99)) : WRR b q2 n2 := by
  have b1 := nTh_b hN
  have b2 := nWa_b hN
  have qq : ∀ (r u k : Nat), wR r → r ≠ 9 → q2 (r, b, u) k = q (r, b, u) k := fun r u k h0 h1 => hq _ _ (fun z => h1 (congrArg (fun c : rf => c.1) z.1)) h0
  have et : nTh n2 = nTh n := by unfold nTh; rw [hn 1 (by omega)]
  have ew : nWa n2 = nWa n := by unfold nWa; rw [hn 2 (by omega)]
  refine ⟨LWR_keep h.1 (fun r k hr => qq _ _ _ (by unfold wR; omega) (by omega)) (fun j hj => hn j (by omega)), THR_keep h.2.1 b1.2 (fun r k hr => qq _ _ _ (by unfold wR; omega) (by omega)) (fun j hj => hn j (by omega)), ?_,
    TXR_keep h.2.2.2.1 (TXz hN) (fun r u k hr hu => qq _ _ _ (by unfold wR; omega) (by omega)) (fun j h1 h2 => hn j (by omega)), OCC_keep h.2.2.2.2.1 b1.2 b2.2 (fun k => qq _ _ _ (by unfold wR; omega) (by omega)) (fun j hj => hn j (by omega)) (fun j hj => hn j (by omega)), ?_⟩
  · refine ⟨by rw [qq 10 0 6 (by unfold wR; omega) (by omega), hn 2 (by omega)]; exact h.2.2.1.1, fun u hu => ?_⟩
    rw [ew] at hu
    have g := h.2.2.1.2 u hu
    refine ⟨fun k hk => ?_, fun c hc => by rw [qq 40 u c (by unfold wR; omega) (by omega), qq 41 u c (by unfold wR; omega) (by omega), hn _ (by omega), hn _ (by omega)]; exact g.2 c hc⟩
    by_cases z : u = w
    · subst z
      by_cases y : k = 1
      · subst y
        rw [hq _ _ (fun x => x.2 rfl) (by unfold wR; dsimp only; omega), hn _ (by omega)]; exact g.1 1 hk
      · exact e k hk y
    · rw [hq _ _ (fun x => z (congrArg (fun c : rf => c.2.2) x.1)) (by unfold wR; dsimp only; omega), hn _ (by omega)]; exact g.1 k hk
  · obtain ⟨h1, h2, h3⟩ := h.2.2.2.2.2
    unfold MIR
    rw [et, ew]
    refine ⟨fun u hu => ?_, fun s hs => by rw [hn _ (by omega), hn _ (by omega)]; exact h2 s hs, fun u a c => ⟨fun k hk => by rw [hn _ (by omega)]; exact (h3 u a c).1 k hk, fun k hk => by rw [hn _ (by omega)]; exact (h3 u a c).2 k hk⟩⟩
    by_cases z : u = w
    · rw [z]; exact hm
    · rw [hn _ (by omega), hn _ (by omega)]; exact h1 u hu
end
section
/-! what a call does to both worlds -/
theorem cne {r b w r2 b2 w2 : Nat} (h : ¬ r = r2) : ¬ ((r, b, w) : rf) = (r2, b2, w2) := fun z => h (congrArg (fun c : rf => c.1) z)
/-- a thing comes -/
theorem WRR_add {b t cell : Nat} {q q2 : rf → Nat → Int32} {n n2 : Nat → Int32} (h : WRR b q n) (hN : NW5 n) (ht : nTh n = (t : Int)) (h40 : t < 40) (hc : cell < 192) (hf : occ b q cell = -1)
    (hq : ∀ (c : rf) (k : Nat), wR c.1 → ¬ (c.1 = 36 ∨ c.1 = 37 ∨ c.1 = 38 ∨ c.1 = 39) → ¬ (c = (35, b, 0) ∧ k = cell) → ¬ (c = (7, b, 0) ∧ k = 5) → q2 c k = q c k) (hq2 : ∀ r k, 36 ≤ r → r ≤ 39 → ¬ k = t → q2 (r, b, 0) k = q (r, b, 0) k)
    (hn : ∀ j, ¬ j = 1 → j < 20 + 4 * t ∨ 24 + 4 * t ≤ j → n2 j = n j) (e7 : q2 (7, b, 0) 5 = n2 1) (e1 : (n2 1).toInt = (t : Int) + 1) (e36 : q2 (36, b, 0) t = n2 (20 + 4 * t)) (e37 : q2 (37, b, 0) t = n2 (21 + 4 * t)) (e38 : q2 (38, b, 0) t = n2 (22 + 4 * t)) (e39 : q2 (39, b, 0) t = n2 (23 + 4 * t)) (ec : (n2 (21 + 4 * t)).toInt = (cell : Int)) (es : (n2 (23 + 4 * t)).toInt = 0) (e35 : (q2 (35, b, 0) cell).toInt = (t : Int)) : WRR b q2 n2 := by
  have b1 := nTh_b hN
  have b2 := nWa_b hN
  have qq : ∀ (r u k : Nat), wR r → r ≠ 36 → r ≠ 37 → r ≠ 38 → r ≠ 39 → r ≠ 35 → r ≠ 7 → q2 (r, b, u) k = q (r, b, u) k := fun r u k h0 h1 h2 h3 h4 h5 h6 => hq _ _ h0 (by dsimp only; omega) (fun z => h5 (congrArg (fun c : rf => c.1) z.1)) (fun z => h6 (congrArg (fun c : rf => c.1) z.1))
  have et : nTh n2 = (t : Int) + 1 := e1
  have ew : nWa n2 = nWa n := by unfold nWa; rw [hn 2 (by omega) (by omega)]
  have tN : ∀ s : Nat, s < t → tcl n2 s = tcl n s := fun s hs => by unfold tcl; rw [hn _ (by omega) (by omega)]
  have tE : tcl n2 t = (cell : Int) := ec
  have wN : ∀ w : Nat, (w : Int) < nWa n → wcl n2 w = wcl n w := fun w hw => by unfold wcl; rw [hn _ (by omega) (by omega)]
  have oN : ∀ k, ¬ k = cell → occ b q2 k = occ b q k := fun k hk => by unfold occ; rw [hq (35, b, 0) k (by unfold wR; dsimp only; omega) (by simp) (fun z => hk z.2) (fun z => cne (by omega) z.1)]
  refine ⟨LWR_keep h.1 (fun r k hr => qq _ _ _ (by unfold wR; omega) (by omega) (by omega) (by omega) (by omega) (by omega) (by omega)) (fun j hj => hn j (by omega) (by omega)), ⟨e7, fun s hs => ?_⟩, WAR_keep h.2.2.1 b2.2 (fun r w k hr => qq _ _ _ (by unfold wR; omega) (by omega) (by omega) (by omega) (by omega) (by omega) (by omega)) (qq _ _ _ (by unfold wR; omega) (by omega) (by omega) (by omega) (by omega) (by omega) (by omega)) (fun j hj => hn j (by omega) (by omega)),
    TXR_keep h.2.2.2.1 (TXz hN) (fun r u k hr hu => qq _ _ _ (by unfold wR; omega) (by omega) (by omega) (by omega) (by omega) (by omega) (by omega)) (fun j h1 h2 => hn j (by omega) (by omega)), ?_, ?_⟩
  · rw [et] at hs
    by_cases z : s = t
    · subst z
      exact ⟨e36, e37, e38, e39⟩
    · have g := h.2.1.2 s (by omega)
      rw [hq2 36 s (by omega) (by omega) z, hq2 37 s (by omega) (by omega) z, hq2 38 s (by omega) (by omega) z, hq2 39 s (by omega) (by omega) z, hn _ (by omega) (by omega), hn _ (by omega) (by omega), hn _ (by omega) (by omega), hn _ (by omega) (by omega)]
      exact g
  · obtain ⟨h1, h2, h3⟩ := h.2.2.2.2.1
    unfold OCC
    rw [et, ew]
    refine ⟨fun s hs hp => ?_, fun w hw => ?_, fun c hcc => ?_⟩
    · by_cases z : s = t
      · rw [z, tE, Int.toNat_natCast]; exact e35
      · rw [tN s (by omega)] at hp ⊢
        have g := h1 s (by omega) hp
        rw [oN _ (fun y => by rw [y] at g; omega)]; exact g
    · rw [wN w hw]
      have g := h2 w hw
      rw [oN _ (fun y => by rw [y] at g; omega)]; exact g
    · by_cases z : c = cell
      · have e : occ b q2 c = (t : Int) := by rw [z]; exact e35
        rw [e]
        exact Or.inr (Or.inl ⟨by omega, by omega, by rw [Int.toNat_natCast, tE, z]⟩)
      · rw [oN c z]
        rcases h3 c hcc with o | ⟨o1, o2, o3⟩ | ⟨o1, o2, o3⟩
        · exact Or.inl o
        · exact Or.inr (Or.inl ⟨o1, by omega, by rw [tN _ (by omega)]; exact o3⟩)
        · exact Or.inr (Or.inr ⟨o1, o2, by rw [wN _ (by omega)]; exact o3⟩)
  · obtain ⟨h1, h2, h3⟩ := h.2.2.2.2.2
    unfold MIR
    rw [et, ew]
    refine ⟨fun w hw => by rw [hn _ (by omega) (by omega), hn _ (by omega) (by omega)]; exact h1 w hw, fun s hs => ?_, fun w a c => ⟨fun k hk => by rw [hn _ (by omega) (by omega)]; exact (h3 w a c).1 k hk, fun k hk => by rw [hn _ (by omega) (by omega)]; exact (h3 w a c).2 k hk⟩⟩
    by_cases z : s = t
    · rw [z, es]; exact ⟨by omega, fun _ => rfl⟩
    · rw [hn _ (by omega) (by omega), hn _ (by omega) (by omega)]; exact h2 s (by omega)
/-- a walker comes -/
theorem WRR_addw {b w cell : Nat} {q q2 : rf → Nat → Int32} {n n2 : Nat → Int32} (h : WRR b q n) (hN : NW5 n) (hw : nWa n = (w : Int)) (h8 : w < 8) (hc : cell < 192) (hf : occ b q cell = -1)
    (hq : ∀ (c : rf) (k : Nat), wR c.1 → ¬ c = (9, b, w) → ¬ c = (40, b, w) → ¬ c = (41, b, w) → ¬ (c = (35, b, 0) ∧ k = cell) → ¬ (c = (10, b, 0) ∧ k = 6) → q2 c k = q c k)
    (hn : ∀ j, ¬ j = 2 → j < 180 + 9 * w ∨ 185 + 9 * w ≤ j → n2 j = n j) (e10 : q2 (10, b, 0) 6 = n2 2) (e2 : (n2 2).toInt = (w : Int) + 1) (e9 : ∀ k, k < 5 → q2 (9, b, w) k = n2 (180 + 9 * w + k)) (e9z : ∀ k, 5 ≤ k → k < 9 → q2 (9, b, w) k = 0) (e40 : ∀ k, k < 192 → q2 (40, b, w) k = 0 ∧ q2 (41, b, w) k = 0)
    (ec : (n2 (181 + 9 * w)).toInt = (cell : Int)) (ep : (1 ≤ (n2 (183 + 9 * w)).toInt ∧ (n2 (183 + 9 * w)).toInt ≤ 9) ∧ (1 ≤ (n2 (184 + 9 * w)).toInt ∧ (n2 (184 + 9 * w)).toInt ≤ 99)) (e35 : (q2 (35, b, 0) cell).toInt = 100 + (w : Int)) : WRR b q2 n2 := by
  have b1 := nTh_b hN
  have b2 := nWa_b hN
  have qq : ∀ (r u k : Nat), wR r → r ≠ 9 → r ≠ 40 → r ≠ 41 → r ≠ 35 → r ≠ 10 → q2 (r, b, u) k = q (r, b, u) k := fun r u k h0 h1 h2 h3 h4 h5 => hq _ _ h0 (cne h1) (cne h2) (cne h3) (fun z => cne h4 z.1) (fun z => cne h5 z.1)
  have et : nTh n2 = nTh n := by unfold nTh; rw [hn 1 (by omega) (by omega)]
  have ew : nWa n2 = (w : Int) + 1 := e2
  have tN : ∀ s : Nat, (s : Int) < nTh n → tcl n2 s = tcl n s := fun s hs => by unfold tcl; rw [hn _ (by omega) (by omega)]
  have wN : ∀ u : Nat, ¬ u = w → wcl n2 u = wcl n u := fun u hu => by unfold wcl; rw [hn _ (by omega) (by omega)]
  have wE : wcl n2 w = (cell : Int) := ec
  have oN : ∀ k, ¬ k = cell → occ b q2 k = occ b q k := fun k hk => by unfold occ; rw [hq (35, b, 0) k (by unfold wR; dsimp only; omega) (cne (by omega)) (cne (by omega)) (cne (by omega)) (fun z => hk z.2) (fun z => cne (by omega) z.1)]
  obtain ⟨m1, m2, m3⟩ := h.2.2.2.2.2
  have mz := m3 w (by omega) h8
  refine ⟨⟨?_, fun k hk => ?_, fun k hk => ?_⟩, THR_keep h.2.1 b1.2 (fun r k hr => qq _ _ _ (by unfold wR; omega) (by omega) (by omega) (by omega) (by omega) (by omega)) (fun j hj => hn j (by omega) (by omega)), ⟨e10, fun u hu => ?_⟩,
    TXR_keep h.2.2.2.1 (TXz hN) (fun r u k hr hu => qq _ _ _ (by unfold wR; omega) (by omega) (by omega) (by omega) (by omega) (by omega)) (fun j h1 h2 => hn j (by omega) (by omega)), ?_, ?_⟩
  · rw [hq (10, b, 0) 7 (by unfold wR; dsimp only; omega) (cne (by omega)) (cne (by omega)) (cne (by omega)) (fun z => cne (by omega) z.1) (fun z => absurd z.2 (by omega)), hn 0 (by omega) (by omega)]; exact h.1.1
  · rw [qq 2 0 k (by unfold wR; omega) (by omega) (by omega) (by omega) (by omega) (by omega), hn _ (by omega) (by omega)]; exact h.1.2.1 k hk
  · rw [qq 26 0 k (by unfold wR; omega) (by omega) (by omega) (by omega) (by omega) (by omega), qq 27 0 k (by unfold wR; omega) (by omega) (by omega) (by omega) (by omega) (by omega), hn _ (by omega) (by omega), hn _ (by omega) (by omega)]; exact h.1.2.2 k hk
  · rw [ew] at hu
    by_cases z : u = w
    · subst z
      refine ⟨fun k hk => ?_, fun c hcc => ?_⟩
      · by_cases y : k < 5
        · exact e9 k y
        · rw [e9z k (by omega) hk, hn _ (by omega) (by omega)]; exact (mz.1 k hk).symm
      · have z1 := mz.2 c (by omega)
        have z2 := mz.2 (192 + c) (by omega)
        rw [(e40 c hcc).1, (e40 c hcc).2, hn _ (by omega) (by omega), hn _ (by omega) (by omega), z1]
        rw [show 495 + 384 * u + (192 + c) = 687 + 384 * u + c by omega] at z2
        exact ⟨rfl, z2.symm⟩
    · have g := h.2.2.1.2 u (by omega)
      refine ⟨fun k hk => ?_, fun c hcc => ?_⟩
      · rw [hq _ _ (by unfold wR; dsimp only; omega) (fun y => z (congrArg (fun c : rf => c.2.2) y)) (cne (by omega)) (cne (by omega)) (fun y => cne (by omega) y.1) (fun y => cne (by omega) y.1), hn _ (by omega) (by omega)]; exact g.1 k hk
      · rw [hq (40, b, u) c (by unfold wR; dsimp only; omega) (cne (by omega)) (fun y => z (congrArg (fun c : rf => c.2.2) y)) (cne (by omega)) (fun y => cne (by omega) y.1) (fun y => cne (by omega) y.1), hq (41, b, u) c (by unfold wR; dsimp only; omega) (cne (by omega)) (cne (by omega)) (fun y => z (congrArg (fun c : rf => c.2.2) y)) (fun y => cne (by omega) y.1) (fun y => cne (by omega) y.1), hn _ (by omega) (by omega), hn _ (by omega) (by omega)]
        exact g.2 c hcc
  · obtain ⟨h1, h2, h3⟩ := h.2.2.2.2.1
    unfold OCC
    rw [et, ew]
    refine ⟨fun s hs hp => ?_, fun u hu => ?_, fun c hcc => ?_⟩
    · rw [tN s hs] at hp ⊢
      have g := h1 s hs hp
      rw [oN _ (fun y => by rw [y] at g; omega)]; exact g
    · by_cases z : u = w
      · rw [z, wE, Int.toNat_natCast]; exact e35
      · rw [wN u z]
        have g := h2 u (by omega)
        rw [oN _ (fun y => by rw [y] at g; omega)]; exact g
    · by_cases z : c = cell
      · have e : occ b q2 c = 100 + (w : Int) := by rw [z]; exact e35
        rw [e]
        exact Or.inr (Or.inr ⟨by omega, by omega, by rw [show (100 + (w : Int) - 100).toNat = w by omega, wE, z]⟩)
      · rw [oN c z]
        rcases h3 c hcc with o | ⟨o1, o2, o3⟩ | ⟨o1, o2, o3⟩
        · exact Or.inl o
        · exact Or.inr (Or.inl ⟨o1, o2, by rw [tN _ (by omega)]; exact o3⟩)
        · exact Or.inr (Or.inr ⟨o1, by omega, by rw [wN _ (by omega)]; exact o3⟩)
  · unfold MIR
    rw [et, ew]
    refine ⟨fun u hu => ?_, fun s hs => by rw [hn _ (by omega) (by omega), hn _ (by omega) (by omega)]; exact m2 s hs, fun u a c => ⟨fun k hk => by rw [hn _ (by omega) (by omega)]; exact (m3 u (by omega) c).1 k hk, fun k hk => by rw [hn _ (by omega) (by omega)]; exact (m3 u (by omega) c).2 k hk⟩⟩
    by_cases z : u = w
    · rw [z]; exact ep
    · rw [hn _ (by omega) (by omega), hn _ (by omega) (by omega)]; exact m1 u (by omega)
/-- a thing is away -/
theorem WRR_away {b t c0 : Nat} {M D : mM} (h : WRR b M.1 (D.1 (50, 0, 0))) (hN : NW5 (D.1 (50, 0, 0))) (ht : (t : Int) < nTh (D.1 (50, 0, 0))) (h0 : tcl (D.1 (50, 0, 0)) t = (c0 : Int)) :
    WRR b (up (up M (35, b, 0) c0 (-1)) (37, b, 0) t (-1)).1 ((up D (50, 0, 0) (21 + 4 * t) (-1)).1 (50, 0, 0)) := by
  have b1 := nTh_b hN
  have b2 := nWa_b hN
  rw [up_row]
  have nn : ∀ j, ¬ j = 21 + 4 * t → upd (D.1 (50, 0, 0)) (21 + 4 * t) (-1) j = D.1 (50, 0, 0) j := fun j hj => updN hj
  have qq : ∀ (c : rf) (k : Nat), ¬ c.1 = 35 → ¬ c.1 = 37 → (up (up M (35, b, 0) c0 (-1)) (37, b, 0) t (-1)).1 c k = M.1 c k := fun c k h1 h2 => by
    rw [zupR rfl h2, zupR rfl h1]
  refine ⟨LWR_keep h.1 (fun r k hr => qq _ _ (by dsimp only; omega) (by dsimp only; omega)) (fun j hj => nn j (by omega)), ?_, WAR_keep h.2.2.1 b2.2 (fun r w k hr => qq _ _ (by dsimp only; omega) (by dsimp only; omega)) (qq _ _ (by simp) (by simp)) (fun j hj => nn j (by omega)),
    TXR_keep h.2.2.2.1 (TXz hN) (fun r u k hr hu => qq _ _ (by dsimp only; omega) (by dsimp only; omega)) (fun j h1 h2 => nn j (by omega)), ?_, MIR_keep h.2.2.2.2.2 b1.2 b2.2 (fun j hj => nn j (by omega)) (fun w h1 h2 => ⟨fun k hk => nn _ (by omega), fun c hc => nn _ (by omega)⟩)⟩
  · have g := THR_one (q2 := (up (up M (35, b, 0) c0 (-1)) (37, b, 0) t (-1)).1) (t := t) (f := 1) (x := -1) h.2.1 b1.2 (by omega) (qq _ _ (by simp) (by simp)) (fun g k hg => by
      by_cases e : g = 1 ∧ k = t
      · rw [if_pos e]; exact zupE rfl (by rw [e.1]) e.2
      · rw [if_neg e, zupN rfl (fun z => e ⟨by have := congrArg (fun c : rf => c.1) z.1; dsimp only at this; omega, z.2⟩), zupR rfl (by dsimp only; omega)])
    rw [show 20 + 4 * t + 1 = 21 + 4 * t by omega] at g
    exact g
  · obtain ⟨h1, h2, h3⟩ := h.2.2.2.2.1
    have o0 := h1 t ht (by omega)
    rw [h0, Int.toNat_natCast] at o0
    have ho : ∀ k, occ b (up (up M (35, b, 0) c0 (-1)) (37, b, 0) t (-1)).1 k = if k = c0 then -1 else occ b M.1 k := fun k => by
      unfold occ
      rw [zupR (c' := (35, b, 0)) rfl (by simp)]
      by_cases e2 : k = c0
      · rw [if_pos e2, zupE rfl rfl e2]; exact il_m1
      · rw [if_neg e2, zupN rfl (fun z => e2 z.2)]
    have et : nTh (upd (D.1 (50, 0, 0)) (21 + 4 * t) (-1)) = nTh (D.1 (50, 0, 0)) := by unfold nTh; rw [nn _ (by omega)]
    have ew : nWa (upd (D.1 (50, 0, 0)) (21 + 4 * t) (-1)) = nWa (D.1 (50, 0, 0)) := by unfold nWa; rw [nn _ (by omega)]
    have tE : tcl (upd (D.1 (50, 0, 0)) (21 + 4 * t) (-1)) t = -1 := by unfold tcl; rw [updE rfl]; exact il_m1
    have tN : ∀ s : Nat, ¬ s = t → tcl (upd (D.1 (50, 0, 0)) (21 + 4 * t) (-1)) s = tcl (D.1 (50, 0, 0)) s := fun s hs => by unfold tcl; rw [nn _ (by omega)]
    have wN : ∀ w : Nat, wcl (upd (D.1 (50, 0, 0)) (21 + 4 * t) (-1)) w = wcl (D.1 (50, 0, 0)) w := fun w => by unfold wcl; rw [nn _ (by omega)]
    unfold OCC
    rw [et, ew]
    refine ⟨fun s hs hp => ?_, fun w hw => ?_, fun c hc => ?_⟩
    · by_cases e : s = t
      · rw [e, tE] at hp; omega
      · rw [tN s e] at hp ⊢
        have g := h1 s hs hp
        rw [ho, if_neg (fun z => by rw [z] at g; omega)]
        exact g
    · rw [wN]
      have g := h2 w hw
      rw [ho, if_neg (fun z => by rw [z] at g; omega)]
      exact g
    · rw [ho]
      by_cases e2 : c = c0
      · rw [if_pos e2]; exact Or.inl rfl
      · rw [if_neg e2]
        rcases h3 c hc with o | ⟨o1, o2, o3⟩ | ⟨o1, o2, o3⟩
        · exact Or.inl o
        · refine Or.inr (Or.inl ⟨o1, o2, ?_⟩)
          rw [tN _ (fun z => by rw [z, h0] at o3; omega)]
          exact o3
        · exact Or.inr (Or.inr ⟨o1, o2, by rw [wN]; exact o3⟩)
end
