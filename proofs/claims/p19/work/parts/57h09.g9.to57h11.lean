section
/-! a click: what a head keeps of it -/
def bmp (x k : Int32) : Int32 := Int32.ofInt (if 99 ≤ (x + k).toInt then 99 else (x + k).toInt)
theorem bmp_of {x k s z : Int32} (h1 : s = x + k) (h2 : (z.toInt = 99 ∧ 99 ≤ s.toInt) ∨ (z.toInt = s.toInt ∧ s.toInt ≤ 99)) : z = bmp x k := by
  unfold bmp
  refine ofIe ?_
  rw [← h1]
  split <;> omega
def noF (f : Nat → Int32) (c s : Int) : Nat → Nat → Int32
  | 0 => f
  | k + 1 => upd (noF f c s k) (onI c s ((k + 1 : Nat) : Int)).toNat (bmp (noF f c s k (onI c s ((k + 1 : Nat) : Int)).toNat) 1)
theorem noF_cong {f g : Nat → Int32} {c s : Int} (h : ∀ k, k < 192 → f k = g k) : ∀ m : Nat, (∀ j : Nat, 1 ≤ j → j ≤ m → 0 ≤ onI c s (j : Int)) → ∀ k, k < 192 → noF f c s m k = noF g c s m k
  | 0, _, k, hk => h k hk
  | m + 1, hp, k, hk => by
    have ih := noF_cong h m (fun j a d => hp j a (by omega))
    have p := hp (m + 1) (by omega) (Nat.le_refl _)
    have ob := onI_b (c := c) (s := s) (y := ((m + 1 : Nat) : Int))
    show upd _ _ _ k = upd _ _ _ k
    unfold upd
    split
    · rw [ih _ (by omega)]
    · exact ih k hk
theorem WRR_heads {b w : Nat} {q q2 : rf → Nat → Int32} {n n2 : Nat → Int32} (h : WRR b q n) (hN : NW5 n) (hw : (w : Int) < nWa n) (hq : ∀ (c : rf) (k : Nat), c.1 ≠ 25 → c.1 ≠ 29 → ¬ c = (40, b, w) → ¬ c = (41, b, w) → q2 c k = q c k) (hn : ∀ j, j < 495 + 384 * w ∨ 879 + 384 * w ≤ j → n2 j = n j)
    (hy : ∀ k, k < 192 → q2 (40, b, w) k = n2 (495 + 384 * w + k) ∧ q2 (41, b, w) k = n2 (687 + 384 * w + k)) : WRR b q2 n2 := by
  have b1 := nTh_b hN
  have b2 := nWa_b hN
  have qq : ∀ (r u k : Nat), r ≠ 25 → r ≠ 29 → r ≠ 40 → r ≠ 41 → q2 (r, b, u) k = q (r, b, u) k := fun r u k h1 h2 h3 h4 => hq _ _ h1 h2 (fun z => h3 (congrArg (fun c : rf => c.1) z)) (fun z => h4 (congrArg (fun c : rf => c.1) z))
  have ew : nWa n2 = nWa n := by unfold nWa; rw [hn 2 (by omega)]
  refine ⟨LWR_keep h.1 (fun r k hr => qq _ _ _ (by omega) (by omega) (by omega) (by omega)) (fun j hj => hn j (by omega)), THR_keep h.2.1 b1.2 (fun r k hr => qq _ _ _ (by omega) (by omega) (by omega) (by omega)) (fun j hj => hn j (by omega)), ?_,
    TXR_keep h.2.2.2.1 (TXz hN) (fun r u k hr hu => qq _ _ _ (by omega) (by omega) (by omega) (by omega)) (fun j h1 h2 => hn j (by omega)), OCC_keep h.2.2.2.2.1 b1.2 b2.2 (fun k => qq _ _ _ (by omega) (by omega) (by omega) (by omega)) (fun j hj => hn j (by omega)) (fun j hj => hn j (by omega)), MIR_keep h.2.2.2.2.2 b1.2 b2.2 (fun j hj => hn j (by omega)) (fun u h1 h2 => ⟨fun k hk => hn _ (by omega), fun c hc => hn _ (by omega)⟩)⟩
  refine ⟨by rw [qq _ _ _ (by omega) (by omega) (by omega) (by omega), hn 2 (by omega)]; exact h.2.2.1.1, fun u hu => ⟨fun k hk => ?_, fun c hc => ?_⟩⟩
  · rw [ew] at hu
    rw [qq _ _ _ (by omega) (by omega) (by omega) (by omega), hn _ (by omega)]; exact (h.2.2.1.2 u hu).1 k hk
  · rw [ew] at hu
    by_cases e : u = w
    · rw [e]; exact hy c hc
    · rw [hq (40, b, u) c (by simp) (by simp) (fun z => e (congrArg (fun c : rf => c.2.2) z)) (fun z => absurd (congrArg (fun c : rf => c.1) z) (by simp)), hq (41, b, u) c (by simp) (by simp) (fun z => absurd (congrArg (fun c : rf => c.1) z) (by simp)) (fun z => e (congrArg (fun c : rf => c.2.2) z)), hn _ (by omega), hn _ (by omega)]
      exact (h.2.2.1.2 u hu).2 c hc
/-- a number of a walker changes that isn't its cell, pitch or loudness -/
theorem WRR_wf {b w f : Nat} {M D : mM} {x : Int32} (h : WRR b M.1 (D.1 (50, 0, 0))) (hN : NW5 (D.1 (50, 0, 0))) (hw : (w : Int) < nWa (D.1 (50, 0, 0))) (hf : f < 9 ∧ f ≠ 1 ∧ f ≠ 3 ∧ f ≠ 4) : WRR b (up M (9, b, w) f x).1 ((up D (50, 0, 0) (180 + 9 * w + f) x).1 (50, 0, 0)) := by
  have b1 := nTh_b hN
  have b2 := nWa_b hN
  rw [up_row]
  have nn : ∀ j, ¬ j = 180 + 9 * w + f → upd (D.1 (50, 0, 0)) (180 + 9 * w + f) x j = D.1 (50, 0, 0) j := fun j hj => updN hj
  have ew : nWa (upd (D.1 (50, 0, 0)) (180 + 9 * w + f) x) = nWa (D.1 (50, 0, 0)) := by unfold nWa; rw [nn 2 (by omega)]
  refine ⟨LWR_keep h.1 (fun r k hr => zupR rfl (by dsimp only; omega)) (fun j hj => nn j (by omega)), THR_keep h.2.1 b1.2 (fun r k hr => zupR rfl (by dsimp only; omega)) (fun j hj => nn j (by omega)), ?_,
    TXR_keep h.2.2.2.1 (TXz hN) (fun r u k hr hu => zupR rfl (by dsimp only; omega)) (fun j h1 h2 => nn j (by omega)), OCC_keep h.2.2.2.2.1 b1.2 b2.2 (fun k => zupR rfl (by simp)) (fun j hj => nn j (by omega)) (fun j hj => nn j (by omega)), MIR_keep h.2.2.2.2.2 b1.2 b2.2 (fun j hj => nn j (by omega)) (fun u h1 h2 => ⟨fun k hk => nn _ (by omega), fun c hc => nn _ (by omega)⟩)⟩
  refine ⟨by rw [zupR rfl (by simp), nn 2 (by omega)]; exact h.2.2.1.1, fun u hu => ⟨fun k hk => ?_, fun c hc => ?_⟩⟩
  · rw [ew] at hu
    by_cases e : u = w ∧ k = f
    · rw [e.1, e.2, zupE rfl rfl rfl, updE rfl]
    · rw [zupN rfl (fun z => e ⟨congrArg (fun c : rf => c.2.2) z.1, z.2⟩), nn _ (by omega)]; exact (h.2.2.1.2 u hu).1 k hk
  · rw [ew] at hu
    rw [zupR rfl (by simp), zupR rfl (by simp), nn _ (by omega), nn _ (by omega)]
    exact (h.2.2.1.2 u hu).2 c hc
theorem RCH_F {α : Type} {S : α → α → Prop} {a z : α} (h : RCH S a z) (hS : ∀ x y, ¬ S x y) : z = a := rind h (fun z => z = a) rfl (fun x y _ s => (hS x y s).elim)
theorem HyP_pos {n : Nat → Int32} {o : Nat → Int} {w : Nat} {c s : Int32} {r : Int} (h : HyP n o w c s r) (hr : ¬ r = 0) : 1 ≤ r ∧ r ≤ reachI (n (180 + 9 * w)).toInt ∧ ∀ j : Int, 1 ≤ j → j ≤ r → 0 ≤ onI c.toInt s.toInt j := by
  obtain ⟨y, E, d⟩ := h
  have e : r = y.toInt ∧ ¬ y.toInt = 0 := by
    rcases d with d | ⟨d, d2 | d2⟩
    · omega
    · exact ⟨d2.1, d⟩
    · omega
  rcases E with E | E
  · rw [e.1]
    refine ⟨E.1, E.2.1, fun j h1 h2 => ?_⟩
    by_cases z : j = y.toInt
    · rw [z]; exact E.2.2.2.1
    · exact (E.2.2.1 j h1 (by omega)).1
  · exact absurd E.1 e.2
theorem x9addYes {b w : Nat} {v u : Int32} {M M' : mM} (h : SP_X9_addYes b w v u M M') (hv : 0 ≤ v.toInt ∧ v.toInt ≤ 191) : M' = up M (40, b, w) v.toInt.toNat (bmp (M.1 (40, b, w) v.toInt.toNat) u) := by
  refine xE_SP_X9_addYes h ⟨(fun hs5_ h4_ j9_ h10_ z7_ e8_ z11_ h12_ z13_ h14_ j17_ h18_ M15_ hM16_ hM_ => ?_), (fun hs5_ h4_ hM_ => ?_)⟩
  · obtain rfl : j9_ = v.toInt.toNat := by omega
    obtain rfl : j17_ = v.toInt.toNat := by omega
    rw [hM_, hM16_, bmp_of h12_ h14_, e8_]
  · omega
theorem x9addNo {b w : Nat} {v : Int32} {M M' : mM} (h : SP_X9_addNo b w v M M') (hv : 0 ≤ v.toInt ∧ v.toInt ≤ 191) : M' = up M (41, b, w) v.toInt.toNat (bmp (M.1 (41, b, w) v.toInt.toNat) 1) := by
  refine xE_SP_X9_addNo h ⟨(fun hs5_ h4_ j9_ h10_ z7_ e8_ z11_ h12_ z13_ h14_ j17_ h18_ M15_ hM16_ hM_ => ?_), (fun hs5_ h4_ hM_ => ?_)⟩
  · obtain rfl : j9_ = v.toInt.toNat := by omega
    obtain rfl : j17_ = v.toInt.toNat := by omega
    rw [hM_, hM16_, bmp_of h12_ h14_, e8_]
  · omega
theorem x12more {v u : Int32} {M M' : mM} (h : SP_X12_more v u M M') : M' = up M (50, 0, 0) v.toInt.toNat (bmp (M.1 (50, 0, 0) v.toInt.toNat) u) := by
  refine xE_SP_X12_more h (fun j3_ h4_ z1_ e2_ z5_ h6_ z7_ h8_ j11_ h12_ M9_ hM10_ hM_ => ?_)
  obtain rfl : j3_ = v.toInt.toNat := by omega
  obtain rfl : j11_ = v.toInt.toNat := by omega
  rw [hM_, hM10_, bmp_of h6_ h8_, e2_]
/-- the class's inner loop -/
theorem clCi {b w : Nat} {Mz M0 : mM} {s r c : Int32} {z : Int32 × mM} (h : RCH (fun x_ y_ => ST_X10_makeClick_79b b Mz w s r x_.1 x_.2 y_.1 y_.2) ((1 : Int32), M0) z) (hc : M0.1 (9, b, w) 1 = c) (cb : 0 ≤ c.toInt ∧ c.toInt ≤ 191) (hs : 0 ≤ s.toInt ∧ s.toInt ≤ 7) (hr : 1 ≤ r.toInt ∧ r.toInt ≤ 12) (hp : ∀ j : Int, 1 ≤ j → j ≤ r.toInt → 0 ≤ onI c.toInt s.toInt j) :
    1 ≤ z.1.toInt ∧ z.1.toInt ≤ r.toInt ∧ z.2.1 (41, b, w) = noF (M0.1 (41, b, w)) c.toInt s.toInt (z.1.toInt.toNat - 1) ∧ ∀ (d : rf) (k : Nat), ¬ d = (41, b, w) → z.2.1 d k = M0.1 d k := by
  have q1 := il_1
  refine rind h (fun z => 1 ≤ z.1.toInt ∧ z.1.toInt ≤ r.toInt ∧ z.2.1 (41, b, w) = noF (M0.1 (41, b, w)) c.toInt s.toInt (z.1.toInt.toNat - 1) ∧ ∀ (d : rf) (k : Nat), ¬ d = (41, b, w) → z.2.1 d k = M0.1 d k) ⟨by dsimp only; omega, by dsimp only; omega, by dsimp only; rw [il_1]; rfl, fun _ _ _ => rfl⟩ (fun x z p st => ?_)
  obtain ⟨x1, x2⟩ := x
  obtain ⟨z1, z2⟩ := z
  (try dsimp only at p st ⊢)
  obtain ⟨p1, p2, p3, p4⟩ := p
  refine xE_ST_X10_makeClick_79b st (fun k_hv0_79 _ k_hF_79 k_h52_ k_z55_ k_e56_ k_r57_ k_hs61_ k_h60_ k_M62_ _ k_hF66_ k_hs68_ k_z69_ k_h70_ k_hq_v6_79y k_hM_ => ?_)
  have e1 : k_z55_ = c := by rw [k_e56_, p4 _ _ (by simp)]; exact hc
  have cf := cF_spec k_hs61_
  rw [e1] at cf
  have pos := hp x1.toInt p1 (by omega)
  have er : k_r57_.toInt = onI c.toInt s.toInt x1.toInt := by omega
  have ad := x9addNo k_hs68_ (by omega)
  rw [k_hq_v6_79y, k_hM_]
  refine ⟨by omega, by omega, ?_, fun d k hd => ?_⟩
  · obtain ⟨m, hm⟩ : ∃ m : Nat, x1.toInt = ((m + 1 : Nat) : Int) := ⟨x1.toInt.toNat - 1, by omega⟩
    rw [show k_z69_.toInt.toNat - 1 = m + 1 by omega, ad, up_row, p3, show x1.toInt.toNat - 1 = m by omega, er, hm]
    rfl
  · rw [ad, up_other _ _ hd]; exact p4 d k hd
/-- the class, one side -/
theorem clC {b : Nat} {v s cnt s2 cnt2 : Int32} {Mz M M' : mM} {n : Nat → Int32} (h : ST_X10_makeClick_32 b v Mz v.toInt.toNat s cnt M s2 cnt2 M') (hR : WRR b M.1 n) (hN : NW5 n) (hv : 0 ≤ v.toInt ∧ v.toInt < nWa n) :
    ∃ r : Int32, HyP n (occ b M.1) v.toInt.toNat (n (181 + 9 * v.toInt.toNat)) s r.toInt ∧ 0 ≤ r.toInt ∧ r.toInt ≤ 12 ∧ (∀ (c : rf) (k : Nat), c.1 ≠ 25 → c.1 ≠ 29 → ¬ c = (40, b, v.toInt.toNat) → ¬ c = (41, b, v.toInt.toNat) → M'.1 c k = M.1 c k) ∧
      ((r.toInt = 0 ∧ cnt2 = cnt ∧ (∀ k, M'.1 (40, b, v.toInt.toNat) k = M.1 (40, b, v.toInt.toNat) k ∧ M'.1 (41, b, v.toInt.toNat) k = M.1 (41, b, v.toInt.toNat) k)) ∨
       (0 < r.toInt ∧ cnt2 = cnt + Int32.ofInt 1 ∧ M'.1 (40, b, v.toInt.toNat) = upd (M.1 (40, b, v.toInt.toNat)) (onI (n (181 + 9 * v.toInt.toNat)).toInt s.toInt r.toInt).toNat (bmp (M.1 (40, b, v.toInt.toNat) (onI (n (181 + 9 * v.toInt.toNat)).toInt s.toInt r.toInt).toNat) 1) ∧ M'.1 (41, b, v.toInt.toNat) = noF (M.1 (41, b, v.toInt.toNat)) (n (181 + 9 * v.toInt.toNat)).toInt s.toInt (r.toInt.toNat - 1))) := by
  have nw := nWa_b hN
  have w1 := (hR.2.2.1.2 v.toInt.toNat (by omega)).1 1 (by omega)
  rw [show 180 + 9 * v.toInt.toNat + 1 = 181 + 9 * v.toInt.toNat by omega] at w1
  have cb := ((hN.1 (181 + 9 * v.toInt.toNat)).2.2.2.2.2.2.2 (by omega) (by omega)).2.1 (by omega)
  unfold ST_X10_makeClick_32 at h
  obtain ⟨hv0_32, hv1_32, hI_32, hF_32, h19_, z20_, e21_, M23_, hI26_, hF27_, r22_, hs29_, h25_, h⟩ := h
  have ez : z20_ = n (181 + 9 * v.toInt.toNat) := e21_.trans w1
  have sb : 0 ≤ s.toInt ∧ s.toInt ≤ 7 := by omega
  have Y := x10heard hs29_ hR hN hv (by rw [ez]; exact cb) sb
  rw [ez] at Y
  have k23 : ∀ (c : rf) (k : Nat), c.1 ≠ 25 → c.1 ≠ 29 → M23_.1 c k = M.1 c k := fun c k h1 h2 => hF27_ c k (fun q => by simp only [S_c_X10_heardYards, or_false] at q; omega)
  refine ⟨r22_, Y, h25_.1, h25_.2, ?_⟩
  rcases h with ⟨h30_, v6_79, hv0_79, M_79, hL_79, hI_79, hF_79, h32_, z33_, h34_, e1, e2, e3⟩ | ⟨h30_, z35_, h36_, z37_, e38_, r39_, hs43_, h42_, M44_, hI47_, hF48_, hs50_, v6_79, hv0_79, M_79, hL_79, hI_79, hF_79, h52_, z53_, h54_, e1, e2, e3⟩
  · have em : M_79 = M23_ := congrArg (fun z : Int32 × mM => z.2) (RCH_F hL_79 (fun x y q => q))
    rw [e3, em]
    exact ⟨fun c k h1 h2 _ _ => k23 c k h1 h2, Or.inl ⟨by omega, e2, fun k => ⟨k23 _ _ (by simp) (by simp), k23 _ _ (by simp) (by simp)⟩⟩⟩
  · have ps := HyP_pos Y (by omega)
    have e37 : z37_ = n (181 + 9 * v.toInt.toNat) := by rw [e38_, k23 _ _ (by simp) (by simp)]; exact w1
    have cf := cF_spec hs43_
    rw [e37] at cf
    have pos := ps.2.2 r22_.toInt (by omega) (by omega)
    have er : r39_.toInt = onI (n (181 + 9 * v.toInt.toNat)).toInt s.toInt r22_.toInt := by omega
    have ad := x9addYes hs50_ (by omega)
    have inn := clCi hL_79 (c := n (181 + 9 * v.toInt.toNat)) (by rw [ad, up_other _ _ (by simp), k23 _ _ (by simp) (by simp)]; exact w1) cb sb (by omega) ps.2.2
    (try dsimp only at inn)
    obtain ⟨i1, i2, i3, i4⟩ := inn
    have r40 : M23_.1 (40, b, v.toInt.toNat) = M.1 (40, b, v.toInt.toNat) := funext fun k => k23 _ _ (by simp) (by simp)
    have r41 : M23_.1 (41, b, v.toInt.toNat) = M.1 (41, b, v.toInt.toNat) := funext fun k => k23 _ _ (by simp) (by simp)
    rw [e3]
    refine ⟨fun c k h1 h2 h3 h4 => by rw [i4 c k h4, ad, up_other _ _ h3]; exact k23 c k h1 h2, Or.inr ⟨h30_, by rw [e2]; exact h36_, ?_, ?_⟩⟩
    · rw [funext (fun k => i4 (40, b, v.toInt.toNat) k (by simp)), ad, up_row, r40, er]
    · rw [i3, ad, up_other _ _ (by simp), r41, show v6_79.toInt.toNat = r22_.toInt.toNat by omega]
/-- the model's inner loop -/
theorem clDi {v : Int32} {Mz D0 : mM} {s r c : Int32} {z : Int32 × mM} (h : RCH (fun x_ y_ => ST_X12_clicks_55 v Mz c s r x_.1 x_.2 y_.1 y_.2) ((1 : Int32), D0) z) (hv : 0 ≤ v.toInt ∧ v.toInt ≤ 7) (cb : 0 ≤ c.toInt ∧ c.toInt ≤ 191) (hs : 0 ≤ s.toInt ∧ s.toInt ≤ 7) (hr : 0 ≤ r.toInt ∧ r.toInt ≤ 12) (hp : ∀ j : Int, 1 ≤ j → j ≤ r.toInt → 0 ≤ onI c.toInt s.toInt j) :
    1 ≤ z.1.toInt ∧ (z.1.toInt ≤ r.toInt ∨ z.1.toInt = 1) ∧ (∀ k, k < 192 → z.2.1 (50, 0, 0) (687 + 384 * v.toInt.toNat + k) = noF (fun j => D0.1 (50, 0, 0) (687 + 384 * v.toInt.toNat + j)) c.toInt s.toInt (z.1.toInt.toNat - 1) k) ∧ (∀ j, j < 687 + 384 * v.toInt.toNat ∨ 879 + 384 * v.toInt.toNat ≤ j → z.2.1 (50, 0, 0) j = D0.1 (50, 0, 0) j) ∧ ∀ (d : rf) (k : Nat), ¬ d = (50, 0, 0) → z.2.1 d k = D0.1 d k := by
  have q1 := il_1
  refine rind h (fun z => 1 ≤ z.1.toInt ∧ (z.1.toInt ≤ r.toInt ∨ z.1.toInt = 1) ∧ (∀ k, k < 192 → z.2.1 (50, 0, 0) (687 + 384 * v.toInt.toNat + k) = noF (fun j => D0.1 (50, 0, 0) (687 + 384 * v.toInt.toNat + j)) c.toInt s.toInt (z.1.toInt.toNat - 1) k) ∧ (∀ j, j < 687 + 384 * v.toInt.toNat ∨ 879 + 384 * v.toInt.toNat ≤ j → z.2.1 (50, 0, 0) j = D0.1 (50, 0, 0) j) ∧ ∀ (d : rf) (k : Nat), ¬ d = (50, 0, 0) → z.2.1 d k = D0.1 d k) ⟨by dsimp only; omega, by dsimp only; omega, fun k _ => by dsimp only; rw [il_1]; rfl, fun _ _ => rfl, fun _ _ _ => rfl⟩ (fun x z p st => ?_)
  obtain ⟨x1, x2⟩ := x
  obtain ⟨z1, z2⟩ := z
  (try dsimp only at p st ⊢)
  obtain ⟨p1, p2, p3, p4, p5⟩ := p
  refine xE_ST_X12_clicks_55 st (fun k_hv0_55 _ k_hF_55 k_h43_ k_r68_ k_hs72_ k_h71_ k_r73_ k_hs77_ k_h76_ k_M78_ _ k_hF82_ k_hs84_ k_z85_ k_h86_ k_hq_v6_55y k_hM_ => ?_)
  have on := on_spec k_h71_.1 cb hs (by omega)
  have pos := hp x1.toInt p1 (by omega)
  have ad := x12more k_hs84_
  have ob := onI_b (c := c.toInt) (s := s.toInt) (y := x1.toInt)
  have et : k_r73_.toInt.toNat = 687 + 384 * v.toInt.toNat + (onI c.toInt s.toInt x1.toInt).toNat := by omega
  rw [k_hq_v6_55y, k_hM_]
  refine ⟨by omega, by omega, fun k hk => ?_, fun j hj => ?_, fun d k hd => ?_⟩
  · obtain ⟨m, hm⟩ : ∃ m : Nat, x1.toInt = ((m + 1 : Nat) : Int) := ⟨x1.toInt.toNat - 1, by omega⟩
    rw [show k_z85_.toInt.toNat - 1 = m + 1 by omega, ad, up_row, et, p3 _ (by omega), show x1.toInt.toNat - 1 = m by omega]
    show _ = upd (noF _ c.toInt s.toInt m) (onI c.toInt s.toInt ((m + 1 : Nat) : Int)).toNat (bmp (noF _ c.toInt s.toInt m (onI c.toInt s.toInt ((m + 1 : Nat) : Int)).toNat) 1) k
    rw [← hm]
    by_cases e : k = (onI c.toInt s.toInt x1.toInt).toNat
    · rw [updE (by omega), updE e]
    · rw [updN (by omega), updN e, p3 k hk, show x1.toInt.toNat - 1 = m by omega]
  · rw [ad, up_row, updN (by omega)]; exact p4 j hj
  · rw [ad, up_other _ _ hd]; exact p5 d k hd
/-- the model, one side -/
theorem clD {b : Nat} {q : rf → Nat → Int32} {v c s cnt s2 cnt2 : Int32} {Mz D D2 : mM} (h : ST_X12_clicks_35 v Mz c s cnt D s2 cnt2 D2) (hO : OCC b q (D.1 (50, 0, 0))) (hx : ∀ w, w < 3 → ∀ i : Nat, (i : Int) < (D.1 (50, 0, 0) (345 + 50 * w)).toInt → cOK (nnU w) (D.1 (50, 0, 0) (346 + 50 * w + i))) (hv : 0 ≤ v.toInt ∧ v.toInt < nWa (D.1 (50, 0, 0))) (hc : c = D.1 (50, 0, 0) (181 + 9 * v.toInt.toNat)) (hu : (D.1 (12, 0, 0) 7).toInt = -1) :
    ∃ r : Int32, HyP (D.1 (50, 0, 0)) (occ b q) v.toInt.toNat c s r.toInt ∧ 0 ≤ r.toInt ∧ r.toInt ≤ 12 ∧ (∀ (d : rf) (k : Nat), d.1 ≠ 50 → d.1 ≠ 58 → d.1 ≠ 59 → D2.1 d k = D.1 d k) ∧ (∀ j, j < 495 + 384 * v.toInt.toNat ∨ 879 + 384 * v.toInt.toNat ≤ j → D2.1 (50, 0, 0) j = D.1 (50, 0, 0) j) ∧
      ((r.toInt = 0 ∧ cnt2 = cnt ∧ (∀ k, D2.1 (50, 0, 0) k = D.1 (50, 0, 0) k)) ∨
       (0 < r.toInt ∧ cnt2 = cnt + Int32.ofInt 1 ∧ (∀ k, k < 192 → D2.1 (50, 0, 0) (495 + 384 * v.toInt.toNat + k) = upd (fun j => D.1 (50, 0, 0) (495 + 384 * v.toInt.toNat + j)) (onI c.toInt s.toInt r.toInt).toNat (bmp (D.1 (50, 0, 0) (495 + 384 * v.toInt.toNat + (onI c.toInt s.toInt r.toInt).toNat)) 1) k ∧
          D2.1 (50, 0, 0) (687 + 384 * v.toInt.toNat + k) = noF (fun j => D.1 (50, 0, 0) (687 + 384 * v.toInt.toNat + j)) c.toInt s.toInt (r.toInt.toNat - 1) k))) := by
  unfold ST_X12_clicks_35 at h
  obtain ⟨hv0_35, hv1_35, hI_35, hF_35, h33_, M35_, hI38_, hF39_, r34_, hs41_, h37_, v6_55, hv0_55, M_55, hL_55, hI_55, hF_55, h43_, h⟩ := h
  have nw := nWa_b hI_35.2.1
  have cb := ((hI_35.2.1.1 (181 + 9 * v.toInt.toNat)).2.2.2.2.2.2.2 (by omega) (by omega)).2.1 (by omega)
  rw [← hc] at cb
  have sb : 0 ≤ s.toInt ∧ s.toInt ≤ 7 := by omega
  have Y := x12heard hs41_ hO hI_35 hx hv cb sb (Or.inr ⟨hu, by rw [hc]; rfl⟩)
  have k35 : ∀ (d : rf) (k : Nat), d.1 ≠ 58 → d.1 ≠ 59 → M35_.1 d k = D.1 d k := fun d k h1 h2 => hF39_ d k (fun q => by simp only [S_c_X12_heardFrom, or_false] at q; omega)
  have row : M35_.1 (50, 0, 0) = D.1 (50, 0, 0) := funext fun k => k35 _ _ (by simp) (by simp)
  have pz : ∀ j : Int, 1 ≤ j → j ≤ r34_.toInt → 0 ≤ onI c.toInt s.toInt j := fun j h1 h2 => (HyP_pos Y (by omega)).2.2 j h1 h2
  have inn := clDi hL_55 ⟨hv.1, by omega⟩ cb sb ⟨h37_.1, h37_.2.1⟩ pz
  (try dsimp only at inn)
  rw [row] at inn
  obtain ⟨i1, i2, i3, i4, i5⟩ := inn
  refine ⟨r34_, Y, h37_.1, h37_.2.1, ?_⟩
  rcases h with ⟨h44_, z45_, h46_, e1, e2, e3⟩ | ⟨h44_, r47_, hs51_, h50_, r52_, hs56_, h55_, M57_, hI60_, hF61_, hs63_, z64_, h65_, z66_, h67_, e1, e2, e3⟩
  · rw [e3]
    have al : ∀ k, M_55.1 (50, 0, 0) k = D.1 (50, 0, 0) k := fun k => by
      by_cases z : k < 687 + 384 * v.toInt.toNat ∨ 879 + 384 * v.toInt.toNat ≤ k
      · exact i4 k z
      · have g := i3 (k - (687 + 384 * v.toInt.toNat)) (by omega)
        rw [show v6_55.toInt.toNat - 1 = 0 by omega, show 687 + 384 * v.toInt.toNat + (k - (687 + 384 * v.toInt.toNat)) = k by omega] at g
        rw [g]
        show D.1 (50, 0, 0) (687 + 384 * v.toInt.toNat + (k - (687 + 384 * v.toInt.toNat))) = _
        rw [show 687 + 384 * v.toInt.toNat + (k - (687 + 384 * v.toInt.toNat)) = k by omega]
    exact ⟨fun d k h1 h2 h3 => by rw [i5 d k (fun z => h1 (by rw [z]))]; exact k35 d k h2 h3, fun j _ => al j, Or.inl ⟨by omega, e2, al⟩⟩
  · have on := on_spec h50_.1 cb sb (by omega)
    have pos := pz r34_.toInt (by omega) (by omega)
    have ob := onI_b (c := c.toInt) (s := s.toInt) (y := r34_.toInt)
    have ad := x12more hs63_
    have et : r52_.toInt.toNat = 495 + 384 * v.toInt.toNat + (onI c.toInt s.toInt r34_.toInt).toNat := by omega
    rw [e3]
    refine ⟨fun d k h1 h2 h3 => by rw [ad, up_other _ _ (fun z => h1 (by rw [z])), i5 d k (fun z => h1 (by rw [z]))]; exact k35 d k h2 h3, fun j hj => ?_, Or.inr ⟨h44_, by rw [e2]; exact h65_, fun k hk => ⟨?_, ?_⟩⟩⟩
    · rw [ad, up_row, updN (by omega)]; exact i4 j (by omega)
    · rw [ad, up_row, et, i4 _ (by omega)]
      by_cases e : k = (onI c.toInt s.toInt r34_.toInt).toNat
      · rw [updE (by omega), updE e]
      · rw [updN (by omega), updN e]; exact i4 _ (by omega)
    · rw [ad, up_row, updN (by omega), i3 k hk, show v6_55.toInt.toNat - 1 = r34_.toInt.toNat - 1 by omega]
theorem cl_step {b : Nat} {v c s cnt s2 cnt2 s3 cnt3 : Int32} {Mz M M' Dz D D2 : mM} (h1 : ST_X10_makeClick_32 b v Mz v.toInt.toNat s cnt M s2 cnt2 M') (h2 : ST_X12_clicks_35 v Dz c s cnt D s3 cnt3 D2) (hR : WRR b M.1 (D.1 (50, 0, 0))) (hD : InvD D) (hv : 0 ≤ v.toInt ∧ v.toInt < nWa (D.1 (50, 0, 0))) (hc : c = D.1 (50, 0, 0) (181 + 9 * v.toInt.toNat)) (hu : (D.1 (12, 0, 0) 7).toInt = -1) :
    WRR b M'.1 (D2.1 (50, 0, 0)) ∧ cnt2 = cnt3 ∧ (∀ (d : rf) (k : Nat), d.1 ≠ 50 → d.1 ≠ 58 → d.1 ≠ 59 → D2.1 d k = D.1 d k) ∧ (∀ j, j < 495 + 384 * v.toInt.toNat ∨ 879 + 384 * v.toInt.toNat ≤ j → D2.1 (50, 0, 0) j = D.1 (50, 0, 0) j) := by
  have nw := nWa_b hD.2.1
  obtain ⟨r, a1, a2, a3, a4, a5⟩ := clC h1 hR hD.2.1 hv
  obtain ⟨t, d1, d2, d3, d4, d5, d6⟩ := clD h2 hR.2.2.2.2.1 (fun w hw i hi => ((hR.2.2.2.1 w hw).2 i hi).2) hv hc hu
  rw [← hc] at a1 a5
  have wa := (hR.2.2.1.2 v.toInt.toNat (by omega)).2
  obtain rfl : r = t := i32e (HyP_uniq a1 d1)
  rcases a5 with ⟨a5, a6, a7⟩ | ⟨a5, a6, a7, a8⟩ <;> rcases d6 with ⟨d6, d7, d8⟩ | ⟨d6, d7, d8⟩
  · refine ⟨WRR_heads hR hD.2.1 (by omega) a4 d5 (fun k hk => ?_), a6.trans d7.symm, d4, d5⟩
    rw [(a7 k).1, (a7 k).2, d8, d8]; exact wa k hk
  · omega
  · omega
  · have pos := (HyP_pos a1 (by omega)).2.2 r.toInt (by omega) (by omega)
    have ob := onI_b (c := c.toInt) (s := s.toInt) (y := r.toInt)
    refine ⟨WRR_heads hR hD.2.1 (by omega) a4 d5 (fun k hk => ⟨?_, ?_⟩), a6.trans d7.symm, d4, d5⟩
    · rw [a7, (d8 k hk).1]
      by_cases e : k = (onI c.toInt s.toInt r.toInt).toNat
      · rw [updE e, updE e, (wa _ (by omega)).1]
      · rw [updN e, updN e, (wa _ hk).1]
    · rw [a8, (d8 k hk).2]
      exact noF_cong (fun j hj => (wa j hj).2) _ (fun j h1 h2 => (HyP_pos a1 (by omega)).2.2 j (by omega) (by omega)) k hk
/-- a click of both -/
theorem click_both {b : Nat} {v r t : Int32} {M M' D D2 : mM} (h1 : SP_X10_makeClick b v M r M') (h2 : SP_X12_clicks v D t D2) (hR : WRR b M.1 (D.1 (50, 0, 0))) (hD : InvD D) (hv : 0 ≤ v.toInt ∧ v.toInt < nWa (D.1 (50, 0, 0))) (hu : (D.1 (12, 0, 0) 7).toInt = -1) :
    r = t ∧ WRR b M'.1 (D2.1 (50, 0, 0)) ∧ InvD D2 ∧ (∀ (d : rf) (k : Nat), d.1 ≠ 50 → d.1 ≠ 58 → d.1 ≠ 59 → D2.1 d k = D.1 d k) ∧ (∀ j, j < 495 → j ≠ 188 + 9 * v.toInt.toNat → D2.1 (50, 0, 0) j = D.1 (50, 0, 0) j) := by
  have nw := nWa_b hD.2.1
  have q0 := il_0
  refine xE_SP_X12_clicks h2 (fun d_r1_ d_hs5_ d_h4_ d_z6_ d_h7_ d_j10_ d_h11_ d_z8_ d_e9_ d_h12_ d_r13_ d_hs17_ d_h16_ d_z18_ d_h19_ d_j22_ d_h23_ d_z20_ d_e21_ d_z24_ d_h25_ d_j28_ d_h29_ d_M26_ d_hM27_ d_v4_35 d_hv0_35 d_hv1_35 d_v3_35 d_M_35 d_hL_35 d_hI_35 d_hF_35 d_h33_ d_hr_ d_hM_ => ?_)
  obtain rfl : d_j10_ = 181 + 9 * v.toInt.toNat := by omega
  obtain rfl : d_j22_ = 188 + 9 * v.toInt.toNat := by omega
  obtain rfl : d_j28_ = 188 + 9 * v.toInt.toNat := by omega
  have hw := hR.2.2.1.1
  refine xE_SP_X10_makeClick h1 ⟨(fun hs5_ h4_ j7_ h8_ h9_ z10_ e11_ z12_ h13_ M14_ hM15_ v4_32 hv0_32 hv1_32 v3_32 M_32 hL_32 _ hF_32 h19_ hr_ hM_ => ?_), (fun hs5_ hr_ hM_ => ?_)⟩
  · obtain rfl : j7_ = v.toInt.toNat := by omega
    have c8 := (hR.2.2.1.2 v.toInt.toNat (by omega)).1 8 (by omega)
    rw [show 180 + 9 * v.toInt.toNat + 8 = 188 + 9 * v.toInt.toNat by omega] at c8
    have ez : z12_ = d_z24_ := by rw [h13_, d_h25_, e11_, d_e21_, c8]
    have R0 := WRR_wf (f := 8) (x := z12_) hR hD.2.1 (w := v.toInt.toNat) (by omega) (by omega)
    rw [← hM15_, show 180 + 9 * v.toInt.toNat + 8 = 188 + 9 * v.toInt.toNat by omega, ez, ← d_hM27_] at R0
    have row : ∀ j, ¬ j = 188 + 9 * v.toInt.toNat → d_M26_.1 (50, 0, 0) j = D.1 (50, 0, 0) j := fun j hj => by rw [d_hM27_, up_row, updN hj]
    have hz8 : d_z8_ = d_M26_.1 (50, 0, 0) (181 + 9 * v.toInt.toNat) := by rw [row _ (by omega)]; exact d_e9_
    have L := lock (fun x : Int32 × Int32 × mM => x.1.toInt) (fun y : Int32 × Int32 × mM => y.1.toInt) (fun x y => WRR b x.2.2.1 (y.2.2.1 (50, 0, 0)) ∧ x.2.1 = y.2.1 ∧ (∀ (d : rf) (k : Nat), d.1 ≠ 50 → d.1 ≠ 58 → d.1 ≠ 59 → y.2.2.1 d k = d_M26_.1 d k) ∧ (∀ j, j < 495 + 384 * v.toInt.toNat ∨ 879 + 384 * v.toInt.toNat ≤ j → y.2.2.1 (50, 0, 0) j = d_M26_.1 (50, 0, 0) j)) 8 hL_32 d_hL_35
      (fun x z st => by
        (try dsimp only at st ⊢)
        refine xE_ST_X10_makeClick_32 st (fun s_hv0_32 s_hv1_32 _ s_hF_32 s_h19_ s_z20_ s_e21_ s_M23_ _ s_hF27_ s_r22_ s_hs29_ s_h25_ => ⟨(fun s_h30_ s_v6_79 s_hv0_79 s_M_79 s_hL_79 _ s_hF_79 s_h32_ s_z33_ s_h34_ s_hq_v4_32y s_hq_v3_32y s_hM_ => ?_), (fun s_h30_ s_z35_ s_h36_ s_z37_ s_e38_ s_r39_ s_hs43_ s_h42_ s_M44_ _ s_hF48_ s_hs50_ s_v6_79 s_hv0_79 s_M_79 s_hL_79 _ s_hF_79 s_h52_ s_z53_ s_h54_ s_hq_v4_32y s_hq_v3_32y s_hM_ => ?_)⟩)
        all_goals (rw [s_hq_v4_32y]; omega))
      (fun x z st => by
        (try dsimp only at st ⊢)
        refine xE_ST_X12_clicks_35 st (fun s_hv0_35 s_hv1_35 _ s_hF_35 s_h33_ s_M35_ _ s_hF39_ s_r34_ s_hs41_ s_h37_ s_v6_55 s_hv0_55 s_M_55 s_hL_55 _ s_hF_55 s_h43_ => ⟨(fun s_h44_ s_z45_ s_h46_ s_hq_v4_35y s_hq_v3_35y s_hM_ => ?_), (fun s_h44_ s_r47_ s_hs51_ s_h50_ s_r52_ s_hs56_ s_h55_ s_M57_ _ s_hF61_ s_hs63_ s_z64_ s_h65_ s_z66_ s_h67_ s_hq_v4_35y s_hq_v3_35y s_hM_ => ?_)⟩)
        all_goals (rw [s_hq_v4_35y]; omega))
      ⟨R0, rfl, fun _ _ _ _ _ => rfl, fun _ _ => rfl⟩ rfl h19_ d_h33_
      (fun x z y w rr ee s1 s2 => by
        obtain ⟨x1, x2, x3⟩ := x
        obtain ⟨y1, y2, y3⟩ := y
        obtain ⟨z1, z2, z3⟩ := z
        obtain ⟨w1, w2, w3⟩ := w
        (try dsimp only at rr ee s1 s2 ⊢)
        obtain ⟨r1, r2, r3, r4⟩ := rr
        obtain rfl : x1 = y1 := i32e ee
        subst r2
        have iy : InvD y3 := by
          unfold ST_X12_clicks_35 at s2
          exact s2.2.2.1
        have cs := cl_step s1 s2 r1 iy (by unfold nWa; rw [r4 2 (by omega), row 2 (by omega)]; exact hv) (by rw [r4 _ (by omega)]; exact hz8) (by rw [r3 _ _ (by simp) (by simp) (by simp), d_hM27_, up_other _ _ (by simp)]; exact hu)
        exact ⟨cs.1, cs.2.1, fun d k a1 a2 a3 => (cs.2.2.1 d k a1 a2 a3).trans (r3 d k a1 a2 a3), fun j hj => (cs.2.2.2 j hj).trans (r4 j hj)⟩)
    (try dsimp only at L)
    obtain ⟨l1, l2, l3, l4⟩ := L
    rw [hr_, hM_, d_hr_, d_hM_]
    refine ⟨l2, l1, d_hI_35, fun d k a1 a2 a3 => ?_, fun j h1 h2 => ?_⟩
    · rw [l3 d k a1 a2 a3, d_hM27_, up_other _ _ (fun z => a1 (by rw [z]))]
    · rw [l4 j (by omega), row j h2]
  · have := x10has hs5_
    unfold nWa at hv nw
    have := eT hw
    omega
end
section
/-! habits -/
theorem xor4_neg (a : Int32) : 0 ≤ (a ^^^ (4 : Int32)).toInt ↔ 0 ≤ a.toInt := by
  have h1 : (a ^^^ (4 : Int32)).toInt = (a.toBitVec ^^^ (4#32)).toInt := rfl
  have h2 : a.toInt = a.toBitVec.toInt := rfl
  have m1 := BitVec.msb_eq_toInt (x := a.toBitVec ^^^ (4#32))
  have m2 := BitVec.msb_eq_toInt (x := a.toBitVec)
  rw [BitVec.msb_xor, show (4#32).msb = false by decide, Bool.xor_false, m2] at m1
  have m3 := decide_eq_decide.mp m1
  rw [h1, h2]
  omega
theorem fm_and (a : Int32) : fmX a = a &&& (3 : Int32) := by
  have i4 : (4 : Int32).toInt = 4 := by decide
  have i0 := il_0
  have rg := rngI a
  refine i32e ?_
  rw [and3]
  have hd : (a / (4 : Int32)).toInt = a.toInt.tdiv 4 := by rw [Int32.toInt_div_of_ne_right a 4 (by first | decide | simp | (dsimp only; omega)), i4]
  have td : a.toInt.tdiv 4 = (if 0 ≤ a.toInt then a.toInt / 4 else -((-a.toInt) / 4)) := by
    split
    · rename_i h; exact Int.tdiv_eq_ediv_of_nonneg h
    · rename_i h
      have e : a.toInt = -(-a.toInt) := by omega
      rw [e, Int.neg_tdiv, Int.tdiv_eq_ediv_of_nonneg (by omega)]
      rw [show - - -a.toInt = -a.toInt by omega]
  rw [td] at hd
  have hr : (a - a / (4 : Int32) * (4 : Int32)).toInt = a.toInt - (a / (4 : Int32)).toInt * 4 := by
    have m : (a / (4 : Int32) * (4 : Int32)).toInt = (a / (4 : Int32)).toInt * 4 := mulI rfl i4 (by rw [hd]; split <;> omega) (by rw [hd]; split <;> omega)
    exact subI rfl m (by rw [hd]; split <;> omega) (by rw [hd]; split <;> omega)
  have x4 := xor4_neg a
  unfold fmX
  by_cases h1 : (0 : Int32) ≤ a ^^^ 4
  · rw [if_pos h1, hr, hd]
    have := Int32.le_iff_toInt_le.mp h1
    rw [if_pos (by omega)]; omega
  · rw [if_neg h1]
    have h2 : ¬ 0 ≤ a.toInt := fun q => h1 (Int32.le_iff_toInt_le.mpr (by rw [i0]; exact x4.mpr q))
    rw [if_neg h2] at hd
    by_cases h3 : a - a / 4 * 4 = 0
    · rw [if_pos h3]
      have := eT h3
      rw [this, i0]
      rw [hr] at this
      omega
    · rw [if_neg h3]
      have h4 : ¬ (a - a / (4 : Int32) * (4 : Int32)).toInt = 0 := fun q => h3 (i32e (by rw [q, i0]))
      rw [addI hr i4 (by omega) (by omega)]
      rw [hr] at h4
      omega
def heldS (y n : Int) : Int := if n < y then 2 else if y < n then 1 else 0
theorem x9held {b w : Nat} {v : Int32} {M : mM} {r : Int32} (h : SP_X9_held b w v M r) : ((0 ≤ v.toInt ∧ v.toInt ≤ 191) ∧ r.toInt = heldS (M.1 (40, b, w) v.toInt.toNat).toInt (M.1 (41, b, w) v.toInt.toNat).toInt) ∨ (¬ (0 ≤ v.toInt ∧ v.toInt ≤ 191) ∧ r.toInt = 0) := by
  have q0 := il_0
  have q1 := il_1
  have q2 : (2 : Int32).toInt = 2 := by decide
  unfold heldS
  refine xE_SP_X9_held h ⟨(fun hs5_ h4_ j9_ h10_ z7_ e8_ j13_ h14_ z11_ e12_ => ⟨(fun h15_ j18_ h19_ z16_ e17_ j22_ h23_ z20_ e21_ => ⟨(fun h24_ hr_ => ?_), (fun h24_ hr_ => ?_)⟩), (fun h15_ hr_ => ?_)⟩), (fun hs5_ h4_ hr_ => ?_)⟩
  · obtain rfl : j9_ = v.toInt.toNat := by omega
    obtain rfl : j13_ = v.toInt.toNat := by omega
    obtain rfl : j18_ = v.toInt.toNat := by omega
    obtain rfl : j22_ = v.toInt.toNat := by omega
    have y1 := eT e8_; have y2 := eT e12_; have y3 := eT e17_; have y4 := eT e21_; have y5 := eT hr_
    left
    refine ⟨h4_, ?_⟩
    repeat' split
    all_goals omega
  · obtain rfl : j9_ = v.toInt.toNat := by omega
    obtain rfl : j13_ = v.toInt.toNat := by omega
    obtain rfl : j18_ = v.toInt.toNat := by omega
    obtain rfl : j22_ = v.toInt.toNat := by omega
    have y1 := eT e8_; have y2 := eT e12_; have y3 := eT e17_; have y4 := eT e21_; have y5 := eT hr_
    left
    refine ⟨h4_, ?_⟩
    repeat' split
    all_goals omega
  · obtain rfl : j9_ = v.toInt.toNat := by omega
    obtain rfl : j13_ = v.toInt.toNat := by omega
    have y1 := eT e8_; have y2 := eT e12_; have y5 := eT hr_
    left
    refine ⟨h4_, ?_⟩
    repeat' split
    all_goals omega
  · have y5 := eT hr_
    right
    exact ⟨h4_, by omega⟩
def HdS (n : Nat → Int32) (w : Nat) (x : Int) : Int := heldS (n (495 + 384 * w + x.toNat)).toInt (n (687 + 384 * w + x.toNat)).toInt
theorem x12held {v u : Int32} {M : mM} {r : Int32} (h : SP_X12_held v u M r) (hv : 0 ≤ v.toInt ∧ v.toInt ≤ 7) (hu : 0 ≤ u.toInt ∧ u.toInt ≤ 191) : r.toInt = HdS (M.1 (50, 0, 0)) v.toInt.toNat u.toInt := by
  have q0 := il_0
  have q1 := il_1
  have q2 : (2 : Int32).toInt = 2 := by decide
  unfold HdS heldS
  refine xE_SP_X12_held h (fun r1_ hs5_ h4_ j8_ h9_ z6_ e7_ r10_ hs14_ h13_ j17_ h18_ z15_ e16_ => ⟨(fun h19_ => ⟨(fun h20_ hr_ => ?_), (fun h20_ hr_ => ?_)⟩), (fun h19_ hr_ => ?_)⟩)
  all_goals
    obtain rfl : j8_ = 495 + 384 * v.toInt.toNat + u.toInt.toNat := by omega
    obtain rfl : j17_ = 687 + 384 * v.toInt.toNat + u.toInt.toNat := by omega
    have y1 := eT e7_; have y2 := eT e16_; have y5 := eT hr_
    repeat' split
    all_goals omega
/-- beyond the street it stays so -/
theorem onI_out {c s j k : Int} (hc : 0 ≤ c ∧ c ≤ 191) (hs : 0 ≤ s ∧ s ≤ 7) (hj : 1 ≤ j ∧ j ≤ k) (h : onI c s j < 0) : onI c s k < 0 := by
  unfold onI at h ⊢
  split at h
  · rename_i z; omega
  · rename_i z
    rw [if_neg ?_]
    · omega
    · obtain e | e | e | e | e | e | e | e := side8 hs
      all_goals
        subst e
        simp only [dxI, dyI] at z ⊢
        simp at z ⊢
        omega
def FullP (H : Int → Int) (c s y : Int) : Prop := (1 ≤ y ∧ y ≤ 9 ∧ (∀ j : Int, 1 ≤ j → j < y → ¬ (0 ≤ onI c s j ∧ H (onI c s j) = 2)) ∧ 0 ≤ onI c s y ∧ H (onI c s y) = 2) ∨ (y = 0 ∧ ∀ j : Int, 1 ≤ j → j ≤ 9 → ¬ (0 ≤ onI c s j ∧ H (onI c s j) = 2))
theorem FullP_uniq {H : Int → Int} {c s y z : Int} (h : FullP H c s y) (g : FullP H c s z) : y = z := by
  rcases h with h | h <;> rcases g with g | g
  · rcases Int.lt_trichotomy y z with q | q | q
    · exact absurd h.2.2.2 (g.2.2.1 y h.1 q)
    · exact q
    · exact absurd g.2.2.2 (h.2.2.1 z g.1 q)
  · exact absurd h.2.2.2 (g.2 y h.1 h.2.1)
  · exact absurd g.2.2.2 (h.2 z g.1 g.2.1)
  · rw [h.1, g.1]
theorem x9full {b w : Nat} {v : Int32} {M : mM} {r : Int32} {n : Nat → Int32} (h : SP_X9_yardsToFull b w v M r) (hv : 0 ≤ v.toInt ∧ v.toInt ≤ 7) (hc : M.1 (9, b, w) 1 = n (181 + 9 * w)) (cb : 0 ≤ (n (181 + 9 * w)).toInt ∧ (n (181 + 9 * w)).toInt ≤ 191) (hh : ∀ k, k < 192 → M.1 (40, b, w) k = n (495 + 384 * w + k) ∧ M.1 (41, b, w) k = n (687 + 384 * w + k)) : FullP (HdS n w) (n (181 + 9 * w)).toInt v.toInt r.toInt := by
  have q0 := il_0
  have q1 := il_1
  have K : ∀ {x c r0 h0 : Int32}, 1 ≤ x.toInt → x.toInt ≤ 9 → c = M.1 (9, b, w) 1 → SP_X7_cellFrom c v x M r0 → SP_X9_held b w r0 M h0 → (h0.toInt = 2 ↔ (0 ≤ onI (n (181 + 9 * w)).toInt v.toInt x.toInt ∧ HdS n w (onI (n (181 + 9 * w)).toInt v.toInt x.toInt) = 2)) := fun {x c r0 h0} h1 h2 e a d => by
    have cf := cF_spec a
    rw [e, hc] at cf
    have er : r0.toInt = onI (n (181 + 9 * w)).toInt v.toInt x.toInt := by omega
    have hd := x9held d
    have ob := onI_b (c := (n (181 + 9 * w)).toInt) (s := v.toInt) (y := x.toInt)
    rw [← er] at ob ⊢
    unfold HdS
    rcases hd with hd | hd
    · rw [(hh _ (by omega)).1, (hh _ (by omega)).2] at hd
      omega
    · omega
  have G : ∀ x : Int32, RCH (fun x_ y_ => ST_X9_yardsToFull_2 b w v M x_ y_) (1 : Int32) x → 1 ≤ x.toInt ∧ ∀ j : Int, 1 ≤ j → j < x.toInt → ¬ (0 ≤ onI (n (181 + 9 * w)).toInt v.toInt j ∧ HdS n w (onI (n (181 + 9 * w)).toInt v.toInt j) = 2) := fun x hL =>
    rind hL (fun x => 1 ≤ x.toInt ∧ ∀ j : Int, 1 ≤ j → j < x.toInt → ¬ (0 ≤ onI (n (181 + 9 * w)).toInt v.toInt j ∧ HdS n w (onI (n (181 + 9 * w)).toInt v.toInt j) = 2)) ⟨by omega, fun j h1 h2 => by omega⟩ (fun x z hp hst => by
      (try dsimp only at hp hst ⊢)
      refine xE_ST_X9_yardsToFull_2 hst (fun p_hv0_2 p_hv1_2 p_h2_ p_z3_ p_e4_ p_r5_ p_hs9_ p_h8_ p_r10_ p_hs14_ p_h15_ p_z16_ p_h17_ p_hq_v2_2y => ?_)
      have k := K p_hv0_2 p_h2_ p_e4_ p_hs9_ p_hs14_
      rw [p_hq_v2_2y]
      refine ⟨by omega, fun j h1 h2 => ?_⟩
      by_cases e : j = x.toInt
      · rw [e]; exact fun q => p_h15_ (k.mpr q)
      · exact hp.2 j h1 (by omega))
  refine xE_SP_X9_yardsToFull h (fun v2_2 hv0_2 hv1_2 hL_2 => ⟨(fun h2_ hr_ => ?_), (fun h2_ z3_ e4_ r5_ hs9_ h8_ r10_ hs14_ h15_ hr_ => ?_)⟩)
  · have g := G _ hL_2
    rw [hr_, il_0]
    exact Or.inr ⟨rfl, fun j h1 h2 => g.2 j h1 (by omega)⟩
  · have g := G _ hL_2
    have k := K hv0_2 h2_ e4_ hs9_ hs14_
    rw [hr_]
    exact Or.inl ⟨g.1, h2_, g.2, k.mp h15_⟩
theorem x12full {v u : Int32} {M : mM} {r : Int32} (h : SP_X12_fullAhead v u M r) (hv : 0 ≤ v.toInt ∧ v.toInt ≤ 7) : FullP (HdS (M.1 (50, 0, 0)) v.toInt.toNat) (M.1 (50, 0, 0) (181 + 9 * v.toInt.toNat)).toInt (u &&& (7 : Int32)).toInt r.toInt := by
  have q0 := il_0
  have q1 := il_1
  refine xE_SP_X12_fullAhead h (fun r1_ hs5_ h4_ z6_ h7_ j10_ h11_ z8_ e9_ h12_ v4_16 hv0_16 hv1_16 hL_16 => ⟨(fun h14_ hr_ => ?_), (fun h14_ z15_ h17_ h16_ r18_ hs22_ h21_ => ⟨(fun h23_ hr_ => ?_), (fun h23_ z24_ h26_ h25_ r27_ hs31_ h30_ r32_ hs36_ h35_ h37_ hr_ => ?_)⟩)⟩)
  all_goals
    obtain rfl : j10_ = 181 + 9 * v.toInt.toNat := by omega
    rw [← e9_]
    have sb : 0 ≤ (u &&& (7 : Int32)).toInt ∧ (u &&& (7 : Int32)).toInt ≤ 7 := by rw [and7]; omega
    have g := rind hL_16 (fun x => 1 ≤ x.toInt ∧ ∀ j : Int, 1 ≤ j → j < x.toInt → ¬ (0 ≤ onI z8_.toInt (u &&& (7 : Int32)).toInt j ∧ HdS (M.1 (50, 0, 0)) v.toInt.toNat (onI z8_.toInt (u &&& (7 : Int32)).toInt j) = 2)) ⟨by omega, fun j h1 h2 => by omega⟩ (fun x z hp hst => by
      (try dsimp only at hp hst ⊢)
      refine xE_ST_X12_fullAhead_16 hst (fun p_hv0_16 p_hv1_16 p_h14_ p_z15_ p_h17_ p_h16_ p_r18_ p_hs22_ p_h21_ p_h23_ p_z24_ p_h26_ p_h25_ p_r27_ p_hs31_ p_h30_ p_r32_ p_hs36_ p_h35_ p_h37_ p_z38_ p_h39_ p_hq_v4_16y => ?_)
      rw [p_h17_] at p_h21_
      rw [p_h26_] at p_h30_
      have c1 := on_spec p_h21_.1 h12_ sb (by omega)
      have c2 := on_spec p_h30_.1 h12_ sb (by omega)
      have hd := x12held p_hs36_ hv (by omega)
      rw [p_hq_v4_16y]
      refine ⟨by omega, fun j h1 h2 => ?_⟩
      by_cases e : j = x.toInt
      · rw [e, ← c2, ← hd]; exact fun q => p_h37_ q.2
      · exact hp.2 j h1 (by omega))
    (try dsimp only at g)
  · rw [hr_, il_0]
    exact Or.inr ⟨rfl, fun j h1 h2 => g.2 j h1 (by omega)⟩
  · rw [h17_] at h21_
    have c1 := on_spec h21_.1 h12_ sb (by omega)
    rw [hr_, il_0]
    refine Or.inr ⟨rfl, fun j h1 h2 q => ?_⟩
    by_cases z : j < v4_16.toInt
    · exact g.2 j h1 z q
    · have := onI_out h12_ sb (j := v4_16.toInt) (k := j) (by omega) (by omega)
      omega
  · rw [h17_] at h21_
    rw [h26_] at h30_
    have c1 := on_spec h21_.1 h12_ sb (by omega)
    have c2 := on_spec h30_.1 h12_ sb (by omega)
    have hd := x12held hs36_ hv (by omega)
    rw [hr_]
    exact Or.inl ⟨g.1, by omega, g.2, by omega, by rw [← c2, ← hd]; exact h37_⟩
end
section
/-! what a walker does by its habit -/
def hbV (f l r u t : Int32) : Nat → Int32 := fun i => if i = 0 then f else if i = 1 then l else if i = 2 then r else if i = 3 then u else t
def habS (n : Nat → Int32) (f l r u t : Int32) : Int32 := if (n 445).toInt ≤ 0 then (if f.toInt = 1 then 1 else 0) else evR n 2 (hbV f l r u t)
theorem sval5 {M M1 M2 M3 M4 M5 : mM} {c : rf} {a0 a1 a2 a3 a4 : Int32} (h1 : M1 = up M c 0 a0) (h2 : M2 = up M1 c 1 a1) (h3 : M3 = up M2 c 2 a2) (h4 : M4 = up M3 c 3 a3) (h5 : M5 = up M4 c 4 a4) : ∀ i, i < 5 → M5.1 c i = hbV a0 a1 a2 a3 a4 i := fun i hi => by
  obtain rfl | rfl | rfl | rfl | rfl : i = 0 ∨ i = 1 ∨ i = 2 ∨ i = 3 ∨ i = 4 := by omega
  · rw [zupN h5 (by simp), zupN h4 (by simp), zupN h3 (by simp), zupN h2 (by simp), zupE h1 rfl rfl]; rfl
  · rw [zupN h5 (by simp), zupN h4 (by simp), zupN h3 (by simp), zupE h2 rfl rfl]; rfl
  · rw [zupN h5 (by simp), zupN h4 (by simp), zupE h3 rfl rfl]; rfl
  · rw [zupN h5 (by simp), zupE h4 rfl rfl]; rfl
  · rw [zupE h5 rfl rfl]; rfl
theorem x2habit {b : Nat} {v u t s q : Int32} {M M' : mM} {r : Int32} {n : Nat → Int32} (h : SP_X2_habitValue b v u t s q M r M') (hT : TXR b M.1 n) (hW : WT n) : r = habS n v u t s q := by
  have q0 := il_0
  have T := hT 2 (by omega)
  simp only [show 345 + 50 * 2 = 445 by decide, show 346 + 50 * 2 = 446 by decide] at T
  unfold habS
  refine xE_SP_X2_habitValue h (fun r1_ hs5_ h4_ => ⟨(fun h6_ M7_ hM8_ M11_ hM12_ M15_ hM16_ M19_ hM20_ M23_ hM24_ _ M28_ _ hF32_ r27_ hs34_ hr_ hM_ => ?_), (fun h6_ => ⟨(fun h35_ hr_ hM_ => ?_), (fun h35_ hr_ hM_ => ?_)⟩)⟩)
  · have g := x1given hs5_
    rw [T.1] at g
    have k : ∀ (c : rf) (j : Nat), c.1 ≠ 29 → M23_.1 c j = M.1 c j := fun c j hc => by
      rw [zupR hM24_ hc, zupR hM20_ hc, zupR hM16_ hc, zupR hM12_ hc, zupR hM8_ hc]
    rw [if_neg (by omega), hr_]
    refine x1work (nn := 5) hs34_ (by omega) hW (by rw [k _ _ (by simp)]; exact T.1) (fun i hi => by rw [k _ _ (by simp)]; exact T.2 i hi) (sval5 hM8_ hM12_ hM16_ hM20_ hM24_) (by show 0 < (n 445).toInt; omega)
  · have g := x1given hs5_
    rw [T.1] at g
    rw [if_pos (by omega), if_neg h35_, hr_]
  · have g := x1given hs5_
    rw [T.1] at g
    rw [if_pos (by omega), if_pos h35_, hr_]
def HabC (b : Nat) (v : Int32) (w : Nat) (M M' : mM) : Prop := ∃ (s rf sl rl sr rr bu now r : Int32) (M2 : mM), s = M.1 (9, b, w) 2 ∧ SP_X9_yardsToFull b w s M rf ∧ sl = (s + (6 : Int32)) &&& (7 : Int32) ∧ SP_X9_yardsToFull b w sl M rl ∧ sr = (s + (2 : Int32)) &&& (7 : Int32) ∧ SP_X9_yardsToFull b w sr M rr ∧ bu = M.1 (9, b, w) 7 ∧ now = M.1 (10, b, 0) 7 ∧ FR (S_c_X2_habitValue b) M M2 ∧ SP_X2_habitValue b rf rl rr bu now M r M2 ∧
  ((¬ (fmX r).toInt = 0 ∧ ¬ (fmX r).toInt = 3 ∧ SP_X9_turn b w (fmX r) M2 M') ∨ ((fmX r).toInt = 3 ∧ SP_X9_turn b w (-2) M2 M') ∨ ((fmX r).toInt = 0 ∧ SP_X10_goOn b v M2 M'))
def clkP (now every : Int32) (kind : Int) : Prop := 0 < every.toInt ∧ (now - now / every * every).toInt = 0 ∧ undP kind 1
theorem lwC {b : Nat} {v : Int32} {M M' : mM} (h : SP_X10_letWalkerGo b v M M') (hv : 0 ≤ v.toInt ∧ v.toInt < (M.1 (10, b, 0) 6).toInt ∧ v.toInt < 8) (hk : 0 ≤ (M.1 (9, b, v.toInt.toNat) 0).toInt ∧ (M.1 (9, b, v.toInt.toNat) 0).toInt ≤ 7) :
    (¬ clkP (M.1 (10, b, 0) 7) (M.1 (9, b, v.toInt.toNat) 5) (M.1 (9, b, v.toInt.toNat) 0).toInt ∧ HabC b v v.toInt.toNat M M') ∨ (clkP (M.1 (10, b, 0) 7) (M.1 (9, b, v.toInt.toNat) 5) (M.1 (9, b, v.toInt.toNat) 0).toInt ∧ ∃ (r : Int32) (M1 : mM), SP_X10_makeClick b v M r M1 ∧ HabC b v v.toInt.toNat M1 M') := by
  have q1 := il_1
  unfold clkP
  refine xE_SP_X10_letWalkerGo h ⟨(fun hs5_ h4_ j7_ h8_ h9_ z10_ e11_ => ⟨(fun h12_ z13_ e14_ r15_ hs19_ z22_ h23_ z24_ h26_ h25_ r27_ hs31_ z34_ h35_ z36_ h38_ h37_ r39_ hs43_ z44_ e45_ z46_ e47_ M49_ _ hF53_ r48_ hs55_ z56_ z56_h => ⟨(fun h57_ => ⟨(fun h58_ M59_ _ hF63_ hs65_ hM_ => ?_), (fun h58_ M66_ _ hF70_ hs72_ hM_ => ?_)⟩), (fun h57_ M73_ _ hF77_ hs79_ hM_ => ?_)⟩), (fun h12_ z80_ e81_ z82_ h83_ => ⟨(fun h84_ z85_ e86_ r87_ hs91_ z94_ h95_ z96_ h98_ h97_ r99_ hs103_ z106_ h107_ z108_ h110_ h109_ r111_ hs115_ z116_ e117_ M121_ _ hF125_ r120_ hs127_ z128_ z128_h => ⟨(fun h129_ => ⟨(fun h130_ M131_ _ hF135_ hs137_ hM_ => ?_), (fun h130_ M138_ _ hF142_ hs144_ hM_ => ?_)⟩), (fun h129_ M145_ _ hF149_ hs151_ hM_ => ?_)⟩), (fun h84_ r152_ hs156_ h155_ => ⟨(fun h157_ z158_ e159_ r160_ hs164_ z167_ h168_ z169_ h171_ h170_ r172_ hs176_ z179_ h180_ z181_ h183_ h182_ r184_ hs188_ z189_ e190_ M194_ _ hF198_ r193_ hs200_ z201_ z201_h => ⟨(fun h202_ => ⟨(fun h203_ M204_ _ hF208_ hs210_ hM_ => ?_), (fun h203_ M211_ _ hF215_ hs217_ hM_ => ?_)⟩), (fun h202_ M218_ _ hF222_ hs224_ hM_ => ?_)⟩), (fun h157_ M226_ _ hF230_ r225_ hs232_ z233_ e234_ r235_ hs239_ z242_ h243_ z244_ h246_ h245_ r247_ hs251_ z254_ h255_ z256_ h258_ h257_ r259_ hs263_ z264_ e265_ z266_ e267_ M269_ _ hF273_ r268_ hs275_ z276_ z276_h => ⟨(fun h277_ => ⟨(fun h278_ M279_ _ hF283_ hs285_ hM_ => ?_), (fun h278_ M286_ _ hF290_ hs292_ hM_ => ?_)⟩), (fun h277_ M293_ _ hF297_ hs299_ hM_ => ?_)⟩)⟩)⟩)⟩), (fun hs5_ hM_ => ?_)⟩
  · obtain rfl : j7_ = v.toInt.toNat := by omega
    refine Or.inl ⟨fun q => by rw [← e11_] at q; omega, ?_⟩
    exact ⟨z13_, r15_, z24_, r27_, z36_, r39_, z44_, z46_, r48_, M49_, e14_, hs19_, by rw [h26_, h23_], hs31_, by rw [h38_, h35_], hs43_, e45_, e47_, hF53_, hs55_, Or.inl ⟨(by rw [← z56_h]; exact h57_), (by rw [← z56_h]; exact h58_), by rw [hM_, ← z56_h]; exact hs65_⟩⟩
  · obtain rfl : j7_ = v.toInt.toNat := by omega
    refine Or.inl ⟨fun q => by rw [← e11_] at q; omega, ?_⟩
    exact ⟨z13_, r15_, z24_, r27_, z36_, r39_, z44_, z46_, r48_, M49_, e14_, hs19_, by rw [h26_, h23_], hs31_, by rw [h38_, h35_], hs43_, e45_, e47_, hF53_, hs55_, Or.inr (Or.inl ⟨(by rw [← z56_h]; exact h58_), by rw [hM_]; exact hs72_⟩)⟩
  · obtain rfl : j7_ = v.toInt.toNat := by omega
    refine Or.inl ⟨fun q => by rw [← e11_] at q; omega, ?_⟩
    exact ⟨z13_, r15_, z24_, r27_, z36_, r39_, z44_, z46_, r48_, M49_, e14_, hs19_, by rw [h26_, h23_], hs31_, by rw [h38_, h35_], hs43_, e45_, e47_, hF53_, hs55_, Or.inr (Or.inr ⟨(by rw [← z56_h]; exact h57_), by rw [hM_]; exact hs79_⟩)⟩
  · obtain rfl : j7_ = v.toInt.toNat := by omega
    refine Or.inl ⟨fun q => h84_ (by rw [h83_, e81_, e11_]; exact q.2.1), ?_⟩
    exact ⟨z85_, r87_, z96_, r99_, z108_, r111_, z116_, z80_, r120_, M121_, e86_, hs91_, by rw [h98_, h95_], hs103_, by rw [h110_, h107_], hs115_, e117_, e81_, hF125_, hs127_, Or.inl ⟨(by rw [← z128_h]; exact h129_), (by rw [← z128_h]; exact h130_), by rw [hM_, ← z128_h]; exact hs137_⟩⟩
  · obtain rfl : j7_ = v.toInt.toNat := by omega
    refine Or.inl ⟨fun q => h84_ (by rw [h83_, e81_, e11_]; exact q.2.1), ?_⟩
    exact ⟨z85_, r87_, z96_, r99_, z108_, r111_, z116_, z80_, r120_, M121_, e86_, hs91_, by rw [h98_, h95_], hs103_, by rw [h110_, h107_], hs115_, e117_, e81_, hF125_, hs127_, Or.inr (Or.inl ⟨(by rw [← z128_h]; exact h130_), by rw [hM_]; exact hs144_⟩)⟩
  · obtain rfl : j7_ = v.toInt.toNat := by omega
    refine Or.inl ⟨fun q => h84_ (by rw [h83_, e81_, e11_]; exact q.2.1), ?_⟩
    exact ⟨z85_, r87_, z96_, r99_, z108_, r111_, z116_, z80_, r120_, M121_, e86_, hs91_, by rw [h98_, h95_], hs103_, by rw [h110_, h107_], hs115_, e117_, e81_, hF125_, hs127_, Or.inr (Or.inr ⟨(by rw [← z128_h]; exact h129_), by rw [hM_]; exact hs151_⟩)⟩
  · obtain rfl : j7_ = v.toInt.toNat := by omega
    have un := x9isOf hs156_ hk
    rw [q1] at un
    refine Or.inl ⟨fun q => (un.resolve_left (fun z => by omega)).2 q.2.2, ?_⟩
    exact ⟨z158_, r160_, z169_, r172_, z181_, r184_, z189_, z80_, r193_, M194_, e159_, hs164_, by rw [h171_, h168_], hs176_, by rw [h183_, h180_], hs188_, e190_, e81_, hF198_, hs200_, Or.inl ⟨(by rw [← z201_h]; exact h202_), (by rw [← z201_h]; exact h203_), by rw [hM_, ← z201_h]; exact hs210_⟩⟩
  · obtain rfl : j7_ = v.toInt.toNat := by omega
    have un := x9isOf hs156_ hk
    rw [q1] at un
    refine Or.inl ⟨fun q => (un.resolve_left (fun z => by omega)).2 q.2.2, ?_⟩
    exact ⟨z158_, r160_, z169_, r172_, z181_, r184_, z189_, z80_, r193_, M194_, e159_, hs164_, by rw [h171_, h168_], hs176_, by rw [h183_, h180_], hs188_, e190_, e81_, hF198_, hs200_, Or.inr (Or.inl ⟨(by rw [← z201_h]; exact h203_), by rw [hM_]; exact hs217_⟩)⟩
  · obtain rfl : j7_ = v.toInt.toNat := by omega
    have un := x9isOf hs156_ hk
    rw [q1] at un
    refine Or.inl ⟨fun q => (un.resolve_left (fun z => by omega)).2 q.2.2, ?_⟩
    exact ⟨z158_, r160_, z169_, r172_, z181_, r184_, z189_, z80_, r193_, M194_, e159_, hs164_, by rw [h171_, h168_], hs176_, by rw [h183_, h180_], hs188_, e190_, e81_, hF198_, hs200_, Or.inr (Or.inr ⟨(by rw [← z201_h]; exact h202_), by rw [hM_]; exact hs224_⟩)⟩
  · obtain rfl : j7_ = v.toInt.toNat := by omega
    have un := x9isOf hs156_ hk
    rw [q1] at un
    refine Or.inr ⟨⟨by rw [← e11_]; omega, by rw [← e11_, ← e81_, ← h83_]; assumption, (un.resolve_right (fun z => by omega)).2⟩, r225_, M226_, hs232_, ?_⟩
    exact ⟨z233_, r235_, z244_, r247_, z256_, r259_, z264_, z266_, r268_, M269_, e234_, hs239_, by rw [h246_, h243_], hs251_, by rw [h258_, h255_], hs263_, e265_, e267_, hF273_, hs275_, Or.inl ⟨(by rw [← z276_h]; exact h277_), (by rw [← z276_h]; exact h278_), by rw [hM_, ← z276_h]; exact hs285_⟩⟩
  · obtain rfl : j7_ = v.toInt.toNat := by omega
    have un := x9isOf hs156_ hk
    rw [q1] at un
    refine Or.inr ⟨⟨by rw [← e11_]; omega, by rw [← e11_, ← e81_, ← h83_]; assumption, (un.resolve_right (fun z => by omega)).2⟩, r225_, M226_, hs232_, ?_⟩
    exact ⟨z233_, r235_, z244_, r247_, z256_, r259_, z264_, z266_, r268_, M269_, e234_, hs239_, by rw [h246_, h243_], hs251_, by rw [h258_, h255_], hs263_, e265_, e267_, hF273_, hs275_, Or.inr (Or.inl ⟨(by rw [← z276_h]; exact h278_), by rw [hM_]; exact hs292_⟩)⟩
  · obtain rfl : j7_ = v.toInt.toNat := by omega
    have un := x9isOf hs156_ hk
    rw [q1] at un
    refine Or.inr ⟨⟨by rw [← e11_]; omega, by rw [← e11_, ← e81_, ← h83_]; assumption, (un.resolve_right (fun z => by omega)).2⟩, r225_, M226_, hs232_, ?_⟩
    exact ⟨z233_, r235_, z244_, r247_, z256_, r259_, z264_, z266_, r268_, M269_, e234_, hs239_, by rw [h246_, h243_], hs251_, by rw [h258_, h255_], hs263_, e265_, e267_, hF273_, hs275_, Or.inr (Or.inr ⟨(by rw [← z276_h]; exact h277_), by rw [hM_]; exact hs299_⟩)⟩
  · have q0 := il_0; have := x10has hs5_; omega
/-- the model's -/
def trD (s r : Int32) : Int32 := if r.toInt = 1 then (s + (1 : Int32)) &&& (7 : Int32) else if r.toInt = 2 then (s + (2 : Int32)) &&& (7 : Int32) else (s + (6 : Int32)) &&& (7 : Int32)
def HabD (v : Int32) (M M' : mM) : Prop := ∃ (r : Int32) (M2 : mM), InvD M2 ∧ FR S_c_X12_habitOf M M2 ∧ SP_X12_habitOf v M r M2 ∧ ((¬ r.toInt = 0 ∧ M' = up M2 (50, 0, 0) (182 + 9 * v.toInt.toNat) (trD (M2.1 (50, 0, 0) (182 + 9 * v.toInt.toNat)) r)) ∨ (r.toInt = 0 ∧ SP_X12_goesOn v M2 M'))
theorem wgD {v : Int32} {M M' : mM} (h : SP_X12_walkerGoes v M M') (hv : 0 ≤ v.toInt ∧ v.toInt ≤ 7) :
    ((M.1 (50, 0, 0) (186 + 9 * v.toInt.toNat)).toInt = 0 ∧ M' = M) ∨ (¬ (M.1 (50, 0, 0) (186 + 9 * v.toInt.toNat)).toInt = 0 ∧
      ((¬ clkP (M.1 (50, 0, 0) 0) (M.1 (50, 0, 0) (185 + 9 * v.toInt.toNat)) (M.1 (50, 0, 0) (180 + 9 * v.toInt.toNat)).toInt ∧ HabD v M M') ∨ (clkP (M.1 (50, 0, 0) 0) (M.1 (50, 0, 0) (185 + 9 * v.toInt.toNat)) (M.1 (50, 0, 0) (180 + 9 * v.toInt.toNat)).toInt ∧ ∃ (r : Int32) (M1 : mM), InvD M1 ∧ SP_X12_clicks v M r M1 ∧ HabD v M1 M'))) := by
  have q1 := il_1
  have i1 : (1 : Int32).toInt = 1 := by decide
  have i2 : (2 : Int32).toInt = 2 := by decide
  have i6 : (6 : Int32).toInt = 6 := by decide
  have T1 : ∀ {s r a x : Int32}, 0 ≤ s.toInt ∧ s.toInt ≤ 7 → a.toInt = s.toInt + 1 → x = a &&& (7 : Int32) → r.toInt = 1 → x = trD s r := fun {s r a x} hs ha hx hr => by
    unfold trD
    rw [if_pos hr, hx, show a = s + (1 : Int32) from i32e (by rw [ha, addI (x := s) rfl i1 (by omega) (by omega)])]
  have T2 : ∀ {s r a x : Int32}, 0 ≤ s.toInt ∧ s.toInt ≤ 7 → a.toInt = s.toInt + 2 → x = a &&& (7 : Int32) → r.toInt = 2 → x = trD s r := fun {s r a x} hs ha hx hr => by
    unfold trD
    rw [if_neg (by omega), if_pos hr, hx, show a = s + (2 : Int32) from i32e (by rw [ha, addI (x := s) rfl i2 (by omega) (by omega)])]
  have T6 : ∀ {s r a x : Int32}, 0 ≤ s.toInt ∧ s.toInt ≤ 7 → a.toInt = s.toInt + 6 → x = a &&& (7 : Int32) → ¬ r.toInt = 1 → ¬ r.toInt = 2 → x = trD s r := fun {s r a x} hs ha hx hr hr2 => by
    unfold trD
    rw [if_neg hr, if_neg hr2, hx, show a = s + (6 : Int32) from i32e (by rw [ha, addI (x := s) rfl i6 (by omega) (by omega)])]
  unfold clkP
  refine xE_SP_X12_walkerGoes h (fun r1_ hs5_ h4_ z6_ h7_ j10_ h11_ z8_ e9_ z12_ h13_ j16_ h17_ z14_ e15_ => ?_)
  obtain rfl : j10_ = 185 + 9 * v.toInt.toNat := by omega
  obtain rfl : j16_ = 186 + 9 * v.toInt.toNat := by omega
  refine ⟨(fun h18_ => ⟨(fun h19_ M21_ hI24_ hF25_ r20_ hs27_ => ⟨(fun h28_ z29_ h30_ z31_ h32_ j35_ h36_ z33_ e34_ h37_ => ⟨(fun h38_ => ⟨(fun h39_ z40_ h41_ z42_ h44_ h43_ j47_ h48_ M45_ hM46_ hM_ => ?_), (fun h39_ z51_ h52_ z53_ h55_ h54_ j58_ h59_ M56_ hM57_ hM_ => ?_)⟩), (fun h38_ z62_ h63_ z64_ h66_ h65_ j69_ h70_ M67_ hM68_ hM_ => ?_)⟩), (fun h28_ M73_ hI76_ hF77_ hs79_ hM_ => ?_)⟩), (fun h19_ z80_ e81_ z82_ h83_ => ⟨(fun h84_ M86_ hI89_ hF90_ r85_ hs92_ => ⟨(fun h93_ z94_ h95_ z96_ h97_ j100_ h101_ z98_ e99_ h102_ => ⟨(fun h103_ => ⟨(fun h104_ z105_ h106_ z107_ h109_ h108_ j112_ h113_ M110_ hM111_ hM_ => ?_), (fun h104_ z116_ h117_ z118_ h120_ h119_ j123_ h124_ M121_ hM122_ hM_ => ?_)⟩), (fun h103_ z127_ h128_ z129_ h131_ h130_ j134_ h135_ M132_ hM133_ hM_ => ?_)⟩), (fun h93_ M138_ hI141_ hF142_ hs144_ hM_ => ?_)⟩), (fun h84_ r145_ hs149_ h148_ r150_ hs154_ h153_ => ⟨(fun h155_ M157_ hI160_ hF161_ r156_ hs163_ => ⟨(fun h164_ z165_ h166_ z167_ h168_ j171_ h172_ z169_ e170_ h173_ => ⟨(fun h174_ => ⟨(fun h175_ z176_ h177_ z178_ h180_ h179_ j183_ h184_ M181_ hM182_ hM_ => ?_), (fun h175_ z187_ h188_ z189_ h191_ h190_ j194_ h195_ M192_ hM193_ hM_ => ?_)⟩), (fun h174_ z198_ h199_ z200_ h202_ h201_ j205_ h206_ M203_ hM204_ hM_ => ?_)⟩), (fun h164_ M209_ hI212_ hF213_ hs215_ hM_ => ?_)⟩), (fun h155_ M217_ hI220_ hF221_ r216_ hs223_ M225_ hI228_ hF229_ r224_ hs231_ => ⟨(fun h232_ z233_ h234_ z235_ h236_ j239_ h240_ z237_ e238_ h241_ => ⟨(fun h242_ => ⟨(fun h243_ z244_ h245_ z246_ h248_ h247_ j251_ h252_ M249_ hM250_ hM_ => ?_), (fun h243_ z255_ h256_ z257_ h259_ h258_ j262_ h263_ M260_ hM261_ hM_ => ?_)⟩), (fun h242_ z266_ h267_ z268_ h270_ h269_ j273_ h274_ M271_ hM272_ hM_ => ?_)⟩), (fun h232_ M277_ hI280_ hF281_ hs283_ hM_ => ?_)⟩)⟩)⟩)⟩), (fun h18_ hM_ => ?_)⟩
  all_goals
    rw [← e9_, ← e15_]
  · skip
    obtain rfl : j35_ = 182 + 9 * v.toInt.toNat := by omega
    obtain rfl : j47_ = 182 + 9 * v.toInt.toNat := by omega
    refine Or.inr ⟨h18_, Or.inl ⟨fun q => by omega, ?_⟩⟩
    exact ⟨r20_, M21_, hI24_, hF25_, hs27_, Or.inl ⟨h28_, by rw [hM_, hM46_, ← e34_, T6 h37_ h41_ h44_ h38_ h39_]⟩⟩
  · skip
    obtain rfl : j35_ = 182 + 9 * v.toInt.toNat := by omega
    obtain rfl : j58_ = 182 + 9 * v.toInt.toNat := by omega
    refine Or.inr ⟨h18_, Or.inl ⟨fun q => by omega, ?_⟩⟩
    exact ⟨r20_, M21_, hI24_, hF25_, hs27_, Or.inl ⟨h28_, by rw [hM_, hM57_, ← e34_, T2 h37_ h52_ h55_ h39_]⟩⟩
  · skip
    obtain rfl : j35_ = 182 + 9 * v.toInt.toNat := by omega
    obtain rfl : j69_ = 182 + 9 * v.toInt.toNat := by omega
    refine Or.inr ⟨h18_, Or.inl ⟨fun q => by omega, ?_⟩⟩
    exact ⟨r20_, M21_, hI24_, hF25_, hs27_, Or.inl ⟨h28_, by rw [hM_, hM68_, ← e34_, T1 h37_ h63_ h66_ h38_]⟩⟩
  · skip
    refine Or.inr ⟨h18_, Or.inl ⟨fun q => by omega, ?_⟩⟩
    exact ⟨r20_, M21_, hI24_, hF25_, hs27_, Or.inr ⟨h28_, by rw [hM_]; exact hs79_⟩⟩
  · skip
    obtain rfl : j100_ = 182 + 9 * v.toInt.toNat := by omega
    obtain rfl : j112_ = 182 + 9 * v.toInt.toNat := by omega
    refine Or.inr ⟨h18_, Or.inl ⟨fun q => h84_ (by rw [h83_, e81_]; exact q.2.1), ?_⟩⟩
    exact ⟨r85_, M86_, hI89_, hF90_, hs92_, Or.inl ⟨h93_, by rw [hM_, hM111_, ← e99_, T6 h102_ h106_ h109_ h103_ h104_]⟩⟩
  · skip
    obtain rfl : j100_ = 182 + 9 * v.toInt.toNat := by omega
    obtain rfl : j123_ = 182 + 9 * v.toInt.toNat := by omega
    refine Or.inr ⟨h18_, Or.inl ⟨fun q => h84_ (by rw [h83_, e81_]; exact q.2.1), ?_⟩⟩
    exact ⟨r85_, M86_, hI89_, hF90_, hs92_, Or.inl ⟨h93_, by rw [hM_, hM122_, ← e99_, T2 h102_ h117_ h120_ h104_]⟩⟩
  · skip
    obtain rfl : j100_ = 182 + 9 * v.toInt.toNat := by omega
    obtain rfl : j134_ = 182 + 9 * v.toInt.toNat := by omega
    refine Or.inr ⟨h18_, Or.inl ⟨fun q => h84_ (by rw [h83_, e81_]; exact q.2.1), ?_⟩⟩
    exact ⟨r85_, M86_, hI89_, hF90_, hs92_, Or.inl ⟨h93_, by rw [hM_, hM133_, ← e99_, T1 h102_ h128_ h131_ h103_]⟩⟩
  · skip
    refine Or.inr ⟨h18_, Or.inl ⟨fun q => h84_ (by rw [h83_, e81_]; exact q.2.1), ?_⟩⟩
    exact ⟨r85_, M86_, hI89_, hF90_, hs92_, Or.inr ⟨h93_, by rw [hM_]; exact hs144_⟩⟩
  · have kd := x12kindOf hs149_ hv
    have un := x12isUnder hs154_ h148_
    rw [q1, kd] at un
    obtain rfl : j171_ = 182 + 9 * v.toInt.toNat := by omega
    obtain rfl : j183_ = 182 + 9 * v.toInt.toNat := by omega
    refine Or.inr ⟨h18_, Or.inl ⟨fun q => (un.resolve_left (fun z => by omega)).2 q.2.2, ?_⟩⟩
    exact ⟨r156_, M157_, hI160_, hF161_, hs163_, Or.inl ⟨h164_, by rw [hM_, hM182_, ← e170_, T6 h173_ h177_ h180_ h174_ h175_]⟩⟩
  · have kd := x12kindOf hs149_ hv
    have un := x12isUnder hs154_ h148_
    rw [q1, kd] at un
    obtain rfl : j171_ = 182 + 9 * v.toInt.toNat := by omega
    obtain rfl : j194_ = 182 + 9 * v.toInt.toNat := by omega
    refine Or.inr ⟨h18_, Or.inl ⟨fun q => (un.resolve_left (fun z => by omega)).2 q.2.2, ?_⟩⟩
    exact ⟨r156_, M157_, hI160_, hF161_, hs163_, Or.inl ⟨h164_, by rw [hM_, hM193_, ← e170_, T2 h173_ h188_ h191_ h175_]⟩⟩
  · have kd := x12kindOf hs149_ hv
    have un := x12isUnder hs154_ h148_
    rw [q1, kd] at un
    obtain rfl : j171_ = 182 + 9 * v.toInt.toNat := by omega
    obtain rfl : j205_ = 182 + 9 * v.toInt.toNat := by omega
    refine Or.inr ⟨h18_, Or.inl ⟨fun q => (un.resolve_left (fun z => by omega)).2 q.2.2, ?_⟩⟩
    exact ⟨r156_, M157_, hI160_, hF161_, hs163_, Or.inl ⟨h164_, by rw [hM_, hM204_, ← e170_, T1 h173_ h199_ h202_ h174_]⟩⟩
  · have kd := x12kindOf hs149_ hv
    have un := x12isUnder hs154_ h148_
    rw [q1, kd] at un
    refine Or.inr ⟨h18_, Or.inl ⟨fun q => (un.resolve_left (fun z => by omega)).2 q.2.2, ?_⟩⟩
    exact ⟨r156_, M157_, hI160_, hF161_, hs163_, Or.inr ⟨h164_, by rw [hM_]; exact hs215_⟩⟩
  · have kd := x12kindOf hs149_ hv
    have un := x12isUnder hs154_ h148_
    rw [q1, kd] at un
    obtain rfl : j239_ = 182 + 9 * v.toInt.toNat := by omega
    obtain rfl : j251_ = 182 + 9 * v.toInt.toNat := by omega
    refine Or.inr ⟨h18_, Or.inr ⟨⟨by omega, by rw [← e81_, ← h83_]; assumption, (un.resolve_right (fun z => by omega)).2⟩, r216_, M217_, hI220_, hs223_, ?_⟩⟩
    exact ⟨r224_, M225_, hI228_, hF229_, hs231_, Or.inl ⟨h232_, by rw [hM_, hM250_, ← e238_, T6 h241_ h245_ h248_ h242_ h243_]⟩⟩
  · have kd := x12kindOf hs149_ hv
    have un := x12isUnder hs154_ h148_
    rw [q1, kd] at un
    obtain rfl : j239_ = 182 + 9 * v.toInt.toNat := by omega
    obtain rfl : j262_ = 182 + 9 * v.toInt.toNat := by omega
    refine Or.inr ⟨h18_, Or.inr ⟨⟨by omega, by rw [← e81_, ← h83_]; assumption, (un.resolve_right (fun z => by omega)).2⟩, r216_, M217_, hI220_, hs223_, ?_⟩⟩
    exact ⟨r224_, M225_, hI228_, hF229_, hs231_, Or.inl ⟨h232_, by rw [hM_, hM261_, ← e238_, T2 h241_ h256_ h259_ h243_]⟩⟩
  · have kd := x12kindOf hs149_ hv
    have un := x12isUnder hs154_ h148_
    rw [q1, kd] at un
    obtain rfl : j239_ = 182 + 9 * v.toInt.toNat := by omega
    obtain rfl : j273_ = 182 + 9 * v.toInt.toNat := by omega
    refine Or.inr ⟨h18_, Or.inr ⟨⟨by omega, by rw [← e81_, ← h83_]; assumption, (un.resolve_right (fun z => by omega)).2⟩, r216_, M217_, hI220_, hs223_, ?_⟩⟩
    exact ⟨r224_, M225_, hI228_, hF229_, hs231_, Or.inl ⟨h232_, by rw [hM_, hM272_, ← e238_, T1 h241_ h267_ h270_ h242_]⟩⟩
  · have kd := x12kindOf hs149_ hv
    have un := x12isUnder hs154_ h148_
    rw [q1, kd] at un
    refine Or.inr ⟨h18_, Or.inr ⟨⟨by omega, by rw [← e81_, ← h83_]; assumption, (un.resolve_right (fun z => by omega)).2⟩, r216_, M217_, hI220_, hs223_, ?_⟩⟩
    exact ⟨r224_, M225_, hI228_, hF229_, hs231_, Or.inr ⟨h232_, by rw [hM_]; exact hs283_⟩⟩
  · exact Or.inl ⟨h18_, hM_⟩
end
