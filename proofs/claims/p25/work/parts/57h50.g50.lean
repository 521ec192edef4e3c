/-! way(): the costs of both, the ways -/
theorem nb_on {c s r : Int} (hc : 0 ≤ c ∧ c ≤ 191) (hs : s = 0 ∨ s = 2 ∨ s = 4 ∨ s = 6) (h : r = onI c s 1) : (r = -1 ∧ ∀ n : Nat, ¬ nbP c.toNat s.toNat n) ∨ (0 ≤ r ∧ r ≤ 191 ∧ nbP c.toNat s.toNat r.toNat) := by
  have d0 : dxI 0 = 0 ∧ dyI 0 = -1 := by decide
  have d2 : dxI 2 = 1 ∧ dyI 2 = 0 := by decide
  have d4 : dxI 4 = 0 ∧ dyI 4 = 1 := by decide
  have d6 : dxI 6 = -1 ∧ dyI 6 = 0 := by decide
  unfold onI at h
  rcases hs with rfl | rfl | rfl | rfl
  · rw [d0.1, d0.2] at h
    split at h
    · exact Or.inr ⟨by omega, by omega, by unfold nbP; omega⟩
    · exact Or.inl ⟨h, fun n => by unfold nbP; omega⟩
  · rw [d2.1, d2.2] at h
    split at h
    · exact Or.inr ⟨by omega, by omega, by unfold nbP; omega⟩
    · exact Or.inl ⟨h, fun n => by unfold nbP; omega⟩
  · rw [d4.1, d4.2] at h
    split at h
    · exact Or.inr ⟨by omega, by omega, by unfold nbP; omega⟩
    · exact Or.inl ⟨h, fun n => by unfold nbP; omega⟩
  · rw [d6.1, d6.2] at h
    split at h
    · exact Or.inr ⟨by omega, by omega, by unfold nbP; omega⟩
    · exact Or.inl ⟨h, fun n => by unfold nbP; omega⟩
/-- how many are done -/
def cntD (d : Nat → Int32) : Nat → Nat
  | 0 => 0
  | k + 1 => cntD d k + (if (d k).toInt = 0 then 0 else 1)
theorem cntD_le (d : Nat → Int32) : ∀ k, cntD d k ≤ k
  | 0 => Nat.le_refl 0
  | k + 1 => by
    have := cntD_le d k
    show cntD d k + (if (d k).toInt = 0 then 0 else 1) ≤ k + 1
    split <;> omega
theorem cntD_all {d : Nat → Int32} : ∀ k, cntD d k = k → ∀ c, c < k → ¬ (d c).toInt = 0
  | 0, _, c, hc => absurd hc (Nat.not_lt_zero c)
  | k + 1, h, c, hc => by
    have b := cntD_le d k
    have h2 : cntD d k + (if (d k).toInt = 0 then 0 else 1) = k + 1 := h
    split at h2
    · omega
    · rename_i q
      by_cases e : c = k
      · subst e; exact q
      · exact cntD_all k (by omega) c (by omega)
theorem cntD_same {d d2 : Nat → Int32} : ∀ k, (∀ c, c < k → d2 c = d c) → cntD d2 k = cntD d k
  | 0, _ => rfl
  | k + 1, h => by
    show cntD d2 k + (if (d2 k).toInt = 0 then 0 else 1) = cntD d k + (if (d k).toInt = 0 then 0 else 1)
    rw [cntD_same k (fun c hc => h c (by omega)), h k (by omega)]
theorem cntD_0 {d : Nat → Int32} : ∀ k, (∀ c, c < k → (d c).toInt = 0) → cntD d k = 0
  | 0, _ => rfl
  | k + 1, h => by
    show cntD d k + (if (d k).toInt = 0 then 0 else 1) = 0
    rw [cntD_0 k (fun c hc => h c (by omega)), if_pos (h k (by omega))]
theorem cntD_up {d : Nat → Int32} {r : Nat} {x : Int32} (h0 : (d r).toInt = 0) (hx : ¬ x.toInt = 0) : ∀ k, r < k → cntD (upd d r x) k = cntD d k + 1
  | 0, hr => absurd hr (Nat.not_lt_zero r)
  | k + 1, hr => by
    show cntD (upd d r x) k + (if (upd d r x k).toInt = 0 then 0 else 1) = cntD d k + (if (d k).toInt = 0 then 0 else 1) + 1
    by_cases e : r = k
    · subst e
      rw [cntD_same r (fun c hc => updN (by omega)), updE rfl, if_neg hx, if_pos h0]
    · rw [cntD_up h0 hx k (by omega), updN (fun q => e q.symm)]
      omega
/-- how many are nearer -/
def cntL (f : Nat → Int32) (x : Int) : Nat → Nat
  | 0 => 0
  | k + 1 => cntL f x k + (if gq f k < x then 1 else 0)
theorem cntL_mono {f : Nat → Int32} {x y : Int} (h : x ≤ y) : ∀ k, cntL f x k ≤ cntL f y k
  | 0 => Nat.le_refl 0
  | k + 1 => by
    have := cntL_mono (f := f) h k
    show cntL f x k + (if gq f k < x then 1 else 0) ≤ cntL f y k + (if gq f k < y then 1 else 0)
    split <;> split <;> omega
theorem cntL_lt {f : Nat → Int32} {x y : Int} {m : Nat} (h : x ≤ gq f m) (hy : gq f m < y) : ∀ k, m < k → cntL f x k + 1 ≤ cntL f y k
  | 0, hm => absurd hm (Nat.not_lt_zero m)
  | k + 1, hm => by
    show cntL f x k + (if gq f k < x then 1 else 0) + 1 ≤ cntL f y k + (if gq f k < y then 1 else 0)
    by_cases e : m = k
    · subst e
      have := cntL_mono (f := f) (show x ≤ y by omega) m
      rw [if_neg (by omega), if_pos hy]
      omega
    · have := cntL_lt h hy k (by omega)
      split <;> split <;> omega
theorem cntL_k {f : Nat → Int32} {x : Int} : ∀ k, cntL f x k ≤ k
  | 0 => Nat.le_refl 0
  | k + 1 => by
    have := cntL_k (f := f) (x := x) k
    show cntL f x k + (if gq f k < x then 1 else 0) ≤ k + 1
    split <;> omega
theorem cntL_c {f : Nat → Int32} {x : Int} {c : Nat} (h : x ≤ gq f c) : ∀ k, c < k → cntL f x k + 1 ≤ k
  | 0, hc => absurd hc (Nat.not_lt_zero c)
  | k + 1, hc => by
    show cntL f x k + (if gq f k < x then 1 else 0) + 1 ≤ k + 1
    by_cases e : c = k
    · subst e
      have := cntL_k (f := f) (x := x) c
      rw [if_neg (by omega)]
      omega
    · have := cntL_c h k (by omega)
      split <;> omega
/-- there is but one -/
theorem FF_le {f g n : Nat → Int32} {v : Int32} {t : Int} (hf : FF f n v t) (hg : FF g n v t) : ∀ (k c : Nat), c < 192 → gq f c < (k : Int) → gq g c ≤ gq f c
  | 0, c, hc, hk => absurd hk (by have := (hf.1 c hc).1; omega)
  | k + 1, c, hc, hk => by
    have a := hf.1 c hc
    have b := hg.1 c hc
    by_cases e : (c : Int) = t
    · have := a.2.2 e; have := b.2.2 e; omega
    · by_cases q : gq f c < 1000000
      · obtain ⟨s, m, h1, h2⟩ := hf.2.1 c hc e q
        have cb := costZ_b n v (m : Int)
        have ih := FF_le hf hg k m h1.1 (by omega)
        obtain ⟨s', -, h3⟩ := nbP_sym h1 hc
        have h4 := hg.2.2 m h1.1 s' c h3 (Or.inl (by have := h1.1; omega))
        omega
      · omega
theorem FF_uniq {f g n : Nat → Int32} {v : Int32} {t : Int} (hf : FF f n v t) (hg : FF g n v t) {c : Nat} (hc : c < 192) : gq f c = gq g c := by
  have a := FF_le hf hg 1000001 c hc (by have := (hf.1 c hc).2.1; omega)
  have b := FF_le hg hf 1000001 c hc (by have := (hg.1 c hc).2.1; omega)
  omega
/-- the class's search: what holds between two cells -/
def DJ (f d n : Nat → Int32) (v : Int32) (t : Int) : Prop := FA f t ∧ FB f n v t ∧ (∀ c, c < 192 → ¬ (d c).toInt = 0 → ∀ s m, nbP c s m → gq f m ≤ gq f c + costZ n v (c : Int)) ∧ (∀ a b, a < 192 → b < 192 → ¬ (d a).toInt = 0 → (d b).toInt = 0 → gq f a ≤ gq f b)
def DI (f d n : Nat → Int32) (v : Int32) (t : Int) (r : Nat) (k : Int) : Prop := FA f t ∧ FB f n v t ∧ (∀ c, c < 192 → ¬ (d c).toInt = 0 → ¬ c = r → ∀ s m, nbP c s m → gq f m ≤ gq f c + costZ n v (c : Int)) ∧ (∀ a b, a < 192 → b < 192 → ¬ (d a).toInt = 0 → (d b).toInt = 0 → gq f a ≤ gq f b) ∧ (∀ a, a < 192 → ¬ (d a).toInt = 0 → gq f a ≤ gq f r) ∧ ¬ (d r).toInt = 0 ∧ (∀ s m, nbP r s m → (s : Int) < k → gq f m ≤ gq f r + costZ n v (r : Int))
theorem DI_up {f d n : Nat → Int32} {v x : Int32} {t k : Int} {r m : Nat} (h : DI f d n v t r k) (hr : r < 192) (hk : 0 ≤ k ∧ k % 2 = 0) (hb : nbP r k.toNat m) (hx : x.toInt = gq f r + costZ n v (r : Int)) (hl : x.toInt < gq f m) : DI (upd f m x) d n v t r (k + 2) ∧ gq (upd f m x) r = gq f r := by
  obtain ⟨h1, h2, h3, h4, h5, h6, h7⟩ := h
  have cb := costZ_b n v (r : Int)
  have md : (d m).toInt = 0 := Classical.byContradiction (fun q => by
    have := h5 m hb.1 q
    omega)
  have dm : ∀ a, ¬ (d a).toInt = 0 → gq (upd f m x) a = gq f a := fun a q => gq_o (fun e => by
    rw [e] at q
    exact q md)
  have em : gq (upd f m x) m = x.toInt := gq_s f m x
  have le : ∀ a, gq (upd f m x) a ≤ gq f a := fun a => by
    by_cases e : a = m
    · rw [e, em]; omega
    · rw [gq_o e]; exact Int.le_refl _
  refine ⟨⟨fun c hc => ?_, fun c hc ht hl2 => ?_, fun c hc hd hcr s p hp => ?_, fun a b ha hb2 hda hdb => ?_, fun a ha hda => ?_, h6, fun s p hp hs => ?_⟩, dm r h6⟩
  · have a := h1 c hc
    have b := h1 r hr
    by_cases e : c = m
    · rw [e, em]
      rw [e] at a
      exact ⟨by omega, by omega, fun q => by have := a.2.2 q; omega⟩
    · rw [gq_o e]; exact a
  · by_cases e : c = m
    · obtain ⟨s', -, hs'⟩ := nbP_sym hb hr
      rw [e]
      exact ⟨s', r, hs', by rw [em, dm r h6]; omega⟩
    · rw [gq_o e] at hl2
      obtain ⟨s', p, q1, q2⟩ := h2 c hc ht hl2
      have := le p
      exact ⟨s', p, q1, by rw [gq_o e]; omega⟩
  · rw [dm c hd]
    have := h3 c hc hd hcr s p hp
    have := le p
    omega
  · rw [dm a hda]
    by_cases e : b = m
    · rw [e, em]
      have := h5 a ha hda
      omega
    · rw [gq_o e]; exact h4 a b ha hb2 hda hdb
  · rw [dm a hda, dm r h6]; exact h5 a ha hda
  · rw [dm r h6]
    by_cases e : (s : Int) < k
    · have := h7 s p hp e
      have := le p
      omega
    · have s1 := nbP_s hp
      have s2 : s = k.toNat := by omega
      rw [s2] at hp
      rw [nbP_fun hp hb, em]
      omega
theorem DI_no {f d n : Nat → Int32} {v : Int32} {t k : Int} {r m : Nat} (h : DI f d n v t r k) (hk : 0 ≤ k ∧ k % 2 = 0) (hb : nbP r k.toNat m) (hl : gq f m ≤ gq f r + costZ n v (r : Int)) : DI f d n v t r (k + 2) := by
  obtain ⟨h1, h2, h3, h4, h5, h6, h7⟩ := h
  refine ⟨h1, h2, h3, h4, h5, h6, fun s p hp hs => ?_⟩
  by_cases e : (s : Int) < k
  · exact h7 s p hp e
  · have s1 := nbP_s hp
    have s2 : s = k.toNat := by omega
    rw [s2] at hp
    rw [nbP_fun hp hb]
    exact hl
theorem DI_off {f d n : Nat → Int32} {v : Int32} {t k : Int} {r : Nat} (h : DI f d n v t r k) (hk : 0 ≤ k ∧ k % 2 = 0) (hb : ∀ p, ¬ nbP r k.toNat p) : DI f d n v t r (k + 2) := by
  obtain ⟨h1, h2, h3, h4, h5, h6, h7⟩ := h
  refine ⟨h1, h2, h3, h4, h5, h6, fun s p hp hs => ?_⟩
  by_cases e : (s : Int) < k
  · exact h7 s p hp e
  · have s1 := nbP_s hp
    have s2 : s = k.toNat := by omega
    rw [s2] at hp
    exact absurd hp (hb p)
theorem DI_start {f d n : Nat → Int32} {v x : Int32} {t : Int} {r : Nat} (h : DJ f d n v t) (hr : r < 192) (hx : ¬ x.toInt = 0) (h0 : (d r).toInt = 0) (hm : ∀ c, c < 192 → (d c).toInt = 0 → gq f r ≤ gq f c) : DI f (upd d r x) n v t r 0 := by
  obtain ⟨h1, h2, h3, h4⟩ := h
  refine ⟨h1, h2, fun c hc hd hcr => ?_, fun a b ha hb hda hdb => ?_, fun a ha hda => ?_, ?_, fun s m _ q => absurd q (by omega)⟩
  · rw [updN hcr] at hd
    exact h3 c hc hd
  · have br : ¬ b = r := fun e => by
      rw [e, updE rfl] at hdb
      exact hx hdb
    rw [updN br] at hdb
    by_cases e : a = r
    · rw [e]; exact hm b hb hdb
    · rw [updN e] at hda
      exact h4 a b ha hb hda hdb
  · by_cases e : a = r
    · rw [e]; exact Int.le_refl _
    · rw [updN e] at hda
      exact h4 a r ha hr hda h0
  · rw [updE rfl]; exact hx
theorem DI_end {f d n : Nat → Int32} {v : Int32} {t : Int} {r : Nat} {k : Int} (h : DI f d n v t r k) (hk : 8 ≤ k) : DJ f d n v t := by
  obtain ⟨h1, h2, h3, h4, h5, h6, h7⟩ := h
  refine ⟨h1, h2, fun c hc hd s m hp => ?_, h4⟩
  by_cases e : c = r
  · rw [e] at hp ⊢
    exact h7 s m hp (by have := nbP_s hp; omega)
  · exact h3 c hc hd e s m hp
theorem DJ_FF {f d n : Nat → Int32} {v : Int32} {t : Int} (h : DJ f d n v t) (hm : ∀ c, c < 192 → (d c).toInt = 0 → 1000000 ≤ gq f c) : FF f n v t := by
  obtain ⟨h1, h2, h3, h4⟩ := h
  refine ⟨h1, h2, fun c hc s m hp _ => ?_⟩
  by_cases e : (d c).toInt = 0
  · have a := hm c hc e
    have b := (h1 m hp.1).2.1
    have cb := costZ_b n v (c : Int)
    omega
  · exact h3 c hc e s m hp
/-! the class's loops -/
theorem relax {w : Nat} {r z e : Int32} {M0 C C2 : mM} {n : Nat → Int32} {v : Int32} {t : Int} (h : RCH (fun x_ y_ => ST_X0_measure_92 0 w M0 r z x_.1 x_.2 y_.1 y_.2) ((0 : Int32), C) (e, C2)) (he : 8 ≤ e.toInt) (hr : 0 ≤ r.toInt ∧ r.toInt ≤ 191) (hz : z.toInt = gq (C.1 (20, 0, 0)) r.toInt.toNat + costZ n v ((r.toInt.toNat : Nat) : Int)) (h0 : DI (C.1 (20, 0, 0)) (C.1 (21, 0, 0)) n v t r.toInt.toNat 0) : (∀ (c : rf) (k : Nat), ¬ c = (20, 0, 0) → C2.1 c k = C.1 c k) ∧ DJ (C2.1 (20, 0, 0)) (C.1 (21, 0, 0)) n v t := by
  have q0 := il_0
  have q1 := il_1
  have g := rind h (fun y => (0 ≤ y.1.toInt ∧ y.1.toInt % 2 = 0) ∧ (∀ (c : rf) (k : Nat), ¬ c = (20, 0, 0) → y.2.1 c k = C.1 c k) ∧ gq (y.2.1 (20, 0, 0)) r.toInt.toNat = gq (C.1 (20, 0, 0)) r.toInt.toNat ∧ DI (y.2.1 (20, 0, 0)) (C.1 (21, 0, 0)) n v t r.toInt.toNat y.1.toInt) ⟨by dsimp only; omega, fun _ _ _ => rfl, rfl, by dsimp only; rw [q0]; exact h0⟩ (fun x y p st => by
    (try dsimp only at p st ⊢)
    obtain ⟨p1, p2, p3, p4⟩ := p
    refine xE_ST_X0_measure_92 st (fun k_hv0_92 k_hv1_92 _ k_hF_92 k_h41_ k_r44_ k_hs48_ k_h47_ => ⟨(fun k_h49_ k_z50_ k_h51_ k_hq_v6_92y k_hM_ => ?_), (fun k_h49_ k_j54_ k_h55_ k_z52_ k_e53_ => ⟨(fun k_h56_ k_z57_ k_h58_ k_hq_v6_92y k_hM_ => ?_), (fun k_h56_ k_j61_ k_h62_ k_M59_ k_hM60_ k_z65_ k_h66_ k_hq_v6_92y k_hM_ => ?_)⟩)⟩)
    · have e1 := eT k_hq_v6_92y
      have cs := cF_spec k_hs48_
      have nb := nb_on (s := x.1.toInt) (r := k_r44_.toInt) hr (by omega) (by rcases cs with cs | cs; rw [cs.2, q1]; exact absurd (show (0 ≤ r.toInt ∧ r.toInt ≤ 191) ∧ (0 ≤ x.1.toInt ∧ x.1.toInt ≤ 7) ∧ (0 ≤ (1 : Int32).toInt ∧ (1 : Int32).toInt ≤ 16) by omega) cs.1)
      rw [k_hM_, show y.1.toInt = x.1.toInt + 2 by omega]
      refine ⟨by omega, p2, p3, DI_off p4 p1 ?_⟩
      rcases nb with nb | nb
      · exact nb.2
      · exact absurd nb.1 (by omega)
    · have e1 := eT k_hq_v6_92y
      have e2 := eT k_e53_
      have cs := cF_spec k_hs48_
      have nb := nb_on (s := x.1.toInt) (r := k_r44_.toInt) hr (by omega) (by rcases cs with cs | cs; rw [cs.2, q1]; exact absurd (show (0 ≤ r.toInt ∧ r.toInt ≤ 191) ∧ (0 ≤ x.1.toInt ∧ x.1.toInt ≤ 7) ∧ (0 ≤ (1 : Int32).toInt ∧ (1 : Int32).toInt ≤ 16) by omega) cs.1)
      rw [k_hM_, show y.1.toInt = x.1.toInt + 2 by omega]
      rcases nb with nb | nb
      · exact absurd nb.1 (by omega)
      · refine ⟨by omega, p2, p3, DI_no p4 p1 nb.2.2 ?_⟩
        rw [p3, ← hz, show k_r44_.toInt.toNat = k_j54_ by omega]
        unfold gq
        omega
    · have e1 := eT k_hq_v6_92y
      have e2 := eT k_e53_
      have cs := cF_spec k_hs48_
      have nb := nb_on (s := x.1.toInt) (r := k_r44_.toInt) hr (by omega) (by rcases cs with cs | cs; rw [cs.2, q1]; exact absurd (show (0 ≤ r.toInt ∧ r.toInt ≤ 191) ∧ (0 ≤ x.1.toInt ∧ x.1.toInt ≤ 7) ∧ (0 ≤ (1 : Int32).toInt ∧ (1 : Int32).toInt ≤ 16) by omega) cs.1)
      rcases nb with nb | nb
      · exact absurd nb.1 (by omega)
      · have j1 : k_r44_.toInt.toNat = k_j61_ := by omega
        have j2 : k_j54_ = k_j61_ := by omega
        have nb2 := nb.2.2
        rw [j1] at nb2
        rw [j2] at e2
        have U := DI_up p4 (by omega) p1 nb2 (by rw [p3]; exact hz) (show z.toInt < gq (x.2.1 (20, 0, 0)) k_j61_ by unfold gq; omega)
        have er : k_M59_.1 (20, 0, 0) = upd (x.2.1 (20, 0, 0)) k_j61_ z := by rw [k_hM60_, up_row]
        rw [k_hM_, show y.1.toInt = x.1.toInt + 2 by omega, er]
        exact ⟨by omega, fun c k hc => by rw [zupN k_hM60_ (fun q => hc q.1)]; exact p2 c k hc, by rw [U.2]; exact p3, U.1⟩)
  (try dsimp only at g)
  exact ⟨g.2.1, DI_end g.2.2.2 he⟩
theorem nearest {M : mM} {r : Int32} (h : SP_X0_nearestOpen M r) : (r.toInt = -1 ∧ ∀ c : Nat, c < 192 → (M.1 (21, 0, 0) c).toInt = 0 → 1000000 ≤ gq (M.1 (20, 0, 0)) c) ∨ ((0 ≤ r.toInt ∧ r.toInt ≤ 191) ∧ (M.1 (21, 0, 0) r.toInt.toNat).toInt = 0 ∧ gq (M.1 (20, 0, 0)) r.toInt.toNat < 1000000 ∧ ∀ c : Nat, c < 192 → (M.1 (21, 0, 0) c).toInt = 0 → gq (M.1 (20, 0, 0)) r.toInt.toNat ≤ gq (M.1 (20, 0, 0)) c) := by
  have q0 := il_0
  have qm := il_m1
  refine xE_SP_X0_nearestOpen h (fun v2_4 hv0_4 hv1_4 v1_4 hv2_4 hv3_4 hL_4 h2_ hr_ => ?_)
  have g := rind hL_4 (fun z => 0 ≤ z.1.toInt ∧ z.1.toInt ≤ 192 ∧ ((z.2.toInt = -1 ∧ ∀ c : Nat, (c : Int) < z.1.toInt → (M.1 (21, 0, 0) c).toInt = 0 → 1000000 ≤ gq (M.1 (20, 0, 0)) c) ∨ ((0 ≤ z.2.toInt ∧ z.2.toInt ≤ 191) ∧ (M.1 (21, 0, 0) z.2.toInt.toNat).toInt = 0 ∧ gq (M.1 (20, 0, 0)) z.2.toInt.toNat < 1000000 ∧ ∀ c : Nat, (c : Int) < z.1.toInt → (M.1 (21, 0, 0) c).toInt = 0 → gq (M.1 (20, 0, 0)) z.2.toInt.toNat ≤ gq (M.1 (20, 0, 0)) c))) ⟨by dsimp only; omega, by dsimp only; omega, Or.inl ⟨by dsimp only; omega, fun c hc => by dsimp only at hc; omega⟩⟩ (fun x y p st => by
    (try dsimp only at p st ⊢)
    obtain ⟨p1, p0, p2⟩ := p
    refine xE_ST_X0_nearestOpen_4 st (fun k_hv0_4 k_hv1_4 k_hv2_4 k_hv3_4 k_h2_ k_j5_ k_h6_ k_z3_ k_e4_ => ⟨(fun k_h7_ k_z8_ k_h9_ k_hq_v2_4y k_hq_v1_4y => ?_), (fun k_h7_ k_j12_ k_h13_ k_z10_ k_e11_ => ⟨(fun k_h14_ k_z15_ k_h16_ k_hq_v2_4y k_hq_v1_4y => ?_), (fun k_h14_ => ⟨(fun k_h17_ k_z18_ k_h19_ k_hq_v2_4y k_hq_v1_4y => ?_), (fun k_h17_ k_j22_ k_h23_ k_z20_ k_e21_ k_j26_ k_h27_ k_z24_ k_e25_ => ⟨(fun k_h28_ k_z29_ k_h30_ k_hq_v2_4y k_hq_v1_4y => ?_), (fun k_h28_ k_z31_ k_h32_ k_hq_v2_4y k_hq_v1_4y => ?_)⟩)⟩)⟩)⟩)
    · have e1 := eT k_hq_v2_4y
      have e3 := eT k_e4_
      have nc : ∀ c : Nat, (c : Int) < y.1.toInt → (M.1 (21, 0, 0) c).toInt = 0 → (c : Int) < x.1.toInt := fun c hc hd => by
        by_cases e : c = k_j5_
        · rw [e] at hd; omega
        · omega
      refine ⟨by omega, by omega, ?_⟩
      rw [k_hq_v1_4y]
      rcases p2 with p2 | p2
      · exact Or.inl ⟨p2.1, fun c hc hd => p2.2 c (nc c hc hd) hd⟩
      · exact Or.inr ⟨p2.1, p2.2.1, p2.2.2.1, fun c hc hd => p2.2.2.2 c (nc c hc hd) hd⟩
    · have e1 := eT k_hq_v2_4y
      have e3 := eT k_e11_
      have nc : ∀ c : Nat, (c : Int) < y.1.toInt → (c : Int) < x.1.toInt ∨ 1000000 ≤ gq (M.1 (20, 0, 0)) c := fun c hc => by
        by_cases e : c = k_j12_
        · right; unfold gq; rw [e]; omega
        · left; omega
      refine ⟨by omega, by omega, ?_⟩
      rw [k_hq_v1_4y]
      rcases p2 with p2 | p2
      · exact Or.inl ⟨p2.1, fun c hc hd => Or.elim (nc c hc) (fun q => p2.2 c q hd) id⟩
      · exact Or.inr ⟨p2.1, p2.2.1, p2.2.2.1, fun c hc hd => Or.elim (nc c hc) (fun q => p2.2.2.2 c q hd) (fun q => by have := p2.2.2.1; omega)⟩
    · have e1 := eT k_hq_v2_4y
      have e3 := eT k_e11_
      have e4 := eT k_e4_
      have e5 := eT k_hq_v1_4y
      rcases p2 with p2 | p2
      · have j1 : y.2.toInt.toNat = k_j12_ := by omega
        have j2 : k_j5_ = k_j12_ := by omega
        rw [j2] at e4
        have ge : gq (M.1 (20, 0, 0)) k_j12_ = k_z10_.toInt := by unfold gq; omega
        refine ⟨by omega, by omega, Or.inr ⟨by omega, by rw [j1]; omega, by rw [j1, ge]; omega, fun c hc hd => ?_⟩⟩
        rw [j1]
        by_cases e : c = k_j12_
        · rw [e]; exact Int.le_refl _
        · have := p2.2 c (by omega) hd
          omega
      · exact absurd p2.1.1 (by omega)
    · have e1 := eT k_hq_v2_4y
      have e3 := eT k_e21_
      have e4 := eT k_e25_
      rcases p2 with p2 | p2
      · exact absurd p2.1 (by omega)
      · refine ⟨by omega, by omega, ?_⟩
        rw [k_hq_v1_4y]
        refine Or.inr ⟨p2.1, p2.2.1, p2.2.2.1, fun c hc hd => ?_⟩
        by_cases e : c = k_j22_
        · rw [e, show x.2.toInt.toNat = k_j26_ by omega]
          unfold gq
          omega
        · exact p2.2.2.2 c (by omega) hd
    · have e1 := eT k_hq_v2_4y
      have e3 := eT k_e21_
      have e4 := eT k_e25_
      have e5 := eT k_hq_v1_4y
      have e6 := eT k_e4_
      have e7 := eT k_e11_
      rcases p2 with p2 | p2
      · exact absurd p2.1 (by omega)
      · have j1 : y.2.toInt.toNat = k_j22_ := by omega
        have j2 : k_j5_ = k_j22_ := by omega
        have j3 : k_j12_ = k_j22_ := by omega
        rw [j2] at e6
        rw [j3] at e7
        have ge : gq (M.1 (20, 0, 0)) k_j22_ = k_z20_.toInt := by unfold gq; omega
        have gx : gq (M.1 (20, 0, 0)) x.2.toInt.toNat = k_z24_.toInt := by rw [show x.2.toInt.toNat = k_j26_ by omega]; unfold gq; omega
        refine ⟨by omega, by omega, Or.inr ⟨by omega, by rw [j1]; omega, by rw [j1, ge]; omega, fun c hc hd => ?_⟩⟩
        rw [j1]
        by_cases e : c = k_j22_
        · rw [e]; exact Int.le_refl _
        · have := p2.2.2.2 c (by omega) hd
          omega)
  (try dsimp only at g)
  obtain ⟨g1, g0, g2⟩ := g
  rw [hr_]
  rcases g2 with g2 | g2
  · exact Or.inl ⟨g2.1, fun c hc hd => g2.2 c (by omega) hd⟩
  · exact Or.inr ⟨g2.1, g2.2.1, g2.2.2.1, fun c hc hd => g2.2.2.2 c (by omega) hd⟩
/-- the head that both read -/
def HH (w : Nat) (q : rf → Nat → Int32) (n : Nat → Int32) : Prop := ∀ c : Nat, c < 192 → q (40, 0, w) c = n (495 + 384 * w + c) ∧ q (41, 0, w) c = n (687 + 384 * w + c)
theorem x0cost {w : Nat} {x r v : Int32} {M : mM} {n : Nat → Int32} (h : SP_X0_costInto 0 w x M r) (hH : HH w M.1 n) (hw : (w : Int) = v.toInt) (hx : 0 ≤ x.toInt ∧ x.toInt ≤ 191) : r.toInt = costZ n v ((x.toInt.toNat : Nat) : Int) := by
  have q0 := il_0
  have q1 := il_1
  have q3 : (3 : Int32).toInt = 3 := by decide
  have q20 : (20 : Int32).toInt = 20 := by decide
  have wh := hH x.toInt.toNat (by omega)
  have hz : heldZ n v ((x.toInt.toNat : Nat) : Int) = heldS (M.1 (40, 0, w) x.toInt.toNat).toInt (M.1 (41, 0, w) x.toInt.toNat).toInt := by
    unfold heldZ heldS
    rw [wh.1, wh.2, show (687 + 384 * v.toInt + ((x.toInt.toNat : Nat) : Int)).toNat = 687 + 384 * w + x.toInt.toNat by omega, show (495 + 384 * v.toInt + ((x.toInt.toNat : Nat) : Int)).toNat = 495 + 384 * w + x.toInt.toNat by omega]
  have hb : ∀ y m : Int, heldS y m = 0 ∨ heldS y m = 1 ∨ heldS y m = 2 := fun y m => by
    unfold heldS
    split
    · omega
    · split <;> omega
  have hs := hb (M.1 (40, 0, w) x.toInt.toNat).toInt (M.1 (41, 0, w) x.toInt.toNat).toInt
  unfold costZ
  rw [hz]
  refine xE_SP_X0_costInto h (fun r1_ hs5_ => ⟨(fun h6_ => ⟨(fun h7_ hr_ => ?_), (fun h7_ hr_ => ?_)⟩), (fun h6_ hr_ => ?_)⟩)
  · have e := eT hr_
    rcases x9held hs5_ with H | H
    · rw [← H.2] at hs ⊢
      rw [if_neg (by omega), if_pos (by omega)]
      omega
    · exact absurd hx H.1
  · have e := eT hr_
    rcases x9held hs5_ with H | H
    · rw [← H.2] at hs ⊢
      rw [if_neg (by omega), if_neg (by omega)]
      omega
    · exact absurd hx H.1
  · have e := eT hr_
    rcases x9held hs5_ with H | H
    · rw [← H.2] at hs ⊢
      rw [if_pos (by omega)]
      omega
    · exact absurd hx H.1
theorem nar0 : (vp_nar .boolean 0).toInt = 0 := by decide +kernel
theorem nar1 : (vp_nar .boolean 1).toInt = 1 := by decide +kernel
theorem measure_FF {w : Nat} {v u : Int32} {M C : mM} {n : Nat → Int32} (h : SP_X0_measure 0 w u M C) (hu : 0 ≤ u.toInt ∧ u.toInt ≤ 191) (hH : HH w M.1 n) (hw : (w : Int) = v.toInt) : FF (C.1 (20, 0, 0)) n v u.toInt ∧ ∀ (c : rf) (k : Nat), ¬ c = (20, 0, 0) → ¬ c = (21, 0, 0) → C.1 c k = M.1 c k := by
  have q0 := il_0
  have n0 := nar0
  have n1 := nar1
  have qM : (1000000 : Int32).toInt = 1000000 := by decide
  have nn : ¬ ((21, 0, 0) : rf) = (20, 0, 0) := cne (by omega)
  refine xE_SP_X0_measure h (fun v3_2 hv0_2 hv1_2 M_2 hL_2 _ hF_2 h2_ => ⟨(fun hs7_ h6_ j11_ h12_ M9_ hM10_ v3_46 hv0_46 hv1_46 M_46 hL_46 _ hF_46 => ⟨(fun h16_ hM_ => ?_), (fun h16_ r17_ hs21_ h20_ h22_ hM_ => ?_)⟩), (fun hs7_ h6_ v3_46 hv0_46 hv1_46 M_46 hL_46 _ hF_46 => ⟨(fun h69_ hM_ => ?_), (fun h69_ r70_ hs74_ h73_ h75_ hM_ => ?_)⟩)⟩)
  all_goals first | (exact absurd hu h6_) | skip
  all_goals (
    have g := rind hL_2 (fun z => 0 ≤ z.1.toInt ∧ (∀ (c : rf) (k : Nat), ¬ c = (20, 0, 0) → ¬ c = (21, 0, 0) → z.2.1 c k = M.1 c k) ∧ ∀ c : Nat, (c : Int) < z.1.toInt → gq (z.2.1 (20, 0, 0)) c = 1000000 ∧ (z.2.1 (21, 0, 0) c).toInt = 0) ⟨by dsimp only; omega, fun _ _ _ _ => rfl, fun c hc => by dsimp only at hc; omega⟩ (fun x z p st => by
      (try dsimp only at p st ⊢)
      obtain ⟨p1, p2, p3⟩ := p
      refine xE_ST_X0_measure_2 st (fun k_hv0_2 k_hv1_2 _ k_hF_2 k_h2_ k_j122_ k_h123_ k_M120_ k_hM121_ k_j128_ k_h129_ k_M126_ k_hM127_ k_z132_ k_h133_ k_hq_v3_2y k_hM_ => ?_)
      have e1 := eT k_hq_v3_2y
      rw [k_hM_]
      refine ⟨by omega, fun c k n20 n21 => by rw [zupN k_hM127_ (fun q => n21 q.1), zupN k_hM121_ (fun q => n20 q.1)]; exact p2 c k n20 n21, fun c hc => ?_⟩
      by_cases e : (c : Int) = x.1.toInt
      · refine ⟨?_, by rw [zupE k_hM127_ rfl (by omega)]; exact n0⟩
        unfold gq
        rw [zupN k_hM127_ (fun q => cne (by omega) q.1), zupE k_hM121_ rfl (by omega)]
        exact qM
      · have a := p3 c (by omega)
        refine ⟨?_, by rw [zupN k_hM127_ (fun q => by have := q.2; omega), zupN k_hM121_ (fun q => nn q.1)]; exact a.2⟩
        unfold gq at a ⊢
        rw [zupN k_hM127_ (fun q => cne (by omega) q.1), zupN k_hM121_ (fun q => by have := q.2; omega)]
        exact a.1)
    (try dsimp only at g)
    obtain ⟨g1, g2, g3⟩ := g
    have r9 : M9_.1 (20, 0, 0) = upd (M_2.1 (20, 0, 0)) j11_ 0 := by rw [hM10_, up_row]
    have f9 : ∀ c : Nat, c < 192 → (c = u.toInt.toNat ∧ gq (M9_.1 (20, 0, 0)) c = 0) ∨ (¬ c = u.toInt.toNat ∧ gq (M9_.1 (20, 0, 0)) c = 1000000) := fun c hc => by
      rw [r9]
      by_cases e : c = j11_
      · left
        refine ⟨by omega, ?_⟩
        rw [e, gq_s]
        exact q0
      · right
        refine ⟨by omega, ?_⟩
        rw [gq_o e]
        exact (g3 c (by omega)).1
    have d9 : ∀ c : Nat, c < 192 → (M9_.1 (21, 0, 0) c).toInt = 0 := fun c hc => by
      rw [zupN hM10_ (fun q => nn q.1)]
      exact (g3 c (by omega)).2
    have L := rind hL_46 (fun z => (∀ (c : rf) (k : Nat), ¬ c = (20, 0, 0) → ¬ c = (21, 0, 0) → z.2.1 c k = M.1 c k) ∧ DJ (z.2.1 (20, 0, 0)) (z.2.1 (21, 0, 0)) n v u.toInt ∧ ((cntD (z.2.1 (21, 0, 0)) 192 : Nat) : Int) = z.1.toInt) ⟨fun c k n20 n21 => by rw [zupN hM10_ (fun q => n20 q.1)]; exact g2 c k n20 n21, (show DJ (M9_.1 (20, 0, 0)) (M9_.1 (21, 0, 0)) n v u.toInt from ⟨fun c hc => by have := f9 c hc; exact ⟨by omega, by omega, fun q => by omega⟩, fun c hc q l => absurd l (by have := f9 c hc; omega), fun c hc q => absurd (d9 c hc) q, fun a b ha _ q => absurd (d9 a ha) q⟩), by dsimp only; rw [cntD_0 192 d9]; omega⟩ (fun x z p st => by
      (try dsimp only at p st ⊢)
      obtain ⟨p1, p2, p3⟩ := p
      refine xE_ST_X0_measure_46 st (fun k_hv0_46 k_hv1_46 _ k_hF_46 k_h16_ k_r17_ k_hs21_ k_h20_ k_h22_ k_j25_ k_h26_ k_M23_ k_hM24_ k_j31_ k_h32_ k_z29_ k_e30_ _ k_r33_ k_hs37_ k_z38_ k_h39_ k_v6_92 k_hv0_92 k_hv1_92 k_M_92 k_hL_92 _ k_hF_92 k_h41_ k_z42_ k_h43_ k_hq_v3_46y k_hM_ => ?_)
      have e1 := eT k_hq_v3_46y
      rcases nearest k_hs21_ with N | N
      · exact absurd N.1 (by omega)
      · obtain ⟨N1, N2, N3, N4⟩ := N
        have j1 : k_j25_ = k_r17_.toInt.toNat := by omega
        have j2 : k_j31_ = k_r17_.toInt.toNat := by omega
        rw [j1] at k_hM24_
        rw [j2] at k_e30_
        have r20 : k_M23_.1 (20, 0, 0) = x.2.1 (20, 0, 0) := funext fun k => zupN k_hM24_ (fun q => cne (by omega) q.1)
        have r21 : k_M23_.1 (21, 0, 0) = upd (x.2.1 (21, 0, 0)) k_r17_.toInt.toNat (vp_nar .boolean 1) := by rw [k_hM24_, up_row]
        have hH2 : HH w k_M23_.1 n := fun c hc => by
          rw [zupN k_hM24_ (fun q => cne (by omega) q.1), zupN k_hM24_ (fun q => cne (by omega) q.1), p1 _ _ (cne (by omega)) (cne (by omega)), p1 _ _ (cne (by omega)) (cne (by omega))]
          exact hH c hc
        have cz := x0cost k_hs37_ hH2 hw N1
        have cb := costZ_b n v ((k_r17_.toInt.toNat : Nat) : Int)
        have fz : k_z29_.toInt = gq (x.2.1 (20, 0, 0)) k_r17_.toInt.toNat := by rw [k_e30_, r20]; rfl
        have f0 := p2.1 k_r17_.toInt.toNat (by omega)
        have hz : k_z38_.toInt = gq (k_M23_.1 (20, 0, 0)) k_r17_.toInt.toNat + costZ n v ((k_r17_.toInt.toNat : Nat) : Int) := by
          rw [k_h39_, r20]
          exact addI fz cz (by omega) (by omega)
        have S := DI_start p2 (show k_r17_.toInt.toNat < 192 by omega) (x := vp_nar .boolean 1) (by omega) N2 N4
        have R := relax (n := n) (v := v) (t := u.toInt) k_hL_92 k_h41_ N1 hz (by rw [r20, r21]; exact S)
        rw [k_hM_]
        have r21' : k_M_92.1 (21, 0, 0) = k_M23_.1 (21, 0, 0) := funext fun k => R.1 _ _ nn
        refine ⟨fun c k n20 n21 => by rw [R.1 c k n20, zupN k_hM24_ (fun q => n21 q.1)]; exact p1 c k n20 n21, by rw [r21']; exact R.2, ?_⟩
        rw [r21', r21, cntD_up N2 (by omega) 192 (by omega)]
        omega)
    (try dsimp only at L)
    obtain ⟨L1, L2, L3⟩ := L
    rw [hM_]
    refine ⟨DJ_FF L2 ?_, L1⟩)
  · intro c hc hd
    exact absurd hd (cntD_all 192 (by have := cntD_le (M_46.1 (21, 0, 0)) 192; omega) c hc)
  · rcases nearest hs21_ with N | N
    · exact N.2
    · exact absurd N.1.1 (by omega)
/-! the steps -/
def WK (f n : Nat → Int32) (v : Int32) (c s : Nat) : Prop := ∃ m, nbP c s m ∧ gq f m + costZ n v (m : Int) = gq f c
theorem x0from {v r : Int32} {M : mM} (h : SP_X0_costFrom v M r) (hv : 0 ≤ v.toInt ∧ v.toInt ≤ 191) : r.toInt = gq (M.1 (20, 0, 0)) v.toInt.toNat := by
  refine xE_SP_X0_costFrom h ⟨(fun hs5_ h4_ j9_ h10_ z7_ e8_ hr_ => ?_), (fun hs5_ h4_ hr_ => ?_)⟩
  · rw [hr_, e8_, show j9_ = v.toInt.toNat by omega]; rfl
  · exact absurd hv h4_
theorem stepC {w : Nat} {v c r : Int32} {M : mM} {n : Nat → Int32} {t : Int} (h : SP_X0_firstStep 0 w c M r) (hF : FF (M.1 (20, 0, 0)) n v t) (hH : HH w M.1 n) (hw : (w : Int) = v.toInt) (hc : 0 ≤ c.toInt ∧ c.toInt ≤ 191) : (r.toInt = -1 ∧ ∀ s, s < 8 → ¬ WK (M.1 (20, 0, 0)) n v c.toInt.toNat s) ∨ (0 ≤ r.toInt ∧ ∃ s, nbP c.toInt.toNat s r.toInt.toNat ∧ gq (M.1 (20, 0, 0)) r.toInt.toNat + costZ n v ((r.toInt.toNat : Nat) : Int) = gq (M.1 (20, 0, 0)) c.toInt.toNat ∧ ∀ s', s' < s → ¬ WK (M.1 (20, 0, 0)) n v c.toInt.toNat s') := by
  have q0 := il_0
  have q1 := il_1
  have qm := il_m1
  have nb : ∀ {s r3 : Int32}, SP_X7_cellFrom c s 1 M r3 → 0 ≤ s.toInt → s.toInt % 2 = 0 → s.toInt < 8 → (r3.toInt = -1 ∧ ∀ n : Nat, ¬ nbP c.toInt.toNat s.toInt.toNat n) ∨ (0 ≤ r3.toInt ∧ r3.toInt ≤ 191 ∧ nbP c.toInt.toNat s.toInt.toNat r3.toInt.toNat) := fun {s r3} h1 h2 h3 h4 => by
    have cs := cF_spec h1
    exact nb_on hc (by omega) (by rcases cs with cs | cs; rw [cs.2, q1]; exact absurd (show (0 ≤ c.toInt ∧ c.toInt ≤ 191) ∧ (0 ≤ s.toInt ∧ s.toInt ≤ 7) ∧ (0 ≤ (1 : Int32).toInt ∧ (1 : Int32).toInt ≤ 16) by omega) cs.1)
  have sum : ∀ {r3 a b z : Int32}, SP_X0_costFrom r3 M a → SP_X0_costInto 0 w r3 M b → z = a + b → 0 ≤ r3.toInt → r3.toInt ≤ 191 → z.toInt = gq (M.1 (20, 0, 0)) r3.toInt.toNat + costZ n v ((r3.toInt.toNat : Nat) : Int) := fun {r3 a b z} h1 h2 h3 h4 h5 => by
    have a1 := x0from h1 ⟨h4, h5⟩
    have b1 := x0cost h2 hH hw ⟨h4, h5⟩
    have cb := costZ_b n v ((r3.toInt.toNat : Nat) : Int)
    have f0 := hF.1 r3.toInt.toNat (by omega)
    rw [h3]
    exact addI a1 b1 (by omega) (by omega)
  have inv : ∀ {e : Int32}, RCH (fun x_ y_ => ST_X0_firstStep_2 0 w c M x_ y_) (0 : Int32) e → 0 ≤ e.toInt ∧ e.toInt % 2 = 0 ∧ ∀ s : Nat, (s : Int) < e.toInt → ¬ WK (M.1 (20, 0, 0)) n v c.toInt.toNat s := fun {e} hL => rind hL (fun z : Int32 => 0 ≤ z.toInt ∧ z.toInt % 2 = 0 ∧ ∀ s : Nat, (s : Int) < z.toInt → ¬ WK (M.1 (20, 0, 0)) n v c.toInt.toNat s) ⟨by omega, by omega, fun s hs => by omega⟩ (fun x z p st => by
    obtain ⟨p1, p2, p3⟩ := p
    have odd : ∀ s : Nat, (s : Int) < x.toInt + 2 → WK (M.1 (20, 0, 0)) n v c.toInt.toNat s → (s : Int) < x.toInt ∨ s = x.toInt.toNat := fun s hs hW => by
      obtain ⟨m, hm, -⟩ := hW
      have := nbP_s hm
      omega
    refine xE_ST_X0_firstStep_2 st (fun k_hv0_2 k_hv1_2 k_h2_ k_r3_ k_hs7_ k_h6_ => ⟨(fun k_h8_ k_z9_ k_h10_ k_hq_v3_2y => ?_), (fun k_h8_ k_r11_ k_hs15_ k_r16_ k_hs20_ k_z21_ k_h22_ k_r23_ k_hs27_ k_h28_ k_z29_ k_h30_ k_hq_v3_2y => ?_)⟩)
    · have e1 := eT k_hq_v3_2y
      refine ⟨by omega, by omega, fun s hs hW => ?_⟩
      rcases odd s (by omega) hW with o | o
      · exact p3 s o hW
      · obtain ⟨m, hm, -⟩ := hW
        rw [o] at hm
        rcases nb k_hs7_ p1 p2 k_h2_ with B | B
        · exact B.2 m hm
        · exact absurd B.1 (by omega)
    · have e1 := eT k_hq_v3_2y
      refine ⟨by omega, by omega, fun s hs hW => ?_⟩
      rcases odd s (by omega) hW with o | o
      · exact p3 s o hW
      · obtain ⟨m, hm, hq⟩ := hW
        rw [o] at hm
        rcases nb k_hs7_ p1 p2 k_h2_ with B | B
        · exact absurd B.1 (by omega)
        · have em := nbP_fun hm B.2.2
          rw [em] at hq
          have S := sum k_hs15_ k_hs20_ k_h22_ B.1 B.2.1
          have F := x0from k_hs27_ hc
          exact k_h28_ (by omega))
  refine xE_SP_X0_firstStep h (fun v3_2 hv0_2 hv1_2 hL_2 => ⟨(fun h2_ hr_ => ?_), (fun h2_ r3_ hs7_ h6_ h8_ r11_ hs15_ r16_ hs20_ z21_ h22_ r23_ hs27_ h28_ hr_ => ?_)⟩)
  · have I := inv hL_2
    have e := eT hr_
    exact Or.inl ⟨by omega, fun s hs => I.2.2 s (by omega)⟩
  · have I := inv hL_2
    rcases nb hs7_ I.1 I.2.1 h2_ with B | B
    · exact absurd B.1 (by omega)
    · have S := sum hs15_ hs20_ h22_ B.1 B.2.1
      have F := x0from hs27_ hc
      rw [hr_]
      exact Or.inr ⟨B.1, _, B.2.2, by omega, fun s' hs' => I.2.2 s' (by omega)⟩
theorem stepD {v u t i c i2 c2 : Int32} {D0 A A2 : mM} {n : Nat → Int32} (h : ST_X12_way_63 v u t D0 i c A i2 c2 A2) (hn : A.1 (50, 0, 0) = n) : A2 = A ∧ i2.toInt = i.toInt + 1 ∧ i.toInt < t.toInt ∧ ¬ c.toInt = u.toInt ∧ (0 ≤ c.toInt ∧ c.toInt ≤ 191) ∧ (0 ≤ c2.toInt ∧ c2.toInt ≤ 191) ∧ ∃ s, nbP c.toInt.toNat s c2.toInt.toNat ∧ gq (A.1 (61, 0, 0)) c2.toInt.toNat + costZ n v ((c2.toInt.toNat : Nat) : Int) = gq (A.1 (61, 0, 0)) c.toInt.toNat ∧ ∀ s', s' < s → ¬ WK (A.1 (61, 0, 0)) n v c.toInt.toNat s' := by
  have q0 := il_0
  refine xE_ST_X12_way_63 h (fun hv0_63 hv1_63 _ hF_63 h35_ h36_ v6_85 hv0_85 hv1_85 hv2_85 hL_85 h38_ r39_ h42_ h44_ r47_ h50_ h52_ j55_ h56_ z53_ e54_ h57_ r58_ h61_ h63_ r64_ hs68_ h67_ z69_ h70_ j73_ h74_ z71_ e72_ h75_ h76_ r77_ h80_ h82_ z83_ h84_ hq_v5_63y hq_v4_63y hM_ => ?_)
  have I := rind hL_85 (fun z : Int32 => 0 ≤ z.toInt ∧ z.toInt % 2 = 0 ∧ ∀ s : Nat, (s : Int) < z.toInt → ¬ WK (A.1 (61, 0, 0)) n v c.toInt.toNat s) ⟨by omega, by omega, fun s hs => by omega⟩ (fun x z p st => by
    obtain ⟨p1, p2, p3⟩ := p
    have odd : ∀ s : Nat, (s : Int) < x.toInt + 2 → WK (A.1 (61, 0, 0)) n v c.toInt.toNat s → (s : Int) < x.toInt ∨ s = x.toInt.toNat := fun s hs hW => by
      obtain ⟨m, hm, -⟩ := hW
      have := nbP_s hm
      omega
    refine xE_ST_X12_way_85 st (fun k_hv0_85 k_hv1_85 k_hv2_85 k_h38_ k_r39_ k_h42_ => ⟨(fun k_h44_ k_z45_ k_h46_ k_hq_v6_85y => ?_), (fun k_h44_ k_r47_ k_h50_ k_h52_ k_j55_ k_h56_ k_z53_ k_e54_ k_h57_ k_r58_ k_h61_ k_h63_ k_r64_ k_hs68_ k_h67_ k_z69_ k_h70_ k_j73_ k_h74_ k_z71_ k_e72_ k_h75_ k_h76_ k_z85_ k_h86_ k_hq_v6_85y => ?_)⟩)
    · have e1 := eT k_hq_v6_85y
      refine ⟨by omega, by omega, fun s hs hW => ?_⟩
      rcases odd s (by omega) hW with o | o
      · exact p3 s o hW
      · obtain ⟨m, hm, -⟩ := hW
        rw [o] at hm
        rcases k_h42_ with B | B
        · exact B.2 m hm
        · exact absurd B.1 (by omega)
    · have e1 := eT k_hq_v6_85y
      refine ⟨by omega, by omega, fun s hs hW => ?_⟩
      rcases odd s (by omega) hW with o | o
      · exact p3 s o hW
      · obtain ⟨m, hm, hq⟩ := hW
        rw [o] at hm
        rcases k_h50_ with B | B
        · exact absurd B.1 (by omega)
        · rcases k_h61_ with B2 | B2
          · exact absurd B2.1 (by omega)
          · have e47 := nbP_fun hm B.2.2
            have e58 := nbP_fun hm B2.2.2
            have z1 := eT k_e54_
            have z2 := eT k_e72_
            have cz := k_h67_.2.2
            rw [hn, show k_r58_.toInt = (m : Int) by omega] at cz
            have g1 : gq (A.1 (61, 0, 0)) m = k_z53_.toInt := by rw [e47, show k_r47_.toInt.toNat = k_j55_ by omega]; unfold gq; omega
            have g2 : gq (A.1 (61, 0, 0)) c.toInt.toNat = k_z71_.toInt := by rw [show c.toInt.toNat = k_j73_ by omega]; unfold gq; omega
            exact k_h76_ (by omega))
  obtain ⟨i1, i2', i3⟩ := I
  have e5 := eT hq_v5_63y
  have e4 := eT hq_v4_63y
  rcases h50_ with B | B
  · exact absurd B.1 (by omega)
  · rcases h61_ with B2 | B2
    · exact absurd B2.1 (by omega)
    · rcases h80_ with B3 | B3
      · exact absurd B3.1 (by omega)
      · have e47 := nbP_fun B.2.2 B3.2.2
        have e58 := nbP_fun B2.2.2 B3.2.2
        have z1 := eT e54_
        have z2 := eT e72_
        have cz := h67_.2.2
        have j77 : c2.toInt.toNat = r77_.toInt.toNat := by omega
        rw [hn, show r58_.toInt = ((r77_.toInt.toNat : Nat) : Int) by omega] at cz
        have g1 : gq (A.1 (61, 0, 0)) r77_.toInt.toNat = z53_.toInt := by rw [show r77_.toInt.toNat = j55_ by omega]; unfold gq; omega
        have g2 : gq (A.1 (61, 0, 0)) c.toInt.toNat = z71_.toInt := by rw [show c.toInt.toNat = j73_ by omega]; unfold gq; omega
        refine ⟨hM_, by omega, by omega, by omega, by omega, by omega, ?_⟩
        rw [j77]
        exact ⟨_, B3.2.2, by omega, fun s' hs' => i3 s' (by omega)⟩
theorem WK_eq {f g n : Nat → Int32} {v : Int32} {t : Int} {c s : Nat} (hf : FF f n v t) (hg : FF g n v t) (hc : c < 192) (h : WK f n v c s) : WK g n v c s := by
  obtain ⟨m, h1, h2⟩ := h
  exact ⟨m, h1, by rw [← FF_uniq hf hg h1.1, ← FF_uniq hf hg hc]; exact h2⟩
theorem after_both {w : Nat} {v u t i c j c' c0 c0' : Int32} {M D0 A A' : mM} {n : Nat → Int32} (hw : (w : Int) = v.toInt) (hH : HH w M.1 n) (hn : A.1 (50, 0, 0) = n) (hF : FF (M.1 (20, 0, 0)) n v u.toInt) (hG : FF (A.1 (61, 0, 0)) n v u.toInt)
    (h1 : RCH (fun x_ y_ => ST_X0_cellAfter_18 0 w u t M x_.1 x_.2 y_.1 y_.2) ((0 : Int32), c0) (i, c)) (h2 : RCH (fun x_ y_ => ST_X12_way_63 v u t D0 x_.1 x_.2.1 x_.2.2 y_.1 y_.2.1 y_.2.2) ((0 : Int32), c0', A) (j, c', A')) (h0 : c0.toInt = c0'.toInt) (hc : 0 ≤ c0.toInt ∧ c0.toInt ≤ 191)
    (f1 : t.toInt ≤ i.toInt ∨ c.toInt = u.toInt ∨ c.toInt < 0) (f2 : t.toInt ≤ j.toInt ∨ c'.toInt = u.toInt) : i.toInt = j.toInt ∧ c.toInt = c'.toInt ∧ 0 ≤ c.toInt := by
  have g := lockE (fun (x : Int32 × Int32) (y : Int32 × Int32 × mM) => x.1.toInt = y.1.toInt ∧ x.2.toInt = y.2.1.toInt ∧ (0 ≤ x.2.toInt ∧ x.2.toInt ≤ 191) ∧ y.2.2 = A) h1 h2 ⟨rfl, h0, hc, rfl⟩ (fun x z y b r s1 s2 => by
    (try dsimp only at r s1 s2 ⊢)
    obtain ⟨r1, r2, r3, r4⟩ := r
    have D := stepD (n := n) s2 (by rw [r4]; exact hn)
    obtain ⟨d1, d2, d3, d4, d5, d6, s, d7, d8, d9⟩ := D
    rw [r4] at d8 d9
    rw [← r2] at d7 d8 d9
    refine xE_ST_X0_cellAfter_18 s1 (fun k_hv0_18 k_h5_ k_h6_ k_h7_ k_r8_ k_hs12_ k_h11_ k_z13_ k_h14_ k_hq_v5_18y k_hq_v4_18y => ?_)
    have e5 := eT k_hq_v5_18y
    have e4 := eT k_hq_v4_18y
    have wk : WK (M.1 (20, 0, 0)) n v x.2.toInt.toNat s := WK_eq hG hF (by omega) ⟨_, d7, d8⟩
    rcases stepC k_hs12_ hF hH hw r3 with C | C
    · exact absurd wk (C.2 s (by have := nbP_s d7; omega))
    · obtain ⟨C1, s', C2, C3, C4⟩ := C
      have es : s = s' := by
        rcases Nat.lt_trichotomy s s' with q | q | q
        · exact absurd wk (C4 s q)
        · exact q
        · exact absurd (WK_eq hF hG (by omega) ⟨_, C2, C3⟩) (d9 s' q)
      rw [es] at d7
      have ec := nbP_fun d7 C2
      exact ⟨by omega, by omega, by omega, by rw [d1]; exact r4⟩) (fun y y' r s2 => by
    (try dsimp only at r s2)
    obtain ⟨r1, r2, r3, r4⟩ := r
    have D := stepD (n := n) s2 (by rw [r4]; exact hn)
    obtain ⟨d1, d2, d3, d4, -⟩ := D
    omega) (fun x x' r s1 => by
    (try dsimp only at r s1)
    obtain ⟨r1, r2, r3, r4⟩ := r
    refine xE_ST_X0_cellAfter_18 s1 (fun k_hv0_18 k_h5_ k_h6_ k_h7_ k_r8_ k_hs12_ k_h11_ k_z13_ k_h14_ k_hq_v5_18y k_hq_v4_18y => ?_)
    omega)
  (try dsimp only at g)
  exact ⟨g.1, g.2.1, g.2.2.1.1⟩
theorem steps_b {v u t j c' c0' : Int32} {D0 A A' : mM} {n : Nat → Int32} (hn : A.1 (50, 0, 0) = n) (h2 : RCH (fun x_ y_ => ST_X12_way_63 v u t D0 x_.1 x_.2.1 x_.2.2 y_.1 y_.2.1 y_.2.2) ((0 : Int32), c0', A) (j, c', A')) (hc : 0 ≤ c0'.toInt ∧ c0'.toInt ≤ 191) : j.toInt ≤ 191 := by
  have q0 := il_0
  have st := cntL_c (f := A.1 (61, 0, 0)) (x := gq (A.1 (61, 0, 0)) c0'.toInt.toNat) (c := c0'.toInt.toNat) (Int.le_refl _) 192 (by omega)
  have g := rind h2 (fun z => z.2.2 = A ∧ (cntL (A.1 (61, 0, 0)) (gq (A.1 (61, 0, 0)) z.2.1.toInt.toNat) 192 : Int) + z.1.toInt ≤ 191) ⟨rfl, by dsimp only; omega⟩ (fun x z p s => by
    (try dsimp only at p s ⊢)
    obtain ⟨p1, p2⟩ := p
    have D := stepD (n := n) s (by rw [p1]; exact hn)
    obtain ⟨d1, d2, d3, d4, d5, d6, s', d7, d8, d9⟩ := D
    rw [p1] at d8
    have cb := costZ_b n v ((z.2.1.toInt.toNat : Nat) : Int)
    have L := cntL_lt (f := A.1 (61, 0, 0)) (x := gq (A.1 (61, 0, 0)) z.2.1.toInt.toNat) (y := gq (A.1 (61, 0, 0)) x.2.1.toInt.toNat) (m := z.2.1.toInt.toNat) (Int.le_refl _) (by omega) 192 (by omega)
    exact ⟨by rw [d1]; exact p1, by omega⟩)
  (try dsimp only at g)
  omega
theorem an_25 {v : Int32} {u : Int32} {t : Int32} {M M1 D D2 : mM} {r1 r2 : Int32} (h1 : SP_X11_way v u t M r1 M1) (h2 : SP_X12_way v u t D r2 D2) (hR : RW 0 M.1 (D.1 (50, 0, 0))) (hD : InvD D) (hu : (D.1 (12, 0, 0) 7).toInt = -1) : r1 = r2 := by
  have q0 := il_0
  have q1 := il_1
  have qm := il_m1
  have bW := eT hR.1.2.2.1.1
  have nW := nWa_b hD.2.1
  have mw : ∀ {r : Int32}, SP_X10_hasWalker 0 v M r → SP_is2 v D (1 : Int32) → r = 0 → False := fun a b e => by
    have a1 := x10has a
    have b1 := is2x b
    have e1 := eT e
    unfold nWa at nW
    omega
  have mw2 : SP_X10_hasWalker 0 v M (1 : Int32) → SP_is2 v D (0 : Int32) → False := fun a b => by
    have a1 := x10has a
    have b1 := is2x b
    unfold nWa at nW
    omega
  have cell : ∀ {r : Int32} {N : mM}, SP_X12_isCell u N r → True := fun _ => trivial
  have main : ∀ {w : Nat} {C B : mM}, (w : Int) = v.toInt → SP_is2 v D (1 : Int32) → (0 ≤ u.toInt ∧ u.toInt ≤ 191) → SP_X0_measure 0 w u M C → FR S_c_X12_findFar D B → FF (B.1 (61, 0, 0)) (B.1 (50, 0, 0)) v u.toInt → FF (C.1 (20, 0, 0)) (D.1 (50, 0, 0)) v u.toInt ∧ FF (B.1 (61, 0, 0)) (D.1 (50, 0, 0)) v u.toInt ∧ HH w C.1 (D.1 (50, 0, 0)) ∧ B.1 (50, 0, 0) = D.1 (50, 0, 0) ∧ C.1 (9, 0, w) 1 = D.1 (50, 0, 0) (181 + 9 * w) := fun {w C B} hw h2 hu2 hm hf hF => by
    have b1 := is2x h2
    have wa := hR.1.2.2.1.2 w (by unfold nWa; omega)
    have hH : HH w M.1 (D.1 (50, 0, 0)) := fun c hc => wa.2 c hc
    have mf := measure_FF hm hu2 hH hw
    have e50 : B.1 (50, 0, 0) = D.1 (50, 0, 0) := funext fun k => hf _ _ (by simp [S_c_X12_findFar])
    rw [e50] at hF
    exact ⟨mf.1, hF, fun c hc => by rw [mf.2 _ _ (cne (by omega)) (cne (by omega)), mf.2 _ _ (cne (by omega)) (cne (by omega))]; exact hH c hc, e50, by rw [mf.2 _ _ (cne (by omega)) (cne (by omega)), wa.1 1 (by omega), show 180 + 9 * w + 1 = 181 + 9 * w by omega]⟩
  refine xE_SP_X11_way h1 ⟨(fun a_hs5_ a_h4_ => ⟨(fun a_hs11_ a_h10_ => ⟨(fun a_h13_ a_j14_ a_h15_ a_h16_ a_M17_ _ a_hF21_ a_hs23_ => ⟨(fun a_h24_ a_r25_ a_hs29_ => ⟨(fun a_h30_ a_hr_ a_hM_ => ?_), (fun a_h30_ a_M32_ _ a_hF36_ a_r31_ a_hs38_ a_hr_ a_hM_ => ?_)⟩), (fun a_h24_ a_z39_ a_e40_ a_r41_ a_hs45_ a_hr_ a_hM_ => ?_)⟩), (fun a_h13_ a_M47_ _ a_hF51_ a_r46_ a_hs53_ a_hr_ a_hM_ => ?_)⟩), (fun a_hs11_ a_h10_ a_M56_ _ a_hF60_ a_r55_ a_hs62_ a_hr_ a_hM_ => ?_)⟩), (fun a_hs5_ a_M65_ _ a_hF69_ a_r64_ a_hs71_ a_hr_ a_hM_ => ?_)⟩
  · refine xE_SP_X12_way h2 ⟨(fun b_hs5_ b_h4_ => ⟨(fun b_hs11_ b_h10_ => ⟨(fun b_h13_ b_M14_ _ b_hF18_ b_hs20_ b_h16_ b_r21_ b_hs25_ b_h24_ b_z26_ b_h27_ b_j30_ b_h31_ b_z28_ b_e29_ b_h32_ => ⟨(fun b_h33_ b_v5_63 b_hv0_63 b_v4_63 b_hv1_63 b_M_63 b_hL_63 _ b_hF_63 => ⟨(fun b_h35_ b_hr_ b_hM_ => ?_), (fun b_h35_ b_h36_ b_M88_ _ b_hF92_ b_r87_ b_hs94_ b_h90_ b_hr_ b_hM_ => ?_)⟩), (fun b_h33_ b_j98_ b_h99_ b_z96_ b_e97_ b_h100_ b_hr_ b_hM_ => ?_)⟩), (fun b_h13_ b_M102_ _ b_hF106_ b_r101_ b_hs108_ b_h104_ b_hr_ b_hM_ => ?_)⟩), (fun b_hs11_ b_h10_ b_M111_ _ b_hF115_ b_r110_ b_hs117_ b_h113_ b_hr_ b_hM_ => ?_)⟩), (fun b_hs5_ b_M120_ _ b_hF124_ b_r119_ b_hs126_ b_h122_ b_hr_ b_hM_ => ?_)⟩
    · obtain ⟨mF, mG, mH, m50, m9⟩ := main a_h15_ b_hs5_ a_h10_ a_hs23_ b_hF18_ b_h16_
      have e28 : b_z28_ = D.1 (50, 0, 0) (181 + 9 * a_j14_) := by rw [b_e29_, m50, show b_j30_ = 181 + 9 * a_j14_ by omega]
      refine xE_SP_X0_cellAfter a_hs29_ (fun c_z1_ c_e2_ => ⟨(fun c_h3_ c_v5_18 c_hv0_18 c_v4_18 c_hL_18 => ⟨(fun c_h5_ c_hr_ => ?_), (fun c_h5_ => ⟨(fun c_h6_ c_hr_ => ?_), (fun c_h6_ c_h7_ c_hr_ => ?_)⟩)⟩), (fun c_h3_ c_hr_ => ?_)⟩)
      · have cc : c_z1_ = b_z28_ := by rw [c_e2_, m9, e28]
        have ct := eT cc
        have X := after_both a_h15_ mH m50 mF mG c_hL_18 b_hL_63 ct (by omega) (Or.inl c_h5_) (Or.inl b_h35_)
        exact i32e (by rw [a_hr_, b_hr_, c_hr_]; exact X.2.1)
      · have := eT c_hr_; exact absurd a_h30_ (by omega)
      · have := eT c_hr_; exact absurd a_h30_ (by omega)
      · have := eT c_hr_; exact absurd a_h30_ (by omega)
    · obtain ⟨mF, mG, mH, m50, m9⟩ := main a_h15_ b_hs5_ a_h10_ a_hs23_ b_hF18_ b_h16_
      have e28 : b_z28_ = D.1 (50, 0, 0) (181 + 9 * a_j14_) := by rw [b_e29_, m50, show b_j30_ = 181 + 9 * a_j14_ by omega]
      refine xE_SP_X0_cellAfter a_hs29_ (fun c_z1_ c_e2_ => ⟨(fun c_h3_ c_v5_18 c_hv0_18 c_v4_18 c_hL_18 => ⟨(fun c_h5_ c_hr_ => ?_), (fun c_h5_ => ⟨(fun c_h6_ c_hr_ => ?_), (fun c_h6_ c_h7_ c_hr_ => ?_)⟩)⟩), (fun c_h3_ c_hr_ => ?_)⟩)
      · have cc : c_z1_ = b_z28_ := by rw [c_e2_, m9, e28]
        have ct := eT cc
        have X := after_both a_h15_ mH m50 mF mG c_hL_18 b_hL_63 ct (by omega) (Or.inl c_h5_) (Or.inr b_h36_)
        exact absurd X.1 (by omega)
      · have := eT c_hr_; exact absurd a_h30_ (by omega)
      · have := eT c_hr_; exact absurd a_h30_ (by omega)
      · have := eT c_hr_; exact absurd a_h30_ (by omega)
    · exfalso; omega
    · exfalso; omega
    · exact absurd a_h10_ b_h10_
    · exact (mw2 a_hs5_ b_hs5_).elim
  · have E := err2 a_hs38_
    refine xE_SP_X12_way h2 ⟨(fun b_hs5_ b_h4_ => ⟨(fun b_hs11_ b_h10_ => ⟨(fun b_h13_ b_M14_ _ b_hF18_ b_hs20_ b_h16_ b_r21_ b_hs25_ b_h24_ b_z26_ b_h27_ b_j30_ b_h31_ b_z28_ b_e29_ b_h32_ => ⟨(fun b_h33_ b_v5_63 b_hv0_63 b_v4_63 b_hv1_63 b_M_63 b_hL_63 _ b_hF_63 => ⟨(fun b_h35_ b_hr_ b_hM_ => ?_), (fun b_h35_ b_h36_ b_M88_ _ b_hF92_ b_r87_ b_hs94_ b_h90_ b_hr_ b_hM_ => ?_)⟩), (fun b_h33_ b_j98_ b_h99_ b_z96_ b_e97_ b_h100_ b_hr_ b_hM_ => ?_)⟩), (fun b_h13_ b_M102_ _ b_hF106_ b_r101_ b_hs108_ b_h104_ b_hr_ b_hM_ => ?_)⟩), (fun b_hs11_ b_h10_ b_M111_ _ b_hF115_ b_r110_ b_hs117_ b_h113_ b_hr_ b_hM_ => ?_)⟩), (fun b_hs5_ b_M120_ _ b_hF124_ b_r119_ b_hs126_ b_h122_ b_hr_ b_hM_ => ?_)⟩
    · obtain ⟨mF, mG, mH, m50, m9⟩ := main a_h15_ b_hs5_ a_h10_ a_hs23_ b_hF18_ b_h16_
      have e28 : b_z28_ = D.1 (50, 0, 0) (181 + 9 * a_j14_) := by rw [b_e29_, m50, show b_j30_ = 181 + 9 * a_j14_ by omega]
      have e28t := eT e28
      refine xE_SP_X0_cellAfter a_hs29_ (fun c_z1_ c_e2_ => ⟨(fun c_h3_ c_v5_18 c_hv0_18 c_v4_18 c_hL_18 => ⟨(fun c_h5_ c_hr_ => ?_), (fun c_h5_ => ⟨(fun c_h6_ c_hr_ => ?_), (fun c_h6_ c_h7_ c_hr_ => ?_)⟩)⟩), (fun c_h3_ c_hr_ => ?_)⟩)
      · have cc : c_z1_ = b_z28_ := by rw [c_e2_, m9, e28]
        have ct := eT cc
        have X := after_both a_h15_ mH m50 mF mG c_hL_18 b_hL_63 ct (by omega) (Or.inl c_h5_) (Or.inl b_h35_)
        have := eT c_hr_
        exact absurd X.2.2 (by omega)
      · have cc : c_z1_ = b_z28_ := by rw [c_e2_, m9, e28]
        have ct := eT cc
        have X := after_both a_h15_ mH m50 mF mG c_hL_18 b_hL_63 ct (by omega) (Or.inr (Or.inl c_h6_)) (Or.inl b_h35_)
        exact absurd X.1 (by omega)
      · have cc : c_z1_ = b_z28_ := by rw [c_e2_, m9, e28]
        have ct := eT cc
        have X := after_both a_h15_ mH m50 mF mG c_hL_18 b_hL_63 ct (by omega) (Or.inr (Or.inr c_h7_)) (Or.inl b_h35_)
        exact absurd X.1 (by omega)
      · have sb := steps_b m50 b_hL_63 b_h32_
        exfalso; omega
    · exact i32e (by rw [a_hr_, b_hr_]; omega)
    · exfalso; omega
    · exfalso; omega
    · exact absurd a_h10_ b_h10_
    · exact (mw2 a_hs5_ b_hs5_).elim
  · refine xE_SP_X12_way h2 ⟨(fun b_hs5_ b_h4_ => ⟨(fun b_hs11_ b_h10_ => ⟨(fun b_h13_ b_M14_ _ b_hF18_ b_hs20_ b_h16_ b_r21_ b_hs25_ b_h24_ b_z26_ b_h27_ b_j30_ b_h31_ b_z28_ b_e29_ b_h32_ => ⟨(fun b_h33_ b_v5_63 b_hv0_63 b_v4_63 b_hv1_63 b_M_63 b_hL_63 _ b_hF_63 => ⟨(fun b_h35_ b_hr_ b_hM_ => ?_), (fun b_h35_ b_h36_ b_M88_ _ b_hF92_ b_r87_ b_hs94_ b_h90_ b_hr_ b_hM_ => ?_)⟩), (fun b_h33_ b_j98_ b_h99_ b_z96_ b_e97_ b_h100_ b_hr_ b_hM_ => ?_)⟩), (fun b_h13_ b_M102_ _ b_hF106_ b_r101_ b_hs108_ b_h104_ b_hr_ b_hM_ => ?_)⟩), (fun b_hs11_ b_h10_ b_M111_ _ b_hF115_ b_r110_ b_hs117_ b_h113_ b_hr_ b_hM_ => ?_)⟩), (fun b_hs5_ b_M120_ _ b_hF124_ b_r119_ b_hs126_ b_h122_ b_hr_ b_hM_ => ?_)⟩
    · exfalso; omega
    · exfalso; omega
    · obtain ⟨mF, mG, mH, m50, m9⟩ := main a_h15_ b_hs5_ a_h10_ a_hs23_ b_hF18_ b_h16_
      have e28 : b_z28_ = D.1 (50, 0, 0) (181 + 9 * a_j14_) := by rw [b_e29_, m50, show b_j30_ = 181 + 9 * a_j14_ by omega]
      have cc : a_z39_ = b_z28_ := by rw [a_e40_, m9, e28]
      have ct := eT cc
      have F := x0from a_hs45_ (by omega)
      have U := FF_uniq mF mG (c := a_z39_.toInt.toNat) (by omega)
      have z := eT b_e97_
      rw [show b_j98_ = a_z39_.toInt.toNat by omega] at z
      unfold gq at F U
      exact i32e (by rw [a_hr_, b_hr_]; omega)
    · exfalso; omega
    · exact absurd a_h10_ b_h10_
    · exact (mw2 a_hs5_ b_hs5_).elim
  · have E := err1 a_hs53_
    refine xE_SP_X12_way h2 ⟨(fun b_hs5_ b_h4_ => ⟨(fun b_hs11_ b_h10_ => ⟨(fun b_h13_ b_M14_ _ b_hF18_ b_hs20_ b_h16_ b_r21_ b_hs25_ b_h24_ b_z26_ b_h27_ b_j30_ b_h31_ b_z28_ b_e29_ b_h32_ => ⟨(fun b_h33_ b_v5_63 b_hv0_63 b_v4_63 b_hv1_63 b_M_63 b_hL_63 _ b_hF_63 => ⟨(fun b_h35_ b_hr_ b_hM_ => ?_), (fun b_h35_ b_h36_ b_M88_ _ b_hF92_ b_r87_ b_hs94_ b_h90_ b_hr_ b_hM_ => ?_)⟩), (fun b_h33_ b_j98_ b_h99_ b_z96_ b_e97_ b_h100_ b_hr_ b_hM_ => ?_)⟩), (fun b_h13_ b_M102_ _ b_hF106_ b_r101_ b_hs108_ b_h104_ b_hr_ b_hM_ => ?_)⟩), (fun b_hs11_ b_h10_ b_M111_ _ b_hF115_ b_r110_ b_hs117_ b_h113_ b_hr_ b_hM_ => ?_)⟩), (fun b_hs5_ b_M120_ _ b_hF124_ b_r119_ b_hs126_ b_h122_ b_hr_ b_hM_ => ?_)⟩
    · exfalso; omega
    · exfalso; omega
    · exfalso; omega
    · exact i32e (by rw [a_hr_, b_hr_]; omega)
    · exact i32e (by rw [a_hr_, b_hr_]; omega)
    · exact i32e (by rw [a_hr_, b_hr_]; omega)
  · have E := err1 a_hs62_
    refine xE_SP_X12_way h2 ⟨(fun b_hs5_ b_h4_ => ⟨(fun b_hs11_ b_h10_ => ⟨(fun b_h13_ b_M14_ _ b_hF18_ b_hs20_ b_h16_ b_r21_ b_hs25_ b_h24_ b_z26_ b_h27_ b_j30_ b_h31_ b_z28_ b_e29_ b_h32_ => ⟨(fun b_h33_ b_v5_63 b_hv0_63 b_v4_63 b_hv1_63 b_M_63 b_hL_63 _ b_hF_63 => ⟨(fun b_h35_ b_hr_ b_hM_ => ?_), (fun b_h35_ b_h36_ b_M88_ _ b_hF92_ b_r87_ b_hs94_ b_h90_ b_hr_ b_hM_ => ?_)⟩), (fun b_h33_ b_j98_ b_h99_ b_z96_ b_e97_ b_h100_ b_hr_ b_hM_ => ?_)⟩), (fun b_h13_ b_M102_ _ b_hF106_ b_r101_ b_hs108_ b_h104_ b_hr_ b_hM_ => ?_)⟩), (fun b_hs11_ b_h10_ b_M111_ _ b_hF115_ b_r110_ b_hs117_ b_h113_ b_hr_ b_hM_ => ?_)⟩), (fun b_hs5_ b_M120_ _ b_hF124_ b_r119_ b_hs126_ b_h122_ b_hr_ b_hM_ => ?_)⟩
    · exact absurd b_h10_ a_h10_
    · exact absurd b_h10_ a_h10_
    · exact absurd b_h10_ a_h10_
    · exact absurd b_h10_ a_h10_
    · exact i32e (by rw [a_hr_, b_hr_]; omega)
    · exact i32e (by rw [a_hr_, b_hr_]; omega)
  · have E := err1 a_hs71_
    refine xE_SP_X12_way h2 ⟨(fun b_hs5_ b_h4_ => ⟨(fun b_hs11_ b_h10_ => ⟨(fun b_h13_ b_M14_ _ b_hF18_ b_hs20_ b_h16_ b_r21_ b_hs25_ b_h24_ b_z26_ b_h27_ b_j30_ b_h31_ b_z28_ b_e29_ b_h32_ => ⟨(fun b_h33_ b_v5_63 b_hv0_63 b_v4_63 b_hv1_63 b_M_63 b_hL_63 _ b_hF_63 => ⟨(fun b_h35_ b_hr_ b_hM_ => ?_), (fun b_h35_ b_h36_ b_M88_ _ b_hF92_ b_r87_ b_hs94_ b_h90_ b_hr_ b_hM_ => ?_)⟩), (fun b_h33_ b_j98_ b_h99_ b_z96_ b_e97_ b_h100_ b_hr_ b_hM_ => ?_)⟩), (fun b_h13_ b_M102_ _ b_hF106_ b_r101_ b_hs108_ b_h104_ b_hr_ b_hM_ => ?_)⟩), (fun b_hs11_ b_h10_ b_M111_ _ b_hF115_ b_r110_ b_hs117_ b_h113_ b_hr_ b_hM_ => ?_)⟩), (fun b_hs5_ b_M120_ _ b_hF124_ b_r119_ b_hs126_ b_h122_ b_hr_ b_hM_ => ?_)⟩
    · exact (mw a_hs5_ b_hs5_ rfl).elim
    · exact (mw a_hs5_ b_hs5_ rfl).elim
    · exact (mw a_hs5_ b_hs5_ rfl).elim
    · exact i32e (by rw [a_hr_, b_hr_]; omega)
    · exact i32e (by rw [a_hr_, b_hr_]; omega)
    · exact i32e (by rw [a_hr_, b_hr_]; omega)
