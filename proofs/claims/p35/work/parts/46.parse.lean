/-! the parse of a text: what is coded lies behind what is read; the pile -/
def PP (M : mM) (s : Int) (D : Nat) (a T : Int) : Prop :=
  (M.1 (12, 0, 0) 14).toInt + s ≤ (M.1 (12, 0, 0) 9).toInt ∧ a ≤ (M.1 (12, 0, 0) 9).toInt ∧ (M.1 (12, 0, 0) 9).toInt ≤ T ∧ (M.1 (50, 0, 0) 4).toInt = T ∧ (M.1 (12, 0, 0) 13 = 1 ∨ dpt (M.1 (57, 0, 0)) 0 (M.1 (12, 0, 0) 14).toInt.toNat = some D)
theorem PP_cong {M M' : mM} {s : Int} {D : Nat} {a T : Int} (h : PP M s D a T) (h1 : M'.1 (12, 0, 0) 14 = M.1 (12, 0, 0) 14) (h2 : M'.1 (12, 0, 0) 9 = M.1 (12, 0, 0) 9) (h3 : M'.1 (50, 0, 0) 4 = M.1 (50, 0, 0) 4) (h4 : M'.1 (12, 0, 0) 13 = M.1 (12, 0, 0) 13) (h5 : M'.1 (57, 0, 0) = M.1 (57, 0, 0)) : PP M' s D a T := by
  unfold PP
  rw [h1, h2, h3, h4, h5]; exact h
theorem PP_mono {M : mM} {s s' : Int} {D : Nat} {a a' T : Int} (h : PP M s D a T) (hs : s' ≤ s) (ha : a' ≤ a) : PP M s' D a' T := ⟨by have := h.1; omega, by have := h.2.1; omega, h.2.2⟩
theorem PP_self {M : mM} {s : Int} {D : Nat} {a T : Int} (h : PP M s D a T) : PP M s D (M.1 (12, 0, 0) 9).toInt T := ⟨h.1, Int.le_refl _, h.2.2⟩
theorem PP_wr {M : mM} {s : Int} {D E : Nat} {a T : Int} (h : PP M s D a T) (hw : M.1 (12, 0, 0) 13 = 1) : PP M s E a T := ⟨h.1, h.2.1, h.2.2.1, h.2.2.2.1, Or.inl hw⟩
theorem up_o {M M' : mM} {c c' : rf} {k k' : Nat} {v : Int32} (he : M' = up M c k v) (h : ¬ (c' = c ∧ k' = k)) : M'.1 c' k' = M.1 c' k' := by rw [he]; exact up_ne h
theorem up_s {M M' : mM} {c : rf} {k : Nat} {v : Int32} (he : M' = up M c k v) : M'.1 c k = v := by rw [he]; exact up_same _ _ _ _
theorem up_r {M M' : mM} {c c' : rf} {k : Nat} {v : Int32} (he : M' = up M c k v) (h : c' ≠ c) : M'.1 c' = M.1 c' := by rw [he]; exact up_other _ _ h
/-- at goes on by one -/
theorem PP_at {M M' : mM} {s : Int} {D : Nat} {a T : Int} {z : Int32} (h : PP M s D a T) (he : M' = up M (12, 0, 0) 9 z) (hz : z.toInt = (M.1 (12, 0, 0) 9).toInt + 1) (ht : (M.1 (12, 0, 0) 9).toInt < T) : PP M' (s + 1) D (a + 1) T := by
  unfold PP
  rw [up_o he (by simp), up_s he, up_o he (by simp), up_o he (by simp), up_r he (by simp)]
  obtain ⟨h1, h2, h3, h4, h5⟩ := h
  exact ⟨by omega, by omega, by omega, h4, h5⟩
theorem PP_put0 {M M' : mM} {s : Int} {D : Nat} {a T : Int} (h : PP M s D a T) (he : M' = up M (12, 0, 0) 13 0) (hw : M.1 (12, 0, 0) 13 = 0) : PP M' s D a T := PP_cong h (up_o he (by simp)) (up_o he (by simp)) (up_o he (by simp)) (by rw [up_s he, hw]) (up_r he (by simp))
theorem PP_put1 {M M' : mM} {s : Int} {D E : Nat} {a T : Int} (h : PP M s D a T) (he : M' = up M (12, 0, 0) 13 1) : PP M' s E a T := by
  obtain ⟨h1, h2, h3, h4, h5⟩ := h
  unfold PP
  rw [up_o he (by simp), up_o he (by simp), up_o he (by simp), up_s he]
  exact ⟨h1, h2, h3, h4, Or.inl rfl⟩
theorem zW {z : Int32} (h : 0 ≤ z.toInt ∧ z.toInt ≤ 1) (h2 : ¬ z.toInt = 0) : z = 1 := Int32.toInt_inj.mp (show z.toInt = 1 by omega)
theorem z0 {z : Int32} (h : z.toInt = 0) : z = 0 := Int32.toInt_inj.mp h
theorem dpt_upd {f : Nat → Int32} {n j : Nat} {v : Int32} (hj : n ≤ j) : dpt (upd f j v) 0 n = dpt f 0 n := dpt_cong n (fun i hi => if_neg (by omega))
/-- a code is laid -/
theorem codes_fin {M M1 M2 : mM} {j : Nat} {v c c' : Int32} {s : Int} {D E : Nat} {a T : Int} (h : PP M s D a T) (h1 : M1 = up M (57, 0, 0) j v) (h2 : M2 = up M1 (12, 0, 0) 14 c') (hj : (j : Int) = c.toInt) (hc : c = M.1 (12, 0, 0) 14) (hc' : c'.toInt = c.toInt + 1) (hw : M.1 (12, 0, 0) 13 = 0) (hv : stp v.toInt (some D) = some E) : PP M2 (s - 1) E a T := by
  obtain ⟨g1, g2, g3, g4, g5⟩ := h
  have e1 : M2.1 (57, 0, 0) = upd (M.1 (57, 0, 0)) j v := by rw [up_r h2 (by simp), h1, up_row]
  have e2 : M2.1 (12, 0, 0) 14 = c' := up_s h2
  have e3 : M2.1 (12, 0, 0) 9 = M.1 (12, 0, 0) 9 := by rw [up_o h2 (by simp), up_o h1 (by simp)]
  have e4 : M2.1 (50, 0, 0) 4 = M.1 (50, 0, 0) 4 := by rw [up_o h2 (by simp), up_o h1 (by simp)]
  unfold PP
  rw [e1, e2, e3, e4]
  refine ⟨by rw [← hc] at g1; omega, g2, g3, g4, Or.inr ?_⟩
  have g6 : dpt (M.1 (57, 0, 0)) 0 c.toInt.toNat = some D := by
    rcases g5 with g | g
    · rw [hw] at g; exact absurd g (by decide)
    · rw [hc]; exact g
  rw [show c'.toInt.toNat = j + 1 by omega, dpt, dpt_upd (Nat.le_refl j), Nat.zero_add, show upd (M.1 (57, 0, 0)) j v j = v from if_pos rfl, show j = c.toInt.toNat by omega, g6]
  exact hv
theorem codes_wr {M : mM} {s : Int} {D E : Nat} {a T : Int} (h : PP M s D a T) (hw : M.1 (12, 0, 0) 13 = 1) : PP M (s - 1) E a T := PP_wr (PP_mono h (by omega) (Int.le_refl _)) hw
theorem stp_n {v : Int32} {D : Nat} (h : 0 ≤ v.toInt ∧ v.toInt < 1005) : stp v.toInt (some D) = some (D + 1) := by
  unfold stp
  dsimp only
  rw [if_pos h]
theorem stp_op {v : Int32} {D : Nat} (h : 2000 ≤ v.toInt ∧ v.toInt < 2008) : stp v.toInt (some (D + 1 + 1)) = some (D + 1) := by
  unfold stp
  dsimp only
  rw [if_neg (by omega), if_neg (by omega), if_neg (by omega), if_pos h, if_pos (by omega)]; rfl
theorem stp_t {D : Nat} : stp (2008 : Int32).toInt (some (D + 1)) = some (D + 1) := by
  unfold stp
  dsimp only
  rw [if_neg (by decide), if_pos (by decide), if_pos (by omega)]
theorem stp_c {D : Nat} : stp (2009 : Int32).toInt (some (D + 1 + 1 + 1)) = some (D + 1) := by
  unfold stp
  dsimp only
  rw [if_neg (by decide), if_neg (by decide), if_pos (by decide), if_pos (by omega)]; rfl
def isX (v : Int32) : Int := if 0 < v.toInt then 1 else 0
theorem isX_p {v : Int32} (h : 0 < v.toInt) : isX v = 1 := if_pos h
theorem isX_0 {v : Int32} (h : v.toInt ≤ 0) : isX v = 0 := if_neg (by omega)
theorem isX_b (v : Int32) : 0 ≤ isX v ∧ isX v ≤ 1 := by unfold isX; split <;> omega
theorem PP_meas {M M' : mM} {s' : Int} {E : Nat} {T A : Int} {x x' : Int32} (h : PP M' s' E (A + isX x') T) (hA : A = (M.1 (12, 0, 0) 9).toInt) (hx : 0 < x.toInt) : (2 * (T - (M'.1 (12, 0, 0) 9).toInt) + isX x').toNat < (2 * (T - (M.1 (12, 0, 0) 9).toInt) + isX x).toNat := by
  have h1 := h.2.1
  have h2 := h.2.2.1
  have h3 := isX_b x'
  rw [isX_p hx]
  omega
/-- the byte at hand is a digit -/
def DG (M : mM) : Prop := (M.1 (12, 0, 0) 9).toInt < (M.1 (50, 0, 0) 4).toInt ∧ ∀ j : Nat, (j : Int) = 273 + (M.1 (12, 0, 0) 9).toInt → 48 ≤ (M.1 (50, 0, 0) j).toInt ∧ (M.1 (50, 0, 0) j).toInt ≤ 57
theorem dg_1 {M : mM} {k z1 z2 : Int32} (hd : k.toInt = 0 → DG M) (h1 : z1 = M.1 (12, 0, 0) 9) (h2 : z2 = M.1 (50, 0, 0) 4) (h : z2.toInt ≤ z1.toInt) : ¬ k.toInt = 0 := fun q => by
  have := (hd q).1
  rw [← h1, ← h2] at this
  omega
theorem dg_2 {M : mM} {k z1 z : Int32} {j : Nat} (hd : k.toInt = 0 → DG M) (h1 : z1 = M.1 (12, 0, 0) 9) (hz : z = M.1 (50, 0, 0) j) (hj : (j : Int) = 273 + z1.toInt) (h : ¬ (48 ≤ z.toInt ∧ z.toInt ≤ 57)) : ¬ k.toInt = 0 := fun q => by
  refine h ?_
  rw [hz]
  exact (hd q).2 j (by rw [← h1]; exact hj)
/-- what here() says of a byte -/
def HB (M : mM) (r : Int32) : Prop := r.toInt = -1 ∨ (M.1 (12, 0, 0) 13 = 0 ∧ (M.1 (12, 0, 0) 9).toInt < (M.1 (50, 0, 0) 4).toInt ∧ ∀ j : Nat, (j : Int) = 273 + (M.1 (12, 0, 0) 9).toInt → r = M.1 (50, 0, 0) j)
theorem HB_in {M : mM} {r z1 z2 w : Int32} {j : Nat} (hw : w = M.1 (12, 0, 0) 13) (hw0 : w.toInt = 0) (h1 : z1 = M.1 (12, 0, 0) 9) (h2 : z2 = M.1 (50, 0, 0) 4) (h : z1.toInt < z2.toInt) (hz : r = M.1 (50, 0, 0) j) (hj : (j : Int) = 273 + z1.toInt) : HB M r := Or.inr ⟨by rw [← hw]; exact z0 hw0, by rw [← h1, ← h2]; exact h, fun i hi => by
  rw [hz]
  rw [← h1] at hi
  rw [show i = j by omega]⟩
theorem HB_ok {M : mM} {r : Int32} {s : Int} {D : Nat} {a T : Int} (h : HB M r) (hp : PP M s D a T) (h0 : ¬ r.toInt = -1) : M.1 (12, 0, 0) 13 = 0 ∧ (M.1 (12, 0, 0) 9).toInt < T := by
  rcases h with h | h
  · exact absurd h h0
  · exact ⟨h.1, by have := hp.2.2.2.1; omega⟩
theorem HB_dg {M : mM} {r : Int32} (h : HB M r) (h0 : 48 ≤ r.toInt ∧ r.toInt ≤ 57) : DG M := by
  rcases h with h | h
  · omega
  · exact ⟨h.2.1, fun j hj => by rw [← h.2.2 j hj]; exact h0⟩
/-- the texts while one of them is written -/
def WT1 (f : Nat → Int32) (u : Nat) : Prop := ∃ n D : Nat, n ≤ 48 ∧ (f (345 + 50 * u)).toInt = (n : Int) ∧ dpt f (345 + 50 * u + 1) n = some D
def InvT (u : Nat) (M : mM) : Prop := (∀ (c : rf) (k : Nat), IND c.1 k (M.1 c k)) ∧ (∀ k, PN k (M.1 (50, 0, 0) k)) ∧ (∀ u', u' < 3 → ¬ u' = u → WT1 (M.1 (50, 0, 0)) u') ∧ NW5 (M.1 (51, 0, 0)) ∧ NW5 (M.1 (52, 0, 0))
theorem InvT.of {u : Nat} {M : mM} (h : InvD M) : InvT u M := ⟨h.1, h.2.1.1, fun u' h1 _ => h.2.1.2 u' h1, h.2.2⟩
theorem InvT.putT {u : Nat} {M M' : mM} {j : Nat} {v : Int32} (h : InvT u M) (he : M' = up M (50, 0, 0) j v) (hj : 345 + 50 * u ≤ j ∧ j < 395 + 50 * u) : InvT u M' := by
  subst he
  refine ⟨fun c' k' => ?_, fun k => ?_, fun u' h1 h2 => ?_, ?_, ?_⟩
  · by_cases e : c' = (50, 0, 0) ∧ k' = j
    · rw [e.1, e.2, up_same]; trivial
    · rw [up_ne e]; exact h.1 c' k'
  · rw [up_row]; exact PN_upd h.2.1 (PN_out (by omega)) k
  · rw [up_row]
    obtain ⟨n, D, g1, g2, g3⟩ := h.2.2.1 u' h1 h2
    have hx : ∀ i, 345 + 50 * u' ≤ i → i ≤ 393 + 50 * u' → upd (M.1 (50, 0, 0)) j v i = M.1 (50, 0, 0) i := fun i a b => if_neg (by omega)
    exact ⟨n, D, g1, by rw [hx _ (by omega) (by omega)]; exact g2, by rw [dpt_cong (g := M.1 (50, 0, 0)) (b := 345 + 50 * u' + 1) n (fun i hi => hx _ (by omega) (by omega))]; exact g3⟩
  · rw [up_other j v (by decide)]; exact h.2.2.2.1
  · rw [up_other j v (by decide)]; exact h.2.2.2.2
def TX (M : mM) (u : Nat) (k : Int) : Prop := ∃ n D : Nat, n ≤ 48 ∧ (M.1 (12, 0, 0) 14).toInt = (n : Int) ∧ M.1 (50, 0, 0) (345 + 50 * u) = M.1 (12, 0, 0) 14 ∧ dpt (M.1 (57, 0, 0)) 0 n = some D ∧ ∀ i : Nat, (i : Int) < k → i < n → M.1 (50, 0, 0) (345 + 50 * u + 1 + i) = M.1 (57, 0, 0) i
theorem TX_0 {M M' : mM} {u j : Nat} {z : Int32} (h48 : (M.1 (12, 0, 0) 14).toInt ≤ 48) (h0 : 0 ≤ (M.1 (12, 0, 0) 14).toInt) (hd : dpt (M.1 (57, 0, 0)) 0 (M.1 (12, 0, 0) 14).toInt.toNat = some 1) (he : M' = up M (50, 0, 0) j z) (hz : z = M.1 (12, 0, 0) 14) (hj : j = 345 + 50 * u) : TX M' u 0 := by
  refine ⟨(M.1 (12, 0, 0) 14).toInt.toNat, 1, by omega, ?_, ?_, ?_, fun i hi _ => absurd hi (by omega)⟩
  · rw [up_o he (by simp)]; omega
  · rw [← hj, up_s he, up_o he (by simp)]; exact hz
  · rw [up_r he (by simp)]; exact hd
theorem TX_s {M M' : mM} {u j j2 : Nat} {z : Int32} {k k' : Int} (h : TX M u k) (he : M' = up M (50, 0, 0) j z) (hz : z = M.1 (57, 0, 0) j2) (hj : (j : Int) = 346 + 50 * u + k) (hj2 : (j2 : Int) = k) (h0 : 0 ≤ k) (hk : k' = k + 1) : TX M' u k' := by
  obtain ⟨n, D, h1, h2, h3, h4, h5⟩ := h
  refine ⟨n, D, h1, by rw [up_o he (by simp)]; exact h2, ?_, by rw [up_r he (by simp)]; exact h4, fun i hi hn => ?_⟩
  · rw [up_o he (by simp; omega), up_o he (by simp)]; exact h3
  · rw [up_r (c' := (57, 0, 0)) he (by simp)]
    by_cases e : 345 + 50 * u + 1 + i = j
    · rw [e, up_s he, hz]
      rw [show j2 = i by omega]
    · rw [up_o he (fun q => e q.2)]
      exact h5 i (by omega) hn
theorem TX_end {M : mM} {u : Nat} {k c : Int32} (h : TX M u k.toInt) (hI : InvT u M) (hu : u < 3) (hc : c = M.1 (12, 0, 0) 14) (hk : c.toInt ≤ k.toInt) : InvD M := by
  obtain ⟨n, D, h1, h2, h3, h4, h5⟩ := h
  have hw : WT1 (M.1 (50, 0, 0)) u := ⟨n, D, h1, by rw [h3]; exact h2, by
    rw [dpt_cong (g := M.1 (57, 0, 0)) (b := 0) n (fun i hi => by rw [Nat.zero_add]; exact h5 i (by rw [← hc] at h2; omega) hi)]; exact h4⟩
  refine ⟨hI.1, ⟨hI.2.1, fun u' hu' => ?_⟩, hI.2.2.2⟩
  by_cases e : u' = u
  · rw [e]; exact hw
  · exact hI.2.2.1 u' hu' e
theorem PP_start {M : mM} {z : Int32} (ha : (M.1 (12, 0, 0) 9).toInt = 0) (hc : (M.1 (12, 0, 0) 14).toInt = 0) (h : InvD M) : PP M 0 0 0 (M.1 (50, 0, 0) 4).toInt := by
  have h4 := (h.2.1.1 4).2.2.2.1 rfl
  refine ⟨by omega, by omega, by omega, rfl, Or.inr ?_⟩
  rw [hc]; rfl
theorem at_lt {M : mM} {s : Int} {D : Nat} {a T : Int} {z1 z2 : Int32} (h : PP M s D a T) (e1 : z1 = M.1 (12, 0, 0) 9) (e2 : z2 = M.1 (50, 0, 0) 4) (hlt : z1.toInt < z2.toInt) : (M.1 (12, 0, 0) 9).toInt < T := by
  have := h.2.2.2.1
  rw [← e2] at this
  rw [← e1]; omega
theorem PP_atS {M M' : mM} {s : Int} {D : Nat} {a T : Int} {z : Int32} (h : PP M s D a T) (he : M' = up M (12, 0, 0) 9 z) (hz : z.toInt = (M.1 (12, 0, 0) 9).toInt) : PP M' s D a T := by
  unfold PP
  rw [up_o he (by simp), up_s he, up_o he (by simp), up_o he (by simp), up_r he (by simp), hz]
  exact h
theorem PP_m0 {M M' : mM} {T : Int} {z : Int32} (he : M' = up M (12, 0, 0) 9 z) (hz : z.toInt = (M.1 (12, 0, 0) 9).toInt + 1) (ht : (M.1 (12, 0, 0) 9).toInt < T) : (T - (M'.1 (12, 0, 0) 9).toInt).toNat < (T - (M.1 (12, 0, 0) 9).toInt).toNat := by
  rw [up_s he]; omega
theorem PP_c48 {M : mM} {s : Int} {D : Nat} {a T : Int} (hI : InvD M) (h : PP M s D a T) (hs : 0 ≤ s) : (M.1 (12, 0, 0) 14).toInt ≤ 48 := by
  have h4 := (hI.2.1.1 4).2.2.2.1 rfl
  obtain ⟨h1, h2, h3, h5, h6⟩ := h
  omega
theorem PP_a48 {M : mM} {s : Int} {D : Nat} {a T : Int} (hI : InvD M) (h : PP M s D a T) (ht : (M.1 (12, 0, 0) 9).toInt < T) : (M.1 (12, 0, 0) 9).toInt ≤ 47 := by
  have h4 := (hI.2.1.1 4).2.2.2.1 rfl
  have := h.2.2.2.1
  omega
theorem PP_D {M : mM} {s : Int} {D : Nat} {a T : Int} (h : PP M s D a T) (hw : M.1 (12, 0, 0) 13 = 0) : dpt (M.1 (57, 0, 0)) 0 (M.1 (12, 0, 0) 14).toInt.toNat = some D := by
  rcases h.2.2.2.2 with g | g
  · rw [hw] at g; exact absurd g (by decide)
  · exact g
theorem use3 {M : mM} (h : InvD M) : (M.1 (12, 0, 0) 10).toInt = 0 ∨ (M.1 (12, 0, 0) 10).toInt = 1 ∨ (M.1 (12, 0, 0) 10).toInt = 2 := by
  have h1 : 0 ≤ (M.1 (12, 0, 0) 10).toInt ∧ (M.1 (12, 0, 0) 10).toInt ≤ 2 := h.1 (12, 0, 0) 10
  omega
