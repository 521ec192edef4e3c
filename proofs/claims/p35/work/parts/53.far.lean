/-! ways: neighbours, costs, how far -/
def nbP (c s n : Nat) : Prop := n < 192 ∧ ((s = 0 ∧ n + 16 = c) ∨ (s = 2 ∧ ¬ c % 16 = 15 ∧ n = c + 1) ∨ (s = 4 ∧ n = c + 16) ∨ (s = 6 ∧ ¬ c % 16 = 0 ∧ n + 1 = c))
def XQ (c k : Nat) : Int := (c : Int) % 16 + (if k = 1 then 1 else if k = 3 then -1 else 0)
def YQ (c k : Nat) : Int := (c : Int) / 16 + (if k = 0 then -1 else if k = 2 then 1 else 0)
theorem onq : ∀ c, c < 192 → ∀ k, k < 4 → (onX (nI c) (nI (2 * k)) 1).toInt = XQ c k ∧ (onY (nI c) (nI (2 * k)) 1).toInt = YQ c k := by decide +kernel
/-- on() by one yard, to the four sides -/
theorem on1 {v u r : Int32} (h : onP v u 1 r) (hv : 0 ≤ v.toInt ∧ v.toInt ≤ 191) (hu : u.toInt = 0 ∨ u.toInt = 2 ∨ u.toInt = 4 ∨ u.toInt = 6) : (r.toInt = -1 ∧ ∀ n, ¬ nbP v.toInt.toNat u.toInt.toNat n) ∨ (0 ≤ r.toInt ∧ r.toInt ≤ 191 ∧ nbP v.toInt.toNat u.toInt.toNat r.toInt.toNat) := by
  obtain ⟨c, hc⟩ : ∃ c : Nat, v.toInt = (c : Int) := ⟨v.toInt.toNat, by omega⟩
  obtain ⟨k, hk, hk4⟩ : ∃ k : Nat, u.toInt = ((2 * k : Nat) : Int) ∧ k < 4 := by
    rcases hu with q | q | q | q
    · exact ⟨0, by omega, by omega⟩
    · exact ⟨1, by omega, by omega⟩
    · exact ⟨2, by omega, by omega⟩
    · exact ⟨3, by omega, by omega⟩
  have q := onq c (by omega) k hk4
  rw [← nI_of_toInt hc, ← nI_of_toInt hk] at q
  unfold XQ YQ at q
  unfold onP onIn at h
  rw [q.1, q.2] at h
  unfold nbP
  rw [hc, hk]
  obtain rfl | rfl | rfl | rfl : k = 0 ∨ k = 1 ∨ k = 2 ∨ k = 3 := by omega
  all_goals
    simp at h
    rcases h with ⟨h, h2⟩ | ⟨h, h2⟩
    · right
      refine ⟨by omega, by omega, by omega, by omega⟩
    · left
      refine ⟨h2, fun n => by omega⟩
theorem nbP_sym {c s n : Nat} (h : nbP c s n) (hc : c < 192) : ∃ s', (s' = 0 ∨ s' = 2 ∨ s' = 4 ∨ s' = 6) ∧ nbP n s' c := by
  unfold nbP at *
  rcases h with ⟨h0, h | h | h | h⟩
  · exact ⟨4, by omega, hc, by omega⟩
  · exact ⟨6, by omega, hc, by omega⟩
  · exact ⟨0, by omega, hc, by omega⟩
  · exact ⟨2, by omega, hc, by omega⟩
theorem nbP_fun {c s n n' : Nat} (h : nbP c s n) (h' : nbP c s n') : n = n' := by
  unfold nbP at *
  omega
theorem nbP_s {c s n : Nat} (h : nbP c s n) : s = 0 ∨ s = 2 ∨ s = 4 ∨ s = 6 := by
  unfold nbP at h
  omega
def heldZ (f : Nat → Int32) (w : Int32) (c : Int) : Int := if (f (687 + 384 * w.toInt + c).toNat).toInt < (f (495 + 384 * w.toInt + c).toNat).toInt then 2 else if (f (495 + 384 * w.toInt + c).toNat).toInt < (f (687 + 384 * w.toInt + c).toNat).toInt then 1 else 0
def costZ (f : Nat → Int32) (w : Int32) (c : Int) : Int := if heldZ f w c = 1 then 1 else if heldZ f w c = 0 then 3 else 20
theorem costZ_b (f : Nat → Int32) (w : Int32) (c : Int) : 1 ≤ costZ f w c ∧ costZ f w c ≤ 20 := by
  unfold costZ
  split
  · omega
  · split <;> omega
theorem heldZ_of {f : Nat → Int32} {w : Int32} {c : Int} {j1 j2 : Nat} {z1 z2 : Int32} (h1 : (j1 : Int) = 495 + 384 * w.toInt + c) (h2 : (j2 : Int) = 687 + 384 * w.toInt + c) (e1 : z1 = f j1) (e2 : z2 = f j2) : heldZ f w c = if z2.toInt < z1.toInt then 2 else if z1.toInt < z2.toInt then 1 else 0 := by
  unfold heldZ
  rw [show (495 + 384 * w.toInt + c).toNat = j1 by omega, show (687 + 384 * w.toInt + c).toNat = j2 by omega, ← e1, ← e2]
def gq (f : Nat → Int32) (c : Nat) : Int := (f c).toInt
def FA (f : Nat → Int32) (t : Int) : Prop := ∀ c : Nat, c < 192 → 0 ≤ gq f c ∧ gq f c ≤ 1000000 ∧ ((c : Int) = t → gq f c = 0)
def FB (f g : Nat → Int32) (w : Int32) (t : Int) : Prop := ∀ c : Nat, c < 192 → ¬ (c : Int) = t → gq f c < 1000000 → ∃ s n : Nat, nbP c s n ∧ gq f n + costZ g w n ≤ gq f c
/-- all sides of the cells below k, and of cell k the sides below s, are done -/
def RX (f g : Nat → Int32) (w : Int32) (k s : Int) : Prop := ∀ c : Nat, c < 192 → ∀ s' n : Nat, nbP c s' n → ((c : Int) < k ∨ ((c : Int) = k ∧ (s' : Int) < s)) → gq f n ≤ gq f c + costZ g w c
def FF (f g : Nat → Int32) (w : Int32) (t : Int) : Prop := FA f t ∧ FB f g w t ∧ RX f g w 192 0
/-- the first loop -/
def FZ (f : Nat → Int32) (t k : Int) : Prop := ∀ c : Nat, (c : Int) < k → gq f c = if (c : Int) = t then 0 else 1000000
theorem gq_s (f : Nat → Int32) (j : Nat) (v : Int32) : gq (upd f j v) j = v.toInt := by unfold gq; rw [show upd f j v j = v from if_pos rfl]
theorem gq_o {f : Nat → Int32} {j i : Nat} {v : Int32} (h : ¬ i = j) : gq (upd f j v) i = gq f i := by unfold gq; rw [show upd f j v i = f i from if_neg h]
theorem FZ_step {M M' : mM} {j : Nat} {v : Int32} {t k k' : Int} (h : FZ (M.1 (61, 0, 0)) t k) (he : M' = up M (61, 0, 0) j v) (hj : (j : Int) = k) (hk : k' = k + 1) (hv : v.toInt = if k = t then 0 else 1000000) : FZ (M'.1 (61, 0, 0)) t k' := by
  intro c hc
  rw [he, up_row]
  by_cases e : c = j
  · rw [e, gq_s, hv, hj]
  · rw [gq_o e]; exact h c (by omega)
theorem FZ_end {f g : Nat → Int32} {w : Int32} {t k : Int} (h : FZ f t k) (hk : 192 ≤ k) : FA f t ∧ FB f g w t := by
  refine ⟨fun c hc => ?_, fun c hc ht hl => ?_⟩
  · rw [h c (by omega)]
    split <;> omega
  · rw [h c (by omega), if_neg ht] at hl
    omega
def smF (f : Nat → Int32) : Nat → Nat
  | 0 => 0
  | n + 1 => smF f n + (gq f n).toNat
theorem smF_o {f : Nat → Int32} {j : Nat} {v : Int32} : ∀ n, n ≤ j → smF (upd f j v) n = smF f n
  | 0, _ => rfl
  | n + 1, h => by
    show smF (upd f j v) n + _ = smF f n + _
    rw [smF_o n (by omega), gq_o (by omega)]
theorem smF_lt {f : Nat → Int32} {j : Nat} {v : Int32} (h0 : 0 ≤ v.toInt) (h : v.toInt < gq f j) : ∀ n, j < n → smF (upd f j v) n < smF f n
  | 0, hn => absurd hn (by omega)
  | n + 1, hn => by
    show smF (upd f j v) n + _ < smF f n + _
    by_cases e : n = j
    · rw [smF_o n (by omega), e, gq_s]
      omega
    · rw [gq_o e]
      have := smF_lt h0 h n (by omega)
      omega
/-- one cell comes nearer -/
theorem FI_put {f g : Nat → Int32} {w : Int32} {t : Int} {c s n : Nat} {v : Int32} (ha : FA f t) (hb : FB f g w t) (hc : c < 192) (hn : nbP c s n) (hv : v.toInt = gq f c + costZ g w c) (hl : v.toInt < gq f n) : FA (upd f n v) t ∧ FB (upd f n v) g w t := by
  have hcost := costZ_b g w c
  have hn1 : n < 192 := hn.1
  have hac := ha c hc
  have han := ha n hn1
  have hnc : ¬ c = n := fun q => by rw [← q] at hl; omega
  refine ⟨fun d hd => ?_, fun d hd ht hl2 => ?_⟩
  · by_cases e : d = n
    · rw [e, gq_s]
      exact ⟨by omega, by omega, fun q => by have := han.2.2 q; omega⟩
    · rw [gq_o e]; exact ha d hd
  · by_cases e : d = n
    · obtain ⟨s', h1, h2⟩ := nbP_sym hn hc
      refine ⟨s', c, by rw [e]; exact h2, ?_⟩
      rw [e, gq_s, gq_o hnc]
      omega
    · rw [gq_o e] at hl2 ⊢
      obtain ⟨s', m, h1, h2⟩ := hb d hd ht hl2
      refine ⟨s', m, h1, ?_⟩
      by_cases q : m = n
      · rw [q, gq_s]
        rw [q] at h2
        omega
      · rw [gq_o q]; exact h2
theorem RX_side {f g : Nat → Int32} {w : Int32} {k s s' : Int} (h : RX f g w k s) (hs : s' = s + 2) (hn : ∀ n : Nat, nbP k.toNat s.toNat n → gq f n ≤ gq f k.toNat + costZ g w k.toNat) (h0 : 0 ≤ k ∧ 0 ≤ s) (he : s % 2 = 0) : RX f g w k s' := by
  intro c hc s2 n hnb hq
  rcases hq with q | ⟨q1, q2⟩
  · exact h c hc s2 n hnb (Or.inl q)
  · have := nbP_s hnb
    rcases Int.lt_or_le (s2 : Int) s with q3 | q3
    · exact h c hc s2 n hnb (Or.inr ⟨q1, q3⟩)
    · have e1 : s2 = s.toNat := by omega
      have e2 : c = k.toNat := by omega
      rw [e1, e2] at hnb
      rw [e2]
      exact hn n hnb
theorem RX_cell {f g : Nat → Int32} {w : Int32} {k k' s : Int} (h : RX f g w k s) (hs : 8 ≤ s) (hk : k' = k + 1) : RX f g w k' 0 := by
  intro c hc s2 n hnb hq
  have := nbP_s hnb
  exact h c hc s2 n hnb (by omega)
theorem RX_0 {f g : Nat → Int32} {w : Int32} : RX f g w 0 0 := fun c hc s n hnb hq => by omega
/-- all cells are near -/
theorem FF_near {f g : Nat → Int32} {w : Int32} {t : Int} (h : FF f g w t) (ht : 0 ≤ t ∧ t < 192) : ∀ c : Nat, c < 192 → gq f c < 1000000 := by
  have key : ∀ k : Nat, ∀ c : Nat, c < 192 → ((c % 16 : Nat) : Int) - t % 16 ≤ k ∧ t % 16 - ((c % 16 : Nat) : Int) ≤ k ∧ ((c / 16 : Nat) : Int) - t / 16 ≤ k ∧ t / 16 - ((c / 16 : Nat) : Int) ≤ k ∧ (((c % 16 : Nat) : Int) - t % 16) + (((c / 16 : Nat) : Int) - t / 16) ≤ k ∧ (((c % 16 : Nat) : Int) - t % 16) + (t / 16 - ((c / 16 : Nat) : Int)) ≤ k ∧ (t % 16 - ((c % 16 : Nat) : Int)) + (((c / 16 : Nat) : Int) - t / 16) ≤ k ∧ (t % 16 - ((c % 16 : Nat) : Int)) + (t / 16 - ((c / 16 : Nat) : Int)) ≤ k → gq f c ≤ 20 * k := by
    intro k
    induction k with
    | zero =>
      intro c hc hd
      have e : (c : Int) = t := by omega
      rw [(h.1 c hc).2.2 e]; omega
    | succ k ih =>
      intro c hc hd
      by_cases e : (c : Int) = t
      · rw [(h.1 c hc).2.2 e]; omega
      · have go : ∀ p s : Nat, p < 192 → nbP p s c → (((p % 16 : Nat) : Int) - t % 16 ≤ k ∧ t % 16 - ((p % 16 : Nat) : Int) ≤ k ∧ ((p / 16 : Nat) : Int) - t / 16 ≤ k ∧ t / 16 - ((p / 16 : Nat) : Int) ≤ k ∧ (((p % 16 : Nat) : Int) - t % 16) + (((p / 16 : Nat) : Int) - t / 16) ≤ k ∧ (((p % 16 : Nat) : Int) - t % 16) + (t / 16 - ((p / 16 : Nat) : Int)) ≤ k ∧ (t % 16 - ((p % 16 : Nat) : Int)) + (((p / 16 : Nat) : Int) - t / 16) ≤ k ∧ (t % 16 - ((p % 16 : Nat) : Int)) + (t / 16 - ((p / 16 : Nat) : Int)) ≤ k) → gq f c ≤ 20 * ((k + 1 : Nat) : Int) := fun p s hp hn hd2 => by
          have h1 := ih p hp hd2
          have h2 := h.2.2 p hp s c hn (Or.inl (by omega))
          have h3 := costZ_b g w p
          omega
        by_cases q1 : ((c % 16 : Nat) : Int) < t % 16
        · exact go (c + 1) 6 (by omega) ⟨hc, by omega⟩ (by omega)
        · by_cases q2 : t % 16 < ((c % 16 : Nat) : Int)
          · exact go (c - 1) 2 (by omega) ⟨hc, by omega⟩ (by omega)
          · by_cases q3 : ((c / 16 : Nat) : Int) < t / 16
            · exact go (c + 16) 0 (by omega) ⟨hc, by omega⟩ (by omega)
            · exact go (c - 16) 4 (by omega) ⟨hc, by omega⟩ (by omega)
  intro c hc
  have := key 30 c hc (by omega)
  omega
theorem FF_wit {f g : Nat → Int32} {w : Int32} {t : Int} (h : FF f g w t) (ht : 0 ≤ t ∧ t < 192) {c : Nat} (hc : c < 192) (hct : ¬ (c : Int) = t) : ∃ s n : Nat, nbP c s n ∧ gq f n + costZ g w n = gq f c := by
  obtain ⟨s, n, h1, h2⟩ := h.2.1 c hc hct (FF_near h ht c hc)
  obtain ⟨s', h3, h4⟩ := nbP_sym h1 hc
  have h5 := h.2.2 n h1.1 s' c h4 (Or.inl (by have := h1.1; omega))
  exact ⟨s, n, h1, by omega⟩
theorem FI_putM {M M' : mM} {w z : Int32} {t : Int} {c s r j : Nat} (ha : FA (M.1 (61, 0, 0)) t) (hb : FB (M.1 (61, 0, 0)) (M.1 (50, 0, 0)) w t) (he : M' = up M (61, 0, 0) j z) (hc : c < 192) (hn : nbP c s r) (hj : j = r) (hv : z.toInt = gq (M.1 (61, 0, 0)) c + costZ (M.1 (50, 0, 0)) w c) (hl : z.toInt < gq (M.1 (61, 0, 0)) j) : FA (M'.1 (61, 0, 0)) t ∧ FB (M'.1 (61, 0, 0)) (M'.1 (50, 0, 0)) w t ∧ smF (M'.1 (61, 0, 0)) 192 < smF (M.1 (61, 0, 0)) 192 ∧ z.toInt = gq (M'.1 (61, 0, 0)) c + costZ (M'.1 (50, 0, 0)) w c := by
  subst hj
  have e0 : M'.1 (61, 0, 0) = upd (M.1 (61, 0, 0)) j z := by rw [he, up_row]
  have e1 : M'.1 (50, 0, 0) = M.1 (50, 0, 0) := by rw [he]; exact up_other _ _ (by decide)
  have hcost := costZ_b (M.1 (50, 0, 0)) w c
  have hac := ha c hc
  have hnc : ¬ c = j := fun q => by rw [← q] at hl; omega
  have h := FI_put ha hb hc hn hv hl
  rw [e0, e1]
  exact ⟨h.1, h.2, smF_lt (by omega) hl 192 hn.1, by rw [gq_o hnc]; exact hv⟩
theorem RX_none {f g : Nat → Int32} {w : Int32} {k s s' : Int} (h : RX f g w k s) (hs : s' = s + 2) (h0 : 0 ≤ k ∧ 0 ≤ s) (he : s % 2 = 0) (hn : ∀ n : Nat, ¬ nbP k.toNat s.toNat n) : RX f g w k s' := RX_side h hs (fun n q => absurd q (hn n)) h0 he
theorem RX_some {f g : Nat → Int32} {w z v : Int32} {k s s' : Int} {r j : Nat} (h : RX f g w k s) (hs : s' = s + 2) (h0 : 0 ≤ k ∧ 0 ≤ s) (he : s % 2 = 0) (hn : nbP k.toNat s.toNat r) (hz : z = f j) (hj : j = r) (hv : v.toInt = gq f k.toNat + costZ g w (k.toNat : Nat)) (hl : z.toInt ≤ v.toInt) : RX f g w k s' := RX_side h hs (fun n q => by
  rw [nbP_fun q hn, ← hj]
  show (f j).toInt ≤ _
  rw [← hz]
  omega) h0 he
theorem RX_e {f g : Nat → Int32} {w : Int32} {k k' s s' : Int} (h : RX f g w k s) (hk : k' = k) (hs : s' = s) : RX f g w k' s' := by rw [hk, hs]; exact h
/-- a side from k on is right -/
def WI (f g : Nat → Int32) (w : Int32) (c : Nat) (k : Int) : Prop := ∃ s n : Nat, nbP c s n ∧ k ≤ (s : Int) ∧ gq f n + costZ g w n = gq f c
theorem WI_le {f g : Nat → Int32} {w : Int32} {c : Nat} {k : Int} (h : WI f g w c k) : k ≤ 6 := by
  obtain ⟨s, n, h1, h2, h3⟩ := h
  have := nbP_s h1
  omega
theorem WI_0 {f g : Nat → Int32} {w : Int32} {t k : Int} {c : Nat} (h : FF f g w t) (ht : 0 ≤ t ∧ t < 192) (hc : c < 192) (hct : ¬ (c : Int) = t) (hk : k = 0) : WI f g w c k := by
  obtain ⟨s, n, h1, h2⟩ := FF_wit h ht hc hct
  exact ⟨s, n, h1, by omega, h2⟩
theorem WI_s {f g : Nat → Int32} {w : Int32} {c : Nat} {k k' : Int} (h : WI f g w c k) (he : k % 2 = 0) (hk : k' = k + 2) (hn : ∀ n : Nat, nbP c k.toNat n → ¬ gq f n + costZ g w n = gq f c) : WI f g w c k' := by
  obtain ⟨s, n, h1, h2, h3⟩ := h
  have hs := nbP_s h1
  refine ⟨s, n, h1, ?_, h3⟩
  rcases Int.lt_or_le k s with q | q
  · omega
  · exfalso
    have e : s = k.toNat := by omega
    rw [e] at h1
    exact hn n h1 h3
theorem WI_no {f g : Nat → Int32} {w z zc r2 r3 rc : Int32} {c j jc : Nat} {k x : Int} (h2 : nbP c k.toNat r2.toInt.toNat) (h3 : nbP c k.toNat r3.toInt.toNat) (h30 : 0 ≤ r3.toInt) (hz : z = f j) (hj : (j : Int) = r2.toInt) (hzc : zc = f jc) (hjc : jc = c) (hr : rc.toInt = costZ g w r3.toInt) (hx : x = z.toInt + rc.toInt) (hne : ¬ x = zc.toInt) : ∀ n : Nat, nbP c k.toNat n → ¬ gq f n + costZ g w n = gq f c := by
  intro n hn q
  have e2 : n = r2.toInt.toNat := nbP_fun hn h2
  have e3 : n = r3.toInt.toNat := nbP_fun hn h3
  refine hne ?_
  rw [hx, hz, hzc, hr, hjc]
  have e4 : j = n := by omega
  have e5 : r3.toInt = (n : Int) := by omega
  rw [e4, e5]
  exact q
