/-! copies of all that an image keeps -/
theorem PN_out {k : Nat} {v : Int32} (h : 252 ≤ k) : PN k v := by unfold PN; omega
theorem NW5_cong {f g : Nat → Int32} (h : NW5 f) (hg : ∀ i : Nat, (i : Int) < 3567 → g i = f i) : NW5 g := by
  refine ⟨fun k => ?_, fun u hu => ?_⟩
  · rcases Nat.lt_or_ge k 252 with q | q
    · rw [hg k (by omega)]; exact h.1 k
    · exact PN_out q
  · obtain ⟨n, D, h1, h2, h3⟩ := h.2 u hu
    exact ⟨n, D, h1, by rw [hg _ (by omega)]; exact h2, by rw [dpt_cong (g := f) (b := 345 + 50 * u + 1) n (fun i hi => hg _ (by omega))]; exact h3⟩
def NWx (b : Nat) (M : mM) : Prop := (∀ (c : rf) (k : Nat), IND c.1 k (M.1 c k)) ∧ ∀ r : Nat, 50 ≤ r → r ≤ 52 → ¬ r = b → NW5 (M.1 (r, 0, 0))
theorem NWx.put {b : Nat} {M M' : mM} {k : Nat} {v : Int32} (h : NWx b M) (he : M' = up M (b, 0, 0) k v) (hb : 50 ≤ b ∧ b ≤ 52) : NWx b M' := by
  subst he
  refine ⟨fun c' k' => ?_, fun r h1 h2 h3 => ?_⟩
  · by_cases e : c' = (b, 0, 0) ∧ k' = k
    · rw [e.1, e.2, up_same]
      obtain rfl | rfl | rfl : b = 50 ∨ b = 51 ∨ b = 52 := by omega
      all_goals trivial
    · rw [up_ne e]; exact h.1 c' k'
  · rw [up_other k v (fun q => h3 (congrArg Prod.fst q))]; exact h.2 r h1 h2 h3
theorem NWx.of {b : Nat} {M : mM} (h : InvD M) : NWx b M := ⟨h.1, fun r h1 h2 _ => by
  obtain rfl | rfl | rfl : r = 50 ∨ r = 51 ∨ r = 52 := by omega
  · exact h.2.1
  · exact h.2.2.1
  · exact h.2.2.2⟩
theorem NWx.toD {a b : Nat} {M : mM} (h : NWx b M) (ha : 50 ≤ a ∧ a ≤ 52) (hab : ¬ a = b) (hc : ∀ i : Nat, (i : Int) < 3567 → M.1 (b, 0, 0) i = M.1 (a, 0, 0) i) : InvD M := by
  have hb := NW5_cong (h.2 a ha.1 ha.2 hab) hc
  have hr : ∀ r : Nat, 50 ≤ r → r ≤ 52 → NW5 (M.1 (r, 0, 0)) := fun r h1 h2 => by
    by_cases e : r = b
    · rw [e]; exact hb
    · exact h.2 r h1 h2 e
  exact ⟨h.1, hr 50 (by omega) (by omega), hr 51 (by omega) (by omega), hr 52 (by omega) (by omega)⟩
def InvX50 (M : mM) : Prop := NWx 50 M
def InvX51 (M : mM) : Prop := NWx 51 M
def InvX52 (M : mM) : Prop := NWx 52 M
theorem InvX50.put {M M' : mM} {k : Nat} {v : Int32} (h : InvX50 M) (he : M' = up M (50, 0, 0) k v) (_ : True) : InvX50 M' := NWx.put h he (by decide)
theorem InvX51.put {M M' : mM} {k : Nat} {v : Int32} (h : InvX51 M) (he : M' = up M (51, 0, 0) k v) (_ : True) : InvX51 M' := NWx.put h he (by decide)
theorem InvX52.put {M M' : mM} {k : Nat} {v : Int32} (h : InvX52 M) (he : M' = up M (52, 0, 0) k v) (_ : True) : InvX52 M' := NWx.put h he (by decide)
theorem InvX50.of {M : mM} (h : InvD M) : InvX50 M := NWx.of h
theorem InvX51.of {M : mM} (h : InvD M) : InvX51 M := NWx.of h
theorem InvX52.of {M : mM} (h : InvD M) : InvX52 M := NWx.of h
theorem InvX51.toD50 {M : mM} (h : InvX51 M) (hc : ∀ i : Nat, (i : Int) < 3567 → M.1 (51, 0, 0) i = M.1 (50, 0, 0) i) : InvD M := NWx.toD h (by decide) (by decide) hc
theorem InvX52.toD50 {M : mM} (h : InvX52 M) (hc : ∀ i : Nat, (i : Int) < 3567 → M.1 (52, 0, 0) i = M.1 (50, 0, 0) i) : InvD M := NWx.toD h (by decide) (by decide) hc
theorem InvX50.toD51 {M : mM} (h : InvX50 M) (hc : ∀ i : Nat, (i : Int) < 3567 → M.1 (50, 0, 0) i = M.1 (51, 0, 0) i) : InvD M := NWx.toD h (by decide) (by decide) hc
theorem InvX50.toD52 {M : mM} (h : InvX50 M) (hc : ∀ i : Nat, (i : Int) < 3567 → M.1 (50, 0, 0) i = M.1 (52, 0, 0) i) : InvD M := NWx.toD h (by decide) (by decide) hc
theorem cp_step {M M2 : mM} {a b : rf} {j j2 : Nat} {z : Int32} {k k' : Int} (hab : ¬ a = b) (h : ∀ i : Nat, (i : Int) < k → M.1 b i = M.1 a i) (hM : M2 = up M b j z) (hz : z = M.1 a j2) (hj : (j : Int) = k) (hj2 : (j2 : Int) = k) (hk : k' = k + 1) : ∀ i : Nat, (i : Int) < k' → M2.1 b i = M2.1 a i := by
  intro i hi
  subst hM
  rw [up_other j z hab]
  by_cases e : i = j
  · rw [e, up_same, hz]
    rw [show j2 = j by omega]
  · rw [up_ne (fun q => e q.2)]
    exact h i (by omega)
