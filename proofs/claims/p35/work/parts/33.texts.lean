/-! texts as they are run; sides as far as they lead -/
theorem given_cnt {f : Nat → Int32} (hW : WT f) {u c : Int32} {j : Nat} (hu : 0 ≤ u.toInt ∧ u.toInt ≤ 2) (hj : (j : Int) = 345 + 50 * u.toInt) (hc : c = f j) : 0 ≤ c.toInt ∧ c.toInt ≤ 48 := by
  obtain ⟨n, D, h1, h2, h3⟩ := hW u.toInt.toNat (by omega)
  rw [show 345 + 50 * u.toInt.toNat = j by omega, ← hc] at h2
  omega
theorem given_case {f : Nat → Int32} (hW : WT f) {u fr k n c z : Int32} {jc j : Nat} (hu : 0 ≤ u.toInt ∧ u.toInt ≤ 2) (hfr : fr.toInt = 346 + 50 * u.toInt) (hjc : (jc : Int) = 345 + 50 * u.toInt) (hc : c = f jc) (hk : fr.toInt ≤ k.toInt) (hlt : k.toInt < fr.toInt + c.toInt) (hj : (j : Int) = k.toInt) (hz : z = f j) (hn : 0 ≤ n.toInt) (hd : dpt f fr.toInt.toNat (k.toInt - fr.toInt).toNat = some n.toInt.toNat) :
    (n.toInt ≤ k.toInt - fr.toInt ∧ k.toInt - fr.toInt < 48) ∧ ((0 ≤ z.toInt ∧ z.toInt ≤ 1004 ∧ dpt f fr.toInt.toNat (k.toInt + 1 - fr.toInt).toNat = some (n.toInt + 1).toNat) ∨ ((z.toInt = 2008 ∧ 1 ≤ n.toInt) ∧ dpt f fr.toInt.toNat (k.toInt + 1 - fr.toInt).toNat = some (n.toInt).toNat) ∨ ((z.toInt = 2009 ∧ 3 ≤ n.toInt) ∧ dpt f fr.toInt.toNat (k.toInt + 1 - fr.toInt).toNat = some (n.toInt - 2).toNat) ∨ ((2000 ≤ z.toInt ∧ z.toInt ≤ 2007 ∧ 2 ≤ n.toInt) ∧ dpt f fr.toInt.toNat (k.toInt + 1 - fr.toInt).toNat = some (n.toInt - 1).toNat)) := by
  obtain ⟨m, D, h1, h2, h3⟩ := hW u.toInt.toNat (by omega)
  rw [show 345 + 50 * u.toInt.toNat = jc by omega, ← hc] at h2
  rw [show 345 + 50 * u.toInt.toNat + 1 = fr.toInt.toNat by omega] at h3
  have hle := dpt_le hd
  have hq := dpt_next hd (m := m) (by omega) h3
  rw [show fr.toInt.toNat + (k.toInt - fr.toInt).toNat = j by omega, ← hz, show (k.toInt - fr.toInt).toNat + 1 = (k.toInt + 1 - fr.toInt).toNat by omega] at hq
  refine ⟨⟨by omega, by omega⟩, ?_⟩
  rcases hq with ⟨a, b, c⟩ | ⟨a, b, c⟩ | ⟨a, b, c⟩ | ⟨a, b, b2, c⟩
  · exact Or.inl ⟨a, by omega, by rw [c]; congr 1; omega⟩
  · exact Or.inr (Or.inl ⟨⟨a, by omega⟩, c⟩)
  · exact Or.inr (Or.inr (Or.inl ⟨⟨a, by omega⟩, by rw [c]; congr 1; omega⟩))
  · exact Or.inr (Or.inr (Or.inr ⟨⟨a, by omega, by omega⟩, by rw [c]; congr 1; omega⟩))
theorem pn_kx {M : mM} {z : Int32} {j : Nat} (h : InvD M) (hz : z = M.1 (50, 0, 0) j) (hj : 16 ≤ j ∧ j < 180 ∧ j % 4 = 0) : 0 ≤ z.toInt ∧ z.toInt ≤ 99 := by
  rcases Nat.lt_or_ge j 20 with q | q
  · exact pn_ls h hz (by omega)
  · have := pn_tk h hz ⟨q, hj.2.1, hj.2.2⟩
    omega
def upI (c s : Int32) (k : Int) : Prop := ∀ y : Int32, 1 ≤ y.toInt → y.toInt ≤ k → onIn c s y
theorem upI_0 {c s : Int32} {k : Int} (h : k ≤ 0) : upI c s k := fun y h1 h2 => by omega
theorem upI_s {c s k r : Int32} (h : upI c s (k.toInt - 1)) (hr : onP c s k r) (h0 : 0 ≤ r.toInt) : upI c s k.toInt := fun y h1 h2 => by
  rcases Int.lt_or_le y.toInt k.toInt with q | q
  · exact h y h1 (by omega)
  · have e : y = k := Int32.toInt_inj.mp (by omega)
    rw [e]; exact onP_in hr h0
theorem upI_e {c s : Int32} {a b : Int} (h : upI c s a) (e : b = a) : upI c s b := e ▸ h
theorem boolSZ {v : Int32} {P : Prop} (h : 0 ≤ v.toInt ∧ v.toInt ≤ 1) (h2 : v.toInt = 0 ∨ P) : (v = 1 ∧ P) ∨ v = 0 := by
  have h3 : v.toInt = 0 ∨ v.toInt = 1 := by omega
  rcases h3 with h3 | h3
  · exact Or.inr (Int32.toInt_inj.mp h3)
  · exact Or.inl ⟨Int32.toInt_inj.mp h3, h2.resolve_left (by omega)⟩
theorem addL {a b : Int64} (h : -9223372036854775808 ≤ a.toInt + b.toInt ∧ a.toInt + b.toInt < 9223372036854775808) : (a + b).toInt = a.toInt + b.toInt := by
  rw [Int64.toInt_add, Int.bmod_def]
  split <;> omega
