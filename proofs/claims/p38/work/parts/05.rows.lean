/-! the rows of WP: an instruction, a row -/
def isI (x : Int32) (a : Int) : Prop := x.toInt = a
theorem rngI (x : Int32) : -2147483648 ≤ x.toInt ∧ x.toInt < 2147483648 := by
  have h1 := Int32.le_toInt x
  have h2 := Int32.toInt_lt x
  exact ⟨by simpa using h1, by simpa using h2⟩
theorem bmI {z : Int} (h1 : -2147483648 ≤ z) (h2 : z < 2147483648) : z.bmod (2 ^ 32) = z := by
  rw [Int.bmod_def]
  split <;> omega
theorem addI {x y : Int32} {a c : Int} (hx : x.toInt = a) (hy : y.toInt = c) (h1 : -2147483648 ≤ a + c) (h2 : a + c < 2147483648) : (x + y).toInt = a + c := by
  rw [Int32.toInt_add, hx, hy]; exact bmI h1 h2
theorem subI {x y : Int32} {a c : Int} (hx : x.toInt = a) (hy : y.toInt = c) (h1 : -2147483648 ≤ a - c) (h2 : a - c < 2147483648) : (x - y).toInt = a - c := by
  rw [Int32.toInt_sub, hx, hy]; exact bmI h1 h2
theorem mulI {x y : Int32} {a c : Int} (hx : x.toInt = a) (hy : y.toInt = c) (h1 : -2147483648 ≤ a * c) (h2 : a * c < 2147483648) : (x * y).toInt = a * c := by
  rw [Int32.toInt_mul, hx, hy]; exact bmI h1 h2
theorem nI_of_toInt {x : Int32} {a : Nat} (hx : x.toInt = a) : x = nI a := by
  have h := rngI x
  exact Int32.toInt_inj.mp (hx.trans (nI_toInt (by omega)).symm)
theorem divI {x y : Int32} {a c : Int} (hx : x.toInt = a) (hy : y.toInt = c) (h1 : 0 ≤ a) (h2 : 0 < c) : (x / y).toInt = a / c := by
  obtain ⟨a', rfl⟩ := Int.eq_ofNat_of_zero_le h1
  obtain ⟨c', rfl⟩ := Int.eq_ofNat_of_zero_le (Int.le_of_lt h2)
  have hx1 := rngI x
  have hy1 := rngI y
  have e1 := nI_of_toInt hx
  have e2 := nI_of_toInt hy
  have l1 : a' < 2 ^ 31 := by omega
  have l2 : c' < 2 ^ 31 := by omega
  rw [e1, e2, pk_div l1 (by omega) l2, nI_toInt (Nat.lt_of_le_of_lt (Nat.div_le_self _ _) l1)]
  exact Int.natCast_ediv a' c'
theorem remI {x y : Int32} {a c : Int} (hx : x.toInt = a) (hy : y.toInt = c) (h1 : 0 ≤ a) (h2 : 0 < c) : (x - x / y * y).toInt = a % c := by
  obtain ⟨a', rfl⟩ := Int.eq_ofNat_of_zero_le h1
  obtain ⟨c', rfl⟩ := Int.eq_ofNat_of_zero_le (Int.le_of_lt h2)
  have hx1 := rngI x
  have hy1 := rngI y
  have e1 := nI_of_toInt hx
  have e2 := nI_of_toInt hy
  have l1 : a' < 2 ^ 31 := by omega
  have l2 : c' < 2 ^ 31 := by omega
  rw [e1, e2, pk_rem l1 (by omega) l2, nI_toInt (Nat.lt_of_le_of_lt (Nat.mod_le _ _) l1)]
  exact Int.natCast_emod a' c'
theorem andI (x : Int32) {m : Int32} (k : Nat) (hm : m.toBitVec.toNat = 2 ^ k - 1) (hk : k ≤ 30) : 0 ≤ (x &&& m).toInt ∧ (x &&& m).toInt < (2 ^ k : Nat) := by
  obtain ⟨j, h1, h2⟩ := pk_andE x k hm
  have h3 : 2 ^ k ≤ 2 ^ 30 := Nat.pow_le_pow_right (by decide) hk
  rw [h2, nI_toInt (by omega)]
  omega
theorem vinI {x : Int32} {a : Int} {n : Nat} (hx : x.toInt = a) (h : 0 ≤ a ∧ a < n) : vp_in x n := vp_in_iff.mpr (by rw [hx]; exact h)
theorem clI {x : Int32} {a : Int} (hx : x.toInt = a) (h : 0 ≤ a) : ((x.toNatClampNeg : Nat) : Int) = a := by
  show ((x.toInt.toNat : Nat) : Int) = a
  rw [hx]; exact Int.toNat_of_nonneg h
theorem clN {x : Int32} {j : Nat} (hx : x.toInt = j) : x.toNatClampNeg = j := by
  have := clI hx (Int.natCast_nonneg j)
  exact Int.ofNat_inj.mp this
def FLK (own : String) (idx ci k : Nat) (ty : FieldType) (fin : Bool) : Prop := ∃ (C : String) (T : u_T) (N : Nat) (ty0 : Nat → FieldType), classes[ci]? = some (C, T, N) ∧ (∀ w ∈ u_ws C T N, w ∈ BASE) ∧ (∀ k, k < N → parseFieldDescriptor (T k).2.2.1 = some (ty0 k)) ∧ (∀ a, a < N → ∀ b, b < N → a ≠ b → (T a).2.1 ≠ (T b).2.1) ∧ k < N ∧ ty0 k = ty ∧ (T k).2.2.2 = fin ∧ (Cond.fieldLink own idx (T k).1 (T k).2.1 (T k).2.2.1 ∈ BASE ∨ ∃ host, (own, idx, (T k).1, (T k).2.1, (T k).2.2.1, host) ∈ NFs)
theorem cat1 {ad : rf → Nat} {v : mV} (h : vc2 v = false) : (gv ad v).category = 1 := by
  rcases v with x | x | x
  · rfl
  · cases h
  · rfl
theorem cvE {x w : Int32} {a c : Int} (hx : x.toInt = a) (hy : w.toInt = c) (h : x = w) : a = c := by rw [← hx, ← hy, h]
theorem cvN {x w : Int32} {a c : Int} (hx : x.toInt = a) (hy : w.toInt = c) (h : ¬ x = w) : ¬ a = c := fun q => h (Int32.toInt_inj.mp (by rw [hx, hy, q]))
theorem cvLt {x w : Int32} {a c : Int} (hx : x.toInt = a) (hy : w.toInt = c) (h : x < w) : a < c := by rw [← hx, ← hy]; exact Int32.lt_iff_toInt_lt.mp h
theorem cvLe {x w : Int32} {a c : Int} (hx : x.toInt = a) (hy : w.toInt = c) (h : x ≤ w) : a ≤ c := by rw [← hx, ← hy]; exact Int32.le_iff_toInt_le.mp h
theorem cvnLt {x w : Int32} {a c : Int} (hx : x.toInt = a) (hy : w.toInt = c) (h : ¬ x < w) : c ≤ a := by
  rw [← hx, ← hy]; exact Int.not_lt.mp (fun q => h (Int32.lt_iff_toInt_lt.mpr q))
theorem cvnLe {x w : Int32} {a c : Int} (hx : x.toInt = a) (hy : w.toInt = c) (h : ¬ x ≤ w) : c < a := by
  rw [← hx, ← hy]; exact Int.not_le.mp (fun q => h (Int32.le_iff_toInt_le.mpr q))
theorem nzB {v : Int32} (hz : 0 ≤ v.toInt ∧ v.toInt ≤ 1) : narrow .boolean (.int v) = .int v ∧ fits .boolean (.int v) = true := by
  have h : v.toInt = 0 ∨ v.toInt = 1 := by omega
  rcases h with h | h
  · have e : v = 0 := Int32.toInt_inj.mp h
    subst e; exact ⟨rfl, rfl⟩
  · have e : v = 1 := Int32.toInt_inj.mp h
    subst e; exact ⟨rfl, rfl⟩
theorem ent_long {cy : Nat → ClassId} {ad : rf → Nat} {M M' : mM} {c : rf} (h : ¬ c.1 = 22) (h1 : M'.1 = M.1) : ent cy ad M' c = ent cy ad M c := by
  have hk : ∀ (q : Nat) (k : Nat) (nf : Nat → Nat), AR q = some (k + 2, nf) → q = 22 := by
    intro q k nf hq
    unfold AR at hq
    split at hq <;> first | rfl | (cases hq)
  unfold ent
  have e : M'.1 c = M.1 c := by rw [h1]
  cases hO : OB c.1 with
  | some q => simp only [fvs_cong e]
  | none =>
    cases hA : AR c.1 with
    | some q =>
      obtain ⟨k, nf⟩ := q
      rcases k with _ | _ | k
      · simp only [e]; rfl
      · simp only [e]; rfl
      · exact absurd (hk _ _ _ hA) h
    | none => rfl
theorem catsum (ad : rf → Nat) : ∀ st : List mV, ((st.map (gv ad)).map fun v => v.category).sum ≤ 2 * st.length
  | [] => Nat.le_refl _
  | v :: l => by
    have h := catsum ad l
    have hv : (gv ad v).category ≤ 2 := by rcases v with x | x | x <;> first | exact Nat.le_succ 1 | exact Nat.le_refl 2
    simp only [List.map_cons, List.sum_cons, List.length_cons]
    omega
theorem lcI (x w : Int64) : ((lg_cmp x w).toInt = -1 ∧ x.toInt < w.toInt) ∨ ((lg_cmp x w).toInt = 0 ∧ x.toInt = w.toInt) ∨ ((lg_cmp x w).toInt = 1 ∧ w.toInt < x.toInt) := by
  unfold lg_cmp
  split
  · rename_i h; exact Or.inr (Or.inr ⟨rfl, Int64.lt_iff_toInt_lt.mp h⟩)
  · rename_i h
    have h1 : ¬ w.toInt < x.toInt := fun q => h (Int64.lt_iff_toInt_lt.mpr q)
    split
    · rename_i h2; exact Or.inr (Or.inl ⟨rfl, by rw [h2]⟩)
    · rename_i h2
      refine Or.inl ⟨rfl, ?_⟩
      have h3 : x.toInt ≠ w.toInt := fun q => h2 (Int64.toInt_inj.mp q)
      omega
section WPROWS
variable {cls : List rf} {l : Launch} {G : va_G} {cy : Nat → ClassId} {ad : rf → Nat} {y : MethodName} {b : ByteArray} {n : Nat} {r : Option FieldType} {d : Nat} {pc : Nat} {ls : List (Nat × mV)} {st : List mV} {M : mM} {Q : Int32 → mM → Prop}
theorem w_iconst {k : Int} {v : Int32} (hd : decode b pc = .ok (.iconst k, 1)) (hv : Int32.ofInt k = v) (kk : WP cls l G cy ad y b n r d (pc + 1) ls (vI v :: st) M Q) : WP cls l G cy ad y b n r d pc ls st M Q := fun p e s m args below meth c A X lsA H locs hl hP hS => lv_iconst X.1 X.2.1 hd hv (kk p e s m args below meth c A X lsA H locs hl hP hS)
theorem w_bipush {k : Int} {v : Int32} (hd : decode b pc = .ok (.bipush k, 2)) (hv : (Int8.ofInt k).toInt32 = v) (kk : WP cls l G cy ad y b n r d (pc + 2) ls (vI v :: st) M Q) : WP cls l G cy ad y b n r d pc ls st M Q := fun p e s m args below meth c A X lsA H locs hl hP hS => lv_bipush X.1 X.2.1 hd hv (kk p e s m args below meth c A X lsA H locs hl hP hS)
theorem w_sipush {k : Int} {v : Int32} (hd : decode b pc = .ok (.sipush k, 3)) (hv : (Int16.ofInt k).toInt32 = v) (kk : WP cls l G cy ad y b n r d (pc + 3) ls (vI v :: st) M Q) : WP cls l G cy ad y b n r d pc ls st M Q := fun p e s m args below meth c A X lsA H locs hl hP hS => lv_sipush X.1 X.2.1 hd hv (kk p e s m args below meth c A X lsA H locs hl hP hS)
theorem w_lconst {k : Fin 2} {v : Int64} (hd : decode b pc = .ok (.lconst k, 1)) (hv : Int64.ofNat (k : Nat) = v) (kk : WP cls l G cy ad y b n r d (pc + 1) ls (vL v :: st) M Q) : WP cls l G cy ad y b n r d pc ls st M Q := fun p e s m args below meth c A X lsA H locs hl hP hS => lv_lconst X.1 X.2.1 hd hv (kk p e s m args below meth c A X lsA H locs hl hP hS)
theorem w_ldc {idx : Nat} {v : Int32} (hw : Cond.constant y.cls idx v ∈ BASE) (hd : decode b pc = .ok (.ldc idx, 2)) (kk : WP cls l G cy ad y b n r d (pc + 2) ls (vI v :: st) M Q) : WP cls l G cy ad y b n r d pc ls st M Q := fun p e s m args below meth c A X lsA H locs hl hP hS => lv_ldc X.1 X.2.1 X.2.2.2.2.2.1 (X.2.2.2.2.1 _ hw) hd (kk p e s m args below meth c A X lsA H locs hl hP hS)
theorem w_ldc_w {idx : Nat} {v : Int32} (hw : Cond.constant y.cls idx v ∈ BASE) (hd : decode b pc = .ok (.ldc_w idx, 3)) (kk : WP cls l G cy ad y b n r d (pc + 3) ls (vI v :: st) M Q) : WP cls l G cy ad y b n r d pc ls st M Q := fun p e s m args below meth c A X lsA H locs hl hP hS => lv_ldcw X.1 X.2.1 X.2.2.2.2.2.1 (X.2.2.2.2.1 _ hw) hd (kk p e s m args below meth c A X lsA H locs hl hP hS)
theorem w_ldc2 {idx : Nat} {v : Int64} (hw : Cond.constantLong y.cls idx v ∈ BASE) (hd : decode b pc = .ok (.ldc2_w idx, 3)) (kk : WP cls l G cy ad y b n r d (pc + 3) ls (vL v :: st) M Q) : WP cls l G cy ad y b n r d pc ls st M Q := fun p e s m args below meth c A X lsA H locs hl hP hS => lv_ldc2 X.1 X.2.1 X.2.2.2.2.2.1 (X.2.2.2.2.1 _ hw) hd (kk p e s m args below meth c A X lsA H locs hl hP hS)
theorem w_ldcS {idx k : Nat} {tx : String} (hs : NSs[k]? = some (y.cls, idx, tx)) (hd : decode b pc = .ok (.ldc idx, 2)) (kk : WP cls l G cy ad y b n r d (pc + 2) ls (vR (91, k, 0) :: st) M Q) : WP cls l G cy ad y b n r d pc ls st M Q := fun p e s m args below meth c A X lsA H locs hl hP hS => va_ldcS X.1 X.2.1 X.2.2.2.2.2.1 (X.2.2.2.2.2.2.2.1.2.2.2.1 k (y.cls, idx, tx) hs) hd (kk p e s m args below meth c A X lsA H locs hl hP hS)
theorem w_iload_n {k : Fin 4} {i : Nat} {x : Int32} (hd : decode b pc = .ok (.iload_n k, 1)) (hi : (k : Nat) = i) (j : Nat) (hj : ls[j]? = some (i, vI x)) (kk : WP cls l G cy ad y b n r d (pc + 1) ls (vI x :: st) M Q) : WP cls l G cy ad y b n r d pc ls st M Q := fun p e s m args below meth c A X lsA H locs hl hP hS => lv_iload_n X.1 X.2.1 hd hi (lv_at hl j (gl_at hj)) (kk p e s m args below meth c A X lsA H locs hl hP hS)
theorem w_iload {i : Nat} {x : Int32} (hd : decode b pc = .ok (.iload i, 2)) (j : Nat) (hj : ls[j]? = some (i, vI x)) (kk : WP cls l G cy ad y b n r d (pc + 2) ls (vI x :: st) M Q) : WP cls l G cy ad y b n r d pc ls st M Q := fun p e s m args below meth c A X lsA H locs hl hP hS => lv_iload X.1 X.2.1 hd (lv_at hl j (gl_at hj)) (kk p e s m args below meth c A X lsA H locs hl hP hS)
theorem w_lload_n {k : Fin 4} {i : Nat} {x : Int64} (hd : decode b pc = .ok (.lload_n k, 1)) (hi : (k : Nat) = i) (j : Nat) (hj : ls[j]? = some (i, vL x)) (kk : WP cls l G cy ad y b n r d (pc + 1) ls (vL x :: st) M Q) : WP cls l G cy ad y b n r d pc ls st M Q := fun p e s m args below meth c A X lsA H locs hl hP hS => lv_lload_n X.1 X.2.1 hd hi (lv_at hl j (gl_at hj)) (kk p e s m args below meth c A X lsA H locs hl hP hS)
theorem w_lload {i : Nat} {x : Int64} (hd : decode b pc = .ok (.lload i, 2)) (j : Nat) (hj : ls[j]? = some (i, vL x)) (kk : WP cls l G cy ad y b n r d (pc + 2) ls (vL x :: st) M Q) : WP cls l G cy ad y b n r d pc ls st M Q := fun p e s m args below meth c A X lsA H locs hl hP hS => lv_lload X.1 X.2.1 hd (lv_at hl j (gl_at hj)) (kk p e s m args below meth c A X lsA H locs hl hP hS)
theorem w_aload_n {k : Fin 4} {i : Nat} {x : rf} (hd : decode b pc = .ok (.aload_n k, 1)) (hi : (k : Nat) = i) (j : Nat) (hj : ls[j]? = some (i, vR x)) (kk : WP cls l G cy ad y b n r d (pc + 1) ls (vR x :: st) M Q) : WP cls l G cy ad y b n r d pc ls st M Q := fun p e s m args below meth c A X lsA H locs hl hP hS => lv_aload_n X.1 X.2.1 hd hi (lv_at hl j (gl_at hj)) (kk p e s m args below meth c A X lsA H locs hl hP hS)
theorem w_aload {i : Nat} {x : rf} (hd : decode b pc = .ok (.aload i, 2)) (j : Nat) (hj : ls[j]? = some (i, vR x)) (kk : WP cls l G cy ad y b n r d (pc + 2) ls (vR x :: st) M Q) : WP cls l G cy ad y b n r d pc ls st M Q := fun p e s m args below meth c A X lsA H locs hl hP hS => lv_aload X.1 X.2.1 hd (lv_at hl j (gl_at hj)) (kk p e s m args below meth c A X lsA H locs hl hP hS)
theorem w_istore_n {k : Fin 4} {i : Nat} {x : Int32} {ls' : List (Nat × mV)} (hd : decode b pc = .ok (.istore_n k, 1)) (hi : (k : Nat) = i) (hn : i < n) (hs : lset ls i (vI x) = ls') (kk : WP cls l G cy ad y b n r d (pc + 1) ls' st M Q) : WP cls l G cy ad y b n r d pc ls (vI x :: st) M Q := fun p e s m args below meth c A X lsA H locs hl hP hS => lv_istore_n X.1 X.2.1 hd hi hl hn (hs ▸ gl_lset ad ls i (vI x)) (fun lsA hl => kk p e s m args below meth c A X lsA H locs hl hP hS)
theorem w_istore {i : Nat} {x : Int32} {ls' : List (Nat × mV)} (hd : decode b pc = .ok (.istore i, 2)) (hn : i < n) (hs : lset ls i (vI x) = ls') (kk : WP cls l G cy ad y b n r d (pc + 2) ls' st M Q) : WP cls l G cy ad y b n r d pc ls (vI x :: st) M Q := fun p e s m args below meth c A X lsA H locs hl hP hS => lv_istore X.1 X.2.1 hd hl hn (hs ▸ gl_lset ad ls i (vI x)) (fun lsA hl => kk p e s m args below meth c A X lsA H locs hl hP hS)
theorem w_astore_n {k : Fin 4} {i : Nat} {x : rf} {ls' : List (Nat × mV)} (hd : decode b pc = .ok (.astore_n k, 1)) (hi : (k : Nat) = i) (hn : i < n) (hs : lset ls i (vR x) = ls') (kk : WP cls l G cy ad y b n r d (pc + 1) ls' st M Q) : WP cls l G cy ad y b n r d pc ls (vR x :: st) M Q := fun p e s m args below meth c A X lsA H locs hl hP hS => lv_astore_n X.1 X.2.1 hd hi hl hn (hs ▸ gl_lset ad ls i (vR x)) (fun lsA hl => kk p e s m args below meth c A X lsA H locs hl hP hS)
theorem w_astore {i : Nat} {x : rf} {ls' : List (Nat × mV)} (hd : decode b pc = .ok (.astore i, 2)) (hn : i < n) (hs : lset ls i (vR x) = ls') (kk : WP cls l G cy ad y b n r d (pc + 2) ls' st M Q) : WP cls l G cy ad y b n r d pc ls (vR x :: st) M Q := fun p e s m args below meth c A X lsA H locs hl hP hS => lv_astore X.1 X.2.1 hd hl hn (hs ▸ gl_lset ad ls i (vR x)) (fun lsA hl => kk p e s m args below meth c A X lsA H locs hl hP hS)
theorem w_lstore_n {k : Fin 4} {i : Nat} {x : Int64} {ls' : List (Nat × mV)} (hd : decode b pc = .ok (.lstore_n k, 1)) (hi : (k : Nat) = i) (hn : i + 1 < n) (hs : lset2 ls i (vL x) = ls') (kk : WP cls l G cy ad y b n r d (pc + 1) ls' st M Q) : WP cls l G cy ad y b n r d pc ls (vL x :: st) M Q := fun p e s m args below meth c A X lsA H locs hl hP hS => lv_lstore_n X.1 X.2.1 hd hi hl hn (hs ▸ gl_lset2 ad ls i (vL x)) (fun lsA hl => kk p e s m args below meth c A X lsA H locs hl hP hS)
theorem w_lstore {i : Nat} {x : Int64} {ls' : List (Nat × mV)} (hd : decode b pc = .ok (.lstore i, 2)) (hn : i + 1 < n) (hs : lset2 ls i (vL x) = ls') (kk : WP cls l G cy ad y b n r d (pc + 2) ls' st M Q) : WP cls l G cy ad y b n r d pc ls (vL x :: st) M Q := fun p e s m args below meth c A X lsA H locs hl hP hS => lv_lstore X.1 X.2.1 hd hl hn (hs ▸ gl_lset2 ad ls i (vL x)) (fun lsA hl => kk p e s m args below meth c A X lsA H locs hl hP hS)
theorem w_iincE {i j : Nat} {k : Int} {x z : Int32} {ls' : List (Nat × mV)} (hd : decode b pc = .ok (.iinc i k, 3)) (hj : ls[j]? = some (i, vI x)) (hz : x + Int32.ofInt k = z) (hn : i < n) (hs : lset ls i (vI z) = ls') (kk : WP cls l G cy ad y b n r d (pc + 3) ls' st M Q) : WP cls l G cy ad y b n r d pc ls st M Q := fun p e s m args below meth c A X lsA H locs hl hP hS => lv_iinc X.1 X.2.1 hd hl (gl_at hj) hz hn (hs ▸ gl_lset ad ls i (vI z)) (fun lsA hl => kk p e s m args below meth c A X lsA H locs hl hP hS)
theorem w_iincU {i j : Nat} {k : Int} {x : Int32} {f : Int32 → List (Nat × mV)} (hd : decode b pc = .ok (.iinc i k, 3)) (hj : ls[j]? = some (i, vI x)) (hn : i < n) (hs : ∀ z, lset ls i (vI z) = f z) (kk : ∀ z : Int32, WP cls l G cy ad y b n r d (pc + 3) (f z) st M Q) : WP cls l G cy ad y b n r d pc ls st M Q := w_iincE hd hj rfl hn (hs _) (kk _)
theorem w_iincB {i j : Nat} {k : Int} {x : Int32} {f : Int32 → List (Nat × mV)} {a : Int} (hd : decode b pc = .ok (.iinc i k, 3)) (hj : ls[j]? = some (i, vI x)) (hn : i < n) (hs : ∀ z, lset ls i (vI z) = f z) (hx : x.toInt = a) (hk : (Int32.ofInt k).toInt = k) (h : -2147483648 ≤ a + k ∧ a + k < 2147483648) (kk : ∀ z : Int32, z.toInt = a + k → WP cls l G cy ad y b n r d (pc + 3) (f z) st M Q) : WP cls l G cy ad y b n r d pc ls st M Q := w_iincE hd hj rfl hn (hs _) (kk _ (addI hx hk h.1 h.2))
theorem w_iadd {x w : Int32} (hd : decode b pc = .ok (.iadd, 1)) (kk : ∀ z : Int32, z = x + w → WP cls l G cy ad y b n r d (pc + 1) ls (vI z :: st) M Q) : WP cls l G cy ad y b n r d pc ls (vI w :: vI x :: st) M Q := fun p e s m args below meth c A X lsA H locs hl hP hS => lv_iadd X.1 X.2.1 hd (kk _ rfl p e s m args below meth c A X lsA H locs hl hP hS)
theorem w_isub {x w : Int32} (hd : decode b pc = .ok (.isub, 1)) (kk : ∀ z : Int32, z = x - w → WP cls l G cy ad y b n r d (pc + 1) ls (vI z :: st) M Q) : WP cls l G cy ad y b n r d pc ls (vI w :: vI x :: st) M Q := fun p e s m args below meth c A X lsA H locs hl hP hS => lv_isub X.1 X.2.1 hd (kk _ rfl p e s m args below meth c A X lsA H locs hl hP hS)
theorem w_imul {x w : Int32} (hd : decode b pc = .ok (.imul, 1)) (kk : ∀ z : Int32, z = x * w → WP cls l G cy ad y b n r d (pc + 1) ls (vI z :: st) M Q) : WP cls l G cy ad y b n r d pc ls (vI w :: vI x :: st) M Q := fun p e s m args below meth c A X lsA H locs hl hP hS => lv_imul X.1 X.2.1 hd (kk _ rfl p e s m args below meth c A X lsA H locs hl hP hS)
theorem w_iand {x w : Int32} (hd : decode b pc = .ok (.iand, 1)) (kk : ∀ z : Int32, z = x &&& w → WP cls l G cy ad y b n r d (pc + 1) ls (vI z :: st) M Q) : WP cls l G cy ad y b n r d pc ls (vI w :: vI x :: st) M Q := fun p e s m args below meth c A X lsA H locs hl hP hS => lv_iand X.1 X.2.1 hd (kk _ rfl p e s m args below meth c A X lsA H locs hl hP hS)
theorem w_ior {x w : Int32} (hd : decode b pc = .ok (.ior, 1)) (kk : ∀ z : Int32, z = x ||| w → WP cls l G cy ad y b n r d (pc + 1) ls (vI z :: st) M Q) : WP cls l G cy ad y b n r d pc ls (vI w :: vI x :: st) M Q := fun p e s m args below meth c A X lsA H locs hl hP hS => lv_ior X.1 X.2.1 hd (kk _ rfl p e s m args below meth c A X lsA H locs hl hP hS)
theorem w_ixor {x w : Int32} (hd : decode b pc = .ok (.ixor, 1)) (kk : ∀ z : Int32, z = x ^^^ w → WP cls l G cy ad y b n r d (pc + 1) ls (vI z :: st) M Q) : WP cls l G cy ad y b n r d pc ls (vI w :: vI x :: st) M Q := fun p e s m args below meth c A X lsA H locs hl hP hS => lv_ixor X.1 X.2.1 hd (kk _ rfl p e s m args below meth c A X lsA H locs hl hP hS)
theorem w_ishl {x w : Int32} (hd : decode b pc = .ok (.ishl, 1)) (kk : ∀ z : Int32, z = x <<< (w &&& 31) → WP cls l G cy ad y b n r d (pc + 1) ls (vI z :: st) M Q) : WP cls l G cy ad y b n r d pc ls (vI w :: vI x :: st) M Q := fun p e s m args below meth c A X lsA H locs hl hP hS => lv_ishl X.1 X.2.1 hd (kk _ rfl p e s m args below meth c A X lsA H locs hl hP hS)
theorem w_ishr {x w : Int32} (hd : decode b pc = .ok (.ishr, 1)) (kk : ∀ z : Int32, z = x >>> (w &&& 31) → WP cls l G cy ad y b n r d (pc + 1) ls (vI z :: st) M Q) : WP cls l G cy ad y b n r d pc ls (vI w :: vI x :: st) M Q := fun p e s m args below meth c A X lsA H locs hl hP hS => lv_ishr X.1 X.2.1 hd (kk _ rfl p e s m args below meth c A X lsA H locs hl hP hS)
theorem w_idiv {x w : Int32} (hd : decode b pc = .ok (.idiv, 1)) (hne : ¬ w = 0) (kk : ∀ z : Int32, z = x / w → WP cls l G cy ad y b n r d (pc + 1) ls (vI z :: st) M Q) : WP cls l G cy ad y b n r d pc ls (vI w :: vI x :: st) M Q := fun p e s m args below meth c A X lsA H locs hl hP hS => lv_idiv X.1 X.2.1 hd hne (kk _ rfl p e s m args below meth c A X lsA H locs hl hP hS)
theorem w_irem {x w : Int32} (hd : decode b pc = .ok (.irem, 1)) (hne : ¬ w = 0) (kk : ∀ z : Int32, z = x - x / w * w → WP cls l G cy ad y b n r d (pc + 1) ls (vI z :: st) M Q) : WP cls l G cy ad y b n r d pc ls (vI w :: vI x :: st) M Q := fun p e s m args below meth c A X lsA H locs hl hP hS => lv_irem X.1 X.2.1 hd hne (kk _ rfl p e s m args below meth c A X lsA H locs hl hP hS)
theorem w_ineg {x : Int32} (hd : decode b pc = .ok (.ineg, 1)) (kk : ∀ z : Int32, z = -x → WP cls l G cy ad y b n r d (pc + 1) ls (vI z :: st) M Q) : WP cls l G cy ad y b n r d pc ls (vI x :: st) M Q := fun p e s m args below meth c A X lsA H locs hl hP hS => lv_ineg X.1 X.2.1 hd (kk _ rfl p e s m args below meth c A X lsA H locs hl hP hS)
theorem w_ladd {x w : Int64} (hd : decode b pc = .ok (.ladd, 1)) (kk : ∀ z : Int64, z = x + w → WP cls l G cy ad y b n r d (pc + 1) ls (vL z :: st) M Q) : WP cls l G cy ad y b n r d pc ls (vL w :: vL x :: st) M Q := fun p e s m args below meth c A X lsA H locs hl hP hS => lv_ladd X.1 X.2.1 hd (kk _ rfl p e s m args below meth c A X lsA H locs hl hP hS)
theorem w_lor {x w : Int64} (hd : decode b pc = .ok (.lor, 1)) (kk : ∀ z : Int64, z = x ||| w → WP cls l G cy ad y b n r d (pc + 1) ls (vL z :: st) M Q) : WP cls l G cy ad y b n r d pc ls (vL w :: vL x :: st) M Q := fun p e s m args below meth c A X lsA H locs hl hP hS => lv_lor X.1 X.2.1 hd (kk _ rfl p e s m args below meth c A X lsA H locs hl hP hS)
theorem w_land {x w : Int64} (hd : decode b pc = .ok (.land, 1)) (kk : ∀ z : Int64, z = x &&& w → WP cls l G cy ad y b n r d (pc + 1) ls (vL z :: st) M Q) : WP cls l G cy ad y b n r d pc ls (vL w :: vL x :: st) M Q := fun p e s m args below meth c A X lsA H locs hl hP hS => lv_land X.1 X.2.1 hd (kk _ rfl p e s m args below meth c A X lsA H locs hl hP hS)
theorem w_lushr {x : Int64} {w : Int32} (hd : decode b pc = .ok (.lushr, 1)) (kk : ∀ z : Int64, z = (x.toUInt64 >>> (w.toInt64.toUInt64 &&& Int64.toUInt64 63)).toInt64 → WP cls l G cy ad y b n r d (pc + 1) ls (vL z :: st) M Q) : WP cls l G cy ad y b n r d pc ls (vI w :: vL x :: st) M Q := fun p e s m args below meth c A X lsA H locs hl hP hS => lv_lushr X.1 X.2.1 hd rfl (kk _ rfl p e s m args below meth c A X lsA H locs hl hP hS)
theorem w_lshl {x : Int64} {w : Int32} (hd : decode b pc = .ok (.lshl, 1)) (kk : ∀ z : Int64, z = x <<< (w.toInt64 &&& 63) → WP cls l G cy ad y b n r d (pc + 1) ls (vL z :: st) M Q) : WP cls l G cy ad y b n r d pc ls (vI w :: vL x :: st) M Q := fun p e s m args below meth c A X lsA H locs hl hP hS => lv_lshl X.1 X.2.1 hd rfl (kk _ rfl p e s m args below meth c A X lsA H locs hl hP hS)
theorem w_lshr {x : Int64} {w : Int32} (hd : decode b pc = .ok (.lshr, 1)) (kk : ∀ z : Int64, z = x >>> (w.toInt64 &&& 63) → WP cls l G cy ad y b n r d (pc + 1) ls (vL z :: st) M Q) : WP cls l G cy ad y b n r d pc ls (vI w :: vL x :: st) M Q := fun p e s m args below meth c A X lsA H locs hl hP hS => lv_lshr X.1 X.2.1 hd rfl (kk _ rfl p e s m args below meth c A X lsA H locs hl hP hS)
theorem w_i2l {x : Int32} (hd : decode b pc = .ok (.i2l, 1)) (kk : ∀ z : Int64, z = x.toInt64 → WP cls l G cy ad y b n r d (pc + 1) ls (vL z :: st) M Q) : WP cls l G cy ad y b n r d pc ls (vI x :: st) M Q := fun p e s m args below meth c A X lsA H locs hl hP hS => lv_i2l X.1 X.2.1 hd rfl (kk _ rfl p e s m args below meth c A X lsA H locs hl hP hS)
theorem w_l2i {x : Int64} (hd : decode b pc = .ok (.l2i, 1)) (kk : ∀ z : Int32, z = x.toInt32 → WP cls l G cy ad y b n r d (pc + 1) ls (vI z :: st) M Q) : WP cls l G cy ad y b n r d pc ls (vL x :: st) M Q := fun p e s m args below meth c A X lsA H locs hl hP hS => lv_l2i X.1 X.2.1 hd rfl (kk _ rfl p e s m args below meth c A X lsA H locs hl hP hS)
theorem w_i2b {x : Int32} (hd : decode b pc = .ok (.i2b, 1)) (kk : ∀ z : Int32, z = x.toInt8.toInt32 → WP cls l G cy ad y b n r d (pc + 1) ls (vI z :: st) M Q) : WP cls l G cy ad y b n r d pc ls (vI x :: st) M Q := fun p e s m args below meth c A X lsA H locs hl hP hS => lv_i2b X.1 X.2.1 hd rfl (kk _ rfl p e s m args below meth c A X lsA H locs hl hP hS)
theorem w_i2s {x : Int32} (hd : decode b pc = .ok (.i2s, 1)) (kk : ∀ z : Int32, z = x.toInt16.toInt32 → WP cls l G cy ad y b n r d (pc + 1) ls (vI z :: st) M Q) : WP cls l G cy ad y b n r d pc ls (vI x :: st) M Q := fun p e s m args below meth c A X lsA H locs hl hP hS => lv_i2s X.1 X.2.1 hd rfl (kk _ rfl p e s m args below meth c A X lsA H locs hl hP hS)
theorem w_i2c {x : Int32} (hd : decode b pc = .ok (.i2c, 1)) (kk : ∀ z : Int32, z = (x.toUInt32 % 65536).toInt32 → WP cls l G cy ad y b n r d (pc + 1) ls (vI z :: st) M Q) : WP cls l G cy ad y b n r d pc ls (vI x :: st) M Q := fun p e s m args below meth c A X lsA H locs hl hP hS => lv_i2c X.1 X.2.1 hd rfl (kk _ rfl p e s m args below meth c A X lsA H locs hl hP hS)
theorem w_iaddB {x w : Int32} {a c : Int} (hd : decode b pc = .ok (.iadd, 1)) (hx : x.toInt = a) (hy : w.toInt = c) (h : -2147483648 ≤ a + c ∧ a + c < 2147483648) (kk : ∀ z : Int32, z.toInt = a + c → WP cls l G cy ad y b n r d (pc + 1) ls (vI z :: st) M Q) : WP cls l G cy ad y b n r d pc ls (vI w :: vI x :: st) M Q := w_iadd hd (fun z hz => kk z (hz ▸ addI hx hy h.1 h.2))
theorem w_isubB {x w : Int32} {a c : Int} (hd : decode b pc = .ok (.isub, 1)) (hx : x.toInt = a) (hy : w.toInt = c) (h : -2147483648 ≤ a - c ∧ a - c < 2147483648) (kk : ∀ z : Int32, z.toInt = a - c → WP cls l G cy ad y b n r d (pc + 1) ls (vI z :: st) M Q) : WP cls l G cy ad y b n r d pc ls (vI w :: vI x :: st) M Q := w_isub hd (fun z hz => kk z (hz ▸ subI hx hy h.1 h.2))
theorem w_imulB {x w : Int32} {a c : Int} (hd : decode b pc = .ok (.imul, 1)) (hx : x.toInt = a) (hy : w.toInt = c) (h : -2147483648 ≤ a * c ∧ a * c < 2147483648) (kk : ∀ z : Int32, z.toInt = a * c → WP cls l G cy ad y b n r d (pc + 1) ls (vI z :: st) M Q) : WP cls l G cy ad y b n r d pc ls (vI w :: vI x :: st) M Q := w_imul hd (fun z hz => kk z (hz ▸ mulI hx hy h.1 h.2))
theorem w_idivB {x w : Int32} {a c : Int} (hd : decode b pc = .ok (.idiv, 1)) (hne : ¬ w = 0) (hx : x.toInt = a) (hy : w.toInt = c) (h : 0 ≤ a) (h2 : 0 < c) (kk : ∀ z : Int32, z.toInt = a / c → WP cls l G cy ad y b n r d (pc + 1) ls (vI z :: st) M Q) : WP cls l G cy ad y b n r d pc ls (vI w :: vI x :: st) M Q := w_idiv hd hne (fun z hz => kk z (hz ▸ divI hx hy h h2))
theorem w_iremB {x w : Int32} {a c : Int} (hd : decode b pc = .ok (.irem, 1)) (hne : ¬ w = 0) (hx : x.toInt = a) (hy : w.toInt = c) (h : 0 ≤ a) (h2 : 0 < c) (kk : ∀ z : Int32, z.toInt = a % c → WP cls l G cy ad y b n r d (pc + 1) ls (vI z :: st) M Q) : WP cls l G cy ad y b n r d pc ls (vI w :: vI x :: st) M Q := w_irem hd hne (fun z hz => kk z (hz ▸ remI hx hy h h2))
theorem w_iandB {x w : Int32} (k : Nat) (hd : decode b pc = .ok (.iand, 1)) (hm : w.toBitVec.toNat = 2 ^ k - 1) (hk : k ≤ 30) (kk : ∀ z : Int32, 0 ≤ z.toInt ∧ z.toInt < (2 ^ k : Nat) → WP cls l G cy ad y b n r d (pc + 1) ls (vI z :: st) M Q) : WP cls l G cy ad y b n r d pc ls (vI w :: vI x :: st) M Q := w_iand hd (fun z hz => kk z (hz ▸ andI x k hm hk))
theorem w_E {x z : Int32} (h : x = z) (kk : WP cls l G cy ad y b n r d pc ls (vI z :: st) M Q) : WP cls l G cy ad y b n r d pc ls (vI x :: st) M Q := h ▸ kk
theorem w_lcmp {x w : Int64} (hd : decode b pc = .ok (.lcmp, 1)) (kk : ∀ z : Int32, ((z.toInt = -1 ∧ x.toInt < w.toInt) ∨ (z.toInt = 0 ∧ x.toInt = w.toInt) ∨ (z.toInt = 1 ∧ w.toInt < x.toInt)) → WP cls l G cy ad y b n r d (pc + 1) ls (vI z :: st) M Q) : WP cls l G cy ad y b n r d pc ls (vL w :: vL x :: st) M Q := fun p e s m args below meth c A X lsA H locs hl hP hS => by
    refine W.lcmp X.1 X.2.1 hd ?_
    exact kk _ (lcI x w) p e s m args below meth c A X lsA H locs hl hP hS
theorem w_dup {v : mV} (hd : decode b pc = .ok (.dup, 1)) (hc : vc2 v = false) (kk : WP cls l G cy ad y b n r d (pc + 1) ls (v :: v :: st) M Q) : WP cls l G cy ad y b n r d pc ls (v :: st) M Q := fun p e s m args below meth c A X lsA H locs hl hP hS => lv_dup X.1 X.2.1 hd (cat1 hc) (kk p e s m args below meth c A X lsA H locs hl hP hS)
theorem w_dup2 {v w : mV} (hd : decode b pc = .ok (.dup2, 1)) (hc : vc2 v = false) (hc2 : vc2 w = false) (kk : WP cls l G cy ad y b n r d (pc + 1) ls (v :: w :: v :: w :: st) M Q) : WP cls l G cy ad y b n r d pc ls (v :: w :: st) M Q := fun p e s m args below meth c A X lsA H locs hl hP hS => lv_dup2_11 X.1 X.2.1 hd (cat1 hc) (cat1 hc2) (kk p e s m args below meth c A X lsA H locs hl hP hS)
theorem w_pop {v : mV} (hd : decode b pc = .ok (.pop, 1)) (hc : vc2 v = false) (kk : WP cls l G cy ad y b n r d (pc + 1) ls st M Q) : WP cls l G cy ad y b n r d pc ls (v :: st) M Q := fun p e s m args below meth c A X lsA H locs hl hP hS => lv_pop X.1 X.2.1 hd (cat1 hc) (kk p e s m args below meth c A X lsA H locs hl hP hS)
theorem w_goto {off : Int} {tgt : Nat} (hd : decode b pc = .ok (.goto off, 3)) (ht : (pc : Int) + off = (tgt : Int)) (kk : WP cls l G cy ad y b n r d tgt ls st M Q) : WP cls l G cy ad y b n r d pc ls st M Q := fun p e s m args below meth c A X lsA H locs hl hP hS => lv_goto X.1 X.2.1 hd ht (kk p e s m args below meth c A X lsA H locs hl hP hS)
theorem w_if_eq {x : Int32} {a : Int} {off : Int} {tgt : Nat} (hd : decode b pc = .ok (.ifCond .eq off, 3)) (ht : (pc : Int) + off = (tgt : Int)) (hx : x.toInt = a) (k1 : a = 0 → WP cls l G cy ad y b n r d tgt ls st M Q) (k2 : ¬ a = 0 → WP cls l G cy ad y b n r d (pc + 3) ls st M Q) : WP cls l G cy ad y b n r d pc ls (vI x :: st) M Q := fun p e s m args below meth c_ A X lsA H locs hl hP hS => lv_if_eq X.1 X.2.1 hd ht (fun h => k1 (cvE hx rfl h) p e s m args below meth c_ A X lsA H locs hl hP hS) (fun h => k2 (cvN hx rfl h) p e s m args below meth c_ A X lsA H locs hl hP hS)
theorem w_icmp_eq {x w : Int32} {a c : Int} {off : Int} {tgt : Nat} (hd : decode b pc = .ok (.if_icmp .eq off, 3)) (ht : (pc : Int) + off = (tgt : Int)) (hx : x.toInt = a) (hy : w.toInt = c) (k1 : a = c → WP cls l G cy ad y b n r d tgt ls st M Q) (k2 : ¬ a = c → WP cls l G cy ad y b n r d (pc + 3) ls st M Q) : WP cls l G cy ad y b n r d pc ls (vI w :: vI x :: st) M Q := fun p e s m args below meth c_ A X lsA H locs hl hP hS => lv_icmp_eq X.1 X.2.1 hd ht (fun h => k1 (cvE hx hy h) p e s m args below meth c_ A X lsA H locs hl hP hS) (fun h => k2 (cvN hx hy h) p e s m args below meth c_ A X lsA H locs hl hP hS)
theorem w_if_ne {x : Int32} {a : Int} {off : Int} {tgt : Nat} (hd : decode b pc = .ok (.ifCond .ne off, 3)) (ht : (pc : Int) + off = (tgt : Int)) (hx : x.toInt = a) (k1 : ¬ a = 0 → WP cls l G cy ad y b n r d tgt ls st M Q) (k2 : a = 0 → WP cls l G cy ad y b n r d (pc + 3) ls st M Q) : WP cls l G cy ad y b n r d pc ls (vI x :: st) M Q := fun p e s m args below meth c_ A X lsA H locs hl hP hS => lv_if_ne X.1 X.2.1 hd ht (fun h => k1 (cvN hx rfl h) p e s m args below meth c_ A X lsA H locs hl hP hS) (fun h => k2 (cvE hx rfl (by first | exact h | exact Classical.not_not.mp h)) p e s m args below meth c_ A X lsA H locs hl hP hS)
theorem w_icmp_ne {x w : Int32} {a c : Int} {off : Int} {tgt : Nat} (hd : decode b pc = .ok (.if_icmp .ne off, 3)) (ht : (pc : Int) + off = (tgt : Int)) (hx : x.toInt = a) (hy : w.toInt = c) (k1 : ¬ a = c → WP cls l G cy ad y b n r d tgt ls st M Q) (k2 : a = c → WP cls l G cy ad y b n r d (pc + 3) ls st M Q) : WP cls l G cy ad y b n r d pc ls (vI w :: vI x :: st) M Q := fun p e s m args below meth c_ A X lsA H locs hl hP hS => lv_icmp_ne X.1 X.2.1 hd ht (fun h => k1 (cvN hx hy h) p e s m args below meth c_ A X lsA H locs hl hP hS) (fun h => k2 (cvE hx hy (by first | exact h | exact Classical.not_not.mp h)) p e s m args below meth c_ A X lsA H locs hl hP hS)
theorem w_if_lt {x : Int32} {a : Int} {off : Int} {tgt : Nat} (hd : decode b pc = .ok (.ifCond .lt off, 3)) (ht : (pc : Int) + off = (tgt : Int)) (hx : x.toInt = a) (k1 : a < 0 → WP cls l G cy ad y b n r d tgt ls st M Q) (k2 : 0 ≤ a → WP cls l G cy ad y b n r d (pc + 3) ls st M Q) : WP cls l G cy ad y b n r d pc ls (vI x :: st) M Q := fun p e s m args below meth c_ A X lsA H locs hl hP hS => lv_if_lt X.1 X.2.1 hd ht (fun h => k1 (cvLt hx rfl h) p e s m args below meth c_ A X lsA H locs hl hP hS) (fun h => k2 (cvnLt hx rfl h) p e s m args below meth c_ A X lsA H locs hl hP hS)
theorem w_icmp_lt {x w : Int32} {a c : Int} {off : Int} {tgt : Nat} (hd : decode b pc = .ok (.if_icmp .lt off, 3)) (ht : (pc : Int) + off = (tgt : Int)) (hx : x.toInt = a) (hy : w.toInt = c) (k1 : a < c → WP cls l G cy ad y b n r d tgt ls st M Q) (k2 : c ≤ a → WP cls l G cy ad y b n r d (pc + 3) ls st M Q) : WP cls l G cy ad y b n r d pc ls (vI w :: vI x :: st) M Q := fun p e s m args below meth c_ A X lsA H locs hl hP hS => lv_icmp_lt X.1 X.2.1 hd ht (fun h => k1 (cvLt hx hy h) p e s m args below meth c_ A X lsA H locs hl hP hS) (fun h => k2 (cvnLt hx hy h) p e s m args below meth c_ A X lsA H locs hl hP hS)
theorem w_if_ge {x : Int32} {a : Int} {off : Int} {tgt : Nat} (hd : decode b pc = .ok (.ifCond .ge off, 3)) (ht : (pc : Int) + off = (tgt : Int)) (hx : x.toInt = a) (k1 : 0 ≤ a → WP cls l G cy ad y b n r d tgt ls st M Q) (k2 : a < 0 → WP cls l G cy ad y b n r d (pc + 3) ls st M Q) : WP cls l G cy ad y b n r d pc ls (vI x :: st) M Q := fun p e s m args below meth c_ A X lsA H locs hl hP hS => lv_if_ge X.1 X.2.1 hd ht (fun h => k1 (cvLe rfl hx h) p e s m args below meth c_ A X lsA H locs hl hP hS) (fun h => k2 (cvnLe rfl hx h) p e s m args below meth c_ A X lsA H locs hl hP hS)
theorem w_icmp_ge {x w : Int32} {a c : Int} {off : Int} {tgt : Nat} (hd : decode b pc = .ok (.if_icmp .ge off, 3)) (ht : (pc : Int) + off = (tgt : Int)) (hx : x.toInt = a) (hy : w.toInt = c) (k1 : c ≤ a → WP cls l G cy ad y b n r d tgt ls st M Q) (k2 : a < c → WP cls l G cy ad y b n r d (pc + 3) ls st M Q) : WP cls l G cy ad y b n r d pc ls (vI w :: vI x :: st) M Q := fun p e s m args below meth c_ A X lsA H locs hl hP hS => lv_icmp_ge X.1 X.2.1 hd ht (fun h => k1 (cvLe hy hx h) p e s m args below meth c_ A X lsA H locs hl hP hS) (fun h => k2 (cvnLe hy hx h) p e s m args below meth c_ A X lsA H locs hl hP hS)
theorem w_if_gt {x : Int32} {a : Int} {off : Int} {tgt : Nat} (hd : decode b pc = .ok (.ifCond .gt off, 3)) (ht : (pc : Int) + off = (tgt : Int)) (hx : x.toInt = a) (k1 : 0 < a → WP cls l G cy ad y b n r d tgt ls st M Q) (k2 : a ≤ 0 → WP cls l G cy ad y b n r d (pc + 3) ls st M Q) : WP cls l G cy ad y b n r d pc ls (vI x :: st) M Q := fun p e s m args below meth c_ A X lsA H locs hl hP hS => lv_if_gt X.1 X.2.1 hd ht (fun h => k1 (cvLt rfl hx h) p e s m args below meth c_ A X lsA H locs hl hP hS) (fun h => k2 (cvnLt rfl hx h) p e s m args below meth c_ A X lsA H locs hl hP hS)
theorem w_icmp_gt {x w : Int32} {a c : Int} {off : Int} {tgt : Nat} (hd : decode b pc = .ok (.if_icmp .gt off, 3)) (ht : (pc : Int) + off = (tgt : Int)) (hx : x.toInt = a) (hy : w.toInt = c) (k1 : c < a → WP cls l G cy ad y b n r d tgt ls st M Q) (k2 : a ≤ c → WP cls l G cy ad y b n r d (pc + 3) ls st M Q) : WP cls l G cy ad y b n r d pc ls (vI w :: vI x :: st) M Q := fun p e s m args below meth c_ A X lsA H locs hl hP hS => lv_icmp_gt X.1 X.2.1 hd ht (fun h => k1 (cvLt hy hx h) p e s m args below meth c_ A X lsA H locs hl hP hS) (fun h => k2 (cvnLt hy hx h) p e s m args below meth c_ A X lsA H locs hl hP hS)
theorem w_if_le {x : Int32} {a : Int} {off : Int} {tgt : Nat} (hd : decode b pc = .ok (.ifCond .le off, 3)) (ht : (pc : Int) + off = (tgt : Int)) (hx : x.toInt = a) (k1 : a ≤ 0 → WP cls l G cy ad y b n r d tgt ls st M Q) (k2 : 0 < a → WP cls l G cy ad y b n r d (pc + 3) ls st M Q) : WP cls l G cy ad y b n r d pc ls (vI x :: st) M Q := fun p e s m args below meth c_ A X lsA H locs hl hP hS => lv_if_le X.1 X.2.1 hd ht (fun h => k1 (cvLe hx rfl h) p e s m args below meth c_ A X lsA H locs hl hP hS) (fun h => k2 (cvnLe hx rfl h) p e s m args below meth c_ A X lsA H locs hl hP hS)
theorem w_icmp_le {x w : Int32} {a c : Int} {off : Int} {tgt : Nat} (hd : decode b pc = .ok (.if_icmp .le off, 3)) (ht : (pc : Int) + off = (tgt : Int)) (hx : x.toInt = a) (hy : w.toInt = c) (k1 : a ≤ c → WP cls l G cy ad y b n r d tgt ls st M Q) (k2 : c < a → WP cls l G cy ad y b n r d (pc + 3) ls st M Q) : WP cls l G cy ad y b n r d pc ls (vI w :: vI x :: st) M Q := fun p e s m args below meth c_ A X lsA H locs hl hP hS => lv_icmp_le X.1 X.2.1 hd ht (fun h => k1 (cvLe hx hy h) p e s m args below meth c_ A X lsA H locs hl hP hS) (fun h => k2 (cvnLe hx hy h) p e s m args below meth c_ A X lsA H locs hl hP hS)
theorem w_tsIn {x : Int32} {a dflt lo hi off : Int} {offs : Array Int} {len tgt : Nat} (hd : decode b pc = .ok (.tableswitch dflt lo hi offs, len)) (hx : x.toInt = a) (h1 : ¬ a < lo) (h2 : ¬ hi < a) (ho : offs[(a - lo).toNat]? = some off) (ht : (pc : Int) + off = (tgt : Int)) (kk : WP cls l G cy ad y b n r d tgt ls st M Q) : WP cls l G cy ad y b n r d pc ls (vI x :: st) M Q := fun p e s m args below meth c A X lsA H locs hl hP hS => lv_tableIn X.1 X.2.1 hd (hx ▸ h1) (hx ▸ h2) (hx ▸ ho) ht (kk p e s m args below meth c A X lsA H locs hl hP hS)
theorem w_tsOut {x : Int32} {a dflt lo hi : Int} {offs : Array Int} {len tgt : Nat} (hd : decode b pc = .ok (.tableswitch dflt lo hi offs, len)) (hx : x.toInt = a) (h : a < lo ∨ hi < a) (ht : (pc : Int) + dflt = (tgt : Int)) (kk : WP cls l G cy ad y b n r d tgt ls st M Q) : WP cls l G cy ad y b n r d pc ls (vI x :: st) M Q := fun p e s m args below meth c A X lsA H locs hl hP hS => lv_tableOut X.1 X.2.1 hd (hx ▸ h) ht (kk p e s m args below meth c A X lsA H locs hl hP hS)
theorem w_ls {x : Int32} {a dflt off : Int} {ps : Array (Int × Int)} {len tgt : Nat} (hd : decode b pc = .ok (.lookupswitch dflt ps, len)) (hp : (ps.toList.zip (ps.toList.drop 1)).all (fun (a, next) => a.1 < next.1) = true) (hx : x.toInt = a) (ho : Op.lookupswitch.offset ps.toList dflt a = off) (ht : (pc : Int) + off = (tgt : Int)) (kk : WP cls l G cy ad y b n r d tgt ls st M Q) : WP cls l G cy ad y b n r d pc ls (vI x :: st) M Q := fun p e s m args below meth c A X lsA H locs hl hP hS => lv_lookup X.1 X.2.1 hd hp (hx ▸ ho) ht (kk p e s m args below meth c A X lsA H locs hl hP hS)
theorem w_get {own : String} {idx ci k role b' w : Nat} {ty : FieldType} {fin : Bool} {fs : List fR} {f : fR} {v : mV} (hF : FLK y.cls idx ci k ty fin) (hO : OB role = some (ci, fs)) (hf : fs[k]? = some f) (hc : (role, b', w) ∈ cls) (hd : decode b pc = .ok (.getfield idx, 3)) (hv : f b' w (M.1 (role, b', w) k) = v) (kk : WP cls l G cy ad y b n r d (pc + 3) ls (v :: st) M Q) : WP cls l G cy ad y b n r d pc ls (vR (role, b', w) :: st) M Q := by
  intro p e s m args below meth c A X lsA H locs hl hP hS
  obtain ⟨hx, hb, hr, hml, hts, hown, hlk, hE, hT, hA⟩ := X
  obtain ⟨C, T, N, ty0, h1, h2, h3, h4, h5, h6, h7, h8⟩ := hF
  obtain ⟨q0, -, hq⟩ := WS_mem (cy := cy) (ad := ad) (M := M) hc
  have he : (WS cls cy ad M)[q0]? = some (ad (role, b', w), .inr (ci, fvs ad M (role, b', w) fs 0)) := by
    rw [hq]; unfold ent; dsimp only; rw [hO]
  have hg : (fvs ad M (role, b', w) fs 0)[k]? = some (gv ad v) := by
    rw [fvs_get, hf, ← hv, Nat.zero_add]; rfl
  have kk := kk p e s m args below meth c A ⟨hx, hb, hr, hml, hts, hown, hlk, hE, hT, hA⟩ lsA H locs hl hP hS
  rcases h8 with h8 | ⟨host, h8⟩
  · exact va_get hx hb hts h2 hown hE.1 hP.1 q0 he h1 k h5 (hts _ h8) (fun _ h9 => h9) hg hd kk
  · exact va_getN hx hb hts h2 hown hE.1 hP.1 q0 he h1 k h5 (va_Nw.use rfl (hE.2.1 _ h8)) (fun _ h9 => h9) hg hd kk
theorem w_put {idx ci k role b' w : Nat} {ty : FieldType} {fs : List fR} {f : fR} {v : mV} {x : Int32} (hnd : cls.Nodup) (hF : FLK y.cls idx ci k ty false) (hO : OB role = some (ci, fs)) (hf : fs[k]? = some f) (hc : (role, b', w) ∈ cls) (hd : decode b pc = .ok (.putfield idx, 3)) (hv : f b' w x = v) (hn : narrow ty (gv ad v) = gv ad v) (hfit : fits ty (gv ad v) = true) (kk : ∀ M', M' = up M (role, b', w) k x → WP cls l G cy ad y b n r d (pc + 3) ls st M' Q) : WP cls l G cy ad y b n r d pc ls (v :: vR (role, b', w) :: st) M Q := by
  intro p e s m args below meth c A X lsA H locs hl hP hS
  obtain ⟨hx, hb, hr, hml, hts, hown, hlk, hE, hT, hA⟩ := X
  obtain ⟨C, T, N, ty0, h1, h2, h3, h4, h5, h6, h7, h8⟩ := hF
  obtain ⟨q0, hq0, hq⟩ := WS_mem (cy := cy) (ad := ad) (M := M) hc
  have he : (WS cls cy ad M)[q0]? = some (ad (role, b', w), .inr (ci, fvs ad M (role, b', w) fs 0)) := by
    rw [hq]; unfold ent; dsimp only; rw [hO]
  have hl2 : k < (fvs ad M (role, b', w) fs 0).length := by
    have h := fvs_get ad M (role, b', w) fs 0 k
    rw [hf] at h
    exact (List.getElem?_eq_some_iff.mp h).1
  have hset : (WS cls cy ad M).set q0 (ad (role, b', w), .inr (ci, (fvs ad M (role, b', w) fs 0).set k (gv ad v))) = WS cls cy ad (up M (role, b', w) k x) := by
    have h := WS_set hnd (cy := cy) (ad := ad) (M := M) (M' := up M (role, b', w) k x) hq0 (fun c' _ hne => ent_cong (up_other k x hne) rfl)
    rw [← h]
    congr 2
    unfold ent
    dsimp only
    rw [hO, ← hv]
    exact congrArg (fun q => Sum.inr (ci, q)) (fvs_set (c := (role, b', w)) hf x)
  have K : ∀ (H1 : Heap) (locs1 : List Loc), va_P G classes ((WS cls cy ad M).set q0 (ad (role, b', w), .inr (ci, (fvs ad M (role, b', w) fs 0).set k (gv ad v)))) H1 → va_D A ((WS cls cy ad M).set q0 (ad (role, b', w), .inr (ci, (fvs ad M (role, b', w) fs 0).set k (gv ad v)))) → va_S A s.heap H1 locs1 → W p l e (rmd d) s m args below meth c H1 locs1 0 0 (MQ below (QC cls G cy ad r A Q) args s 0 0 A) (F0 m (pc + 3) lsA (st.map (gv ad))) := by
    intro H1 locs1 g1 g2 g3
    rw [hset] at g1 g2
    exact kk _ rfl p e s m args below meth c A ⟨hx, hb, hr, hml, hts, hown, hlk, hE, hT, hA⟩ lsA H1 locs1 hl ⟨g1, g2⟩ g3
  rcases h8 with h8 | ⟨host, h8⟩
  · exact va_put hx hb hts h2 ty0 h3 h4 hown hE.1 hP.1 hP.2 hS q0 he h1 k h5 (hts _ h8) (fun _ h9 => h9) h7 (h6 ▸ h3 k h5) hn hfit hl2 hd K
  · exact va_putN hx hb hts h2 ty0 h3 h4 hown hE.1 hP.1 hP.2 hS q0 he h1 k h5 (va_Nw.use rfl (hE.2.1 _ h8)) (fun _ h9 => h9) h7 (h6 ▸ h3 k h5) hn hfit hl2 hd K
theorem ent_arr {role b' w : Nat} {nf : Nat → Nat} {k : Nat} (hO : OB role = none) (hA : AR role = some (k, nf)) : ent cy ad M (role, b', w) = arE cy k (nf w) (M.1 (role, b', w)) M.2 := by
  unfold ent
  dsimp only
  rw [hO, hA]
theorem w_alen {role b' w : Nat} {nf : Nat → Nat} {k : Nat} (hk : k < 3) (hO : OB role = none) (hR : AR role = some (k, nf)) (hc : (role, b', w) ∈ cls) (hd : decode b pc = .ok (.arraylength, 1)) {v : Int32} (hv : Int32.ofNat (nf w) = v) (kk : WP cls l G cy ad y b n r d (pc + 1) ls (vI v :: st) M Q) : WP cls l G cy ad y b n r d pc ls (vR (role, b', w) :: st) M Q := by
  intro p e s m args below meth c A X lsA H locs hl hP hS
  obtain ⟨q0, -, hq⟩ := WS_mem (cy := cy) (ad := ad) (M := M) hc
  rw [ent_arr hO hR] at hq
  have kk := kk p e s m args below meth c A X lsA H locs hl hP hS
  obtain ⟨hx, hb, hr, hml, hts, hown, hlk, hE, hT, hA⟩ := X
  rcases k with _ | _ | _ | k
  · exact va_alen hx hb hE.1 hP.1 q0 0 hq (ty := .int) rfl hv hd kk
  · exact va_alen hx hb hE.1 hP.1 q0 1 hq (ty := .boolean) rfl hv hd kk
  · exact va_alen hx hb hE.1 hP.1 q0 2 hq (ty := .long) rfl hv hd kk
  · omega
theorem w_iald {role b' w : Nat} {nf : Nat → Nat} {x : Int32} {a : Int} (hO : OB role = none) (hR : AR role = some (0, nf)) (hc : (role, b', w) ∈ cls) (hx : x.toInt = a) (h : 0 ≤ a ∧ a < (nf w : Nat)) (hd : decode b pc = .ok (.iaload, 1)) (kk : ∀ j : Nat, (j : Int) = a → ∀ z : Int32, z = M.1 (role, b', w) j → WP cls l G cy ad y b n r d (pc + 1) ls (vI z :: st) M Q) : WP cls l G cy ad y b n r d pc ls (vI x :: vR (role, b', w) :: st) M Q := by
  intro p e s m args below meth c A X lsA H locs hl hP hS
  obtain ⟨q0, -, hq⟩ := WS_mem (cy := cy) (ad := ad) (M := M) hc
  rw [ent_arr hO hR] at hq
  exact va_iald X.1 X.2.1 X.2.2.2.2.2.2.2.1.1 hP.1 q0 0 hq rfl (vinI hx h) hd (kk _ (clI hx h.1) _ rfl p e s m args below meth c A X lsA H locs hl hP hS)
theorem w_zald {role b' w : Nat} {nf : Nat → Nat} {x : Int32} {a : Int} (hO : OB role = none) (hR : AR role = some (1, nf)) (hc : (role, b', w) ∈ cls) (hx : x.toInt = a) (h : 0 ≤ a ∧ a < (nf w : Nat)) (hd : decode b pc = .ok (.baload, 1)) (kk : ∀ j : Nat, (j : Int) = a → ∀ z : Int32, z = M.1 (role, b', w) j → WP cls l G cy ad y b n r d (pc + 1) ls (vI z :: st) M Q) : WP cls l G cy ad y b n r d pc ls (vI x :: vR (role, b', w) :: st) M Q := by
  intro p e s m args below meth c A X lsA H locs hl hP hS
  obtain ⟨q0, -, hq⟩ := WS_mem (cy := cy) (ad := ad) (M := M) hc
  rw [ent_arr hO hR] at hq
  exact va_zald X.1 X.2.1 X.2.2.2.2.2.2.2.1.1 hP.1 q0 1 hq rfl (vinI hx h) hd (kk _ (clI hx h.1) _ rfl p e s m args below meth c A X lsA H locs hl hP hS)
theorem w_lald {role b' w : Nat} {nf : Nat → Nat} {x : Int32} {a : Int} (hO : OB role = none) (hR : AR role = some (2, nf)) (hc : (role, b', w) ∈ cls) (hx : x.toInt = a) (h : 0 ≤ a ∧ a < (nf w : Nat)) (hd : decode b pc = .ok (.laload, 1)) (kk : ∀ j : Nat, (j : Int) = a → ∀ z : Int64, z = M.2 j → WP cls l G cy ad y b n r d (pc + 1) ls (vL z :: st) M Q) : WP cls l G cy ad y b n r d pc ls (vI x :: vR (role, b', w) :: st) M Q := by
  intro p e s m args below meth c A X lsA H locs hl hP hS
  obtain ⟨q0, -, hq⟩ := WS_mem (cy := cy) (ad := ad) (M := M) hc
  rw [ent_arr hO hR] at hq
  exact va_lald X.1 X.2.1 X.2.2.2.2.2.2.2.1.1 hP.1 q0 2 hq rfl (vinI hx h) hd (kk _ (clI hx h.1) _ rfl p e s m args below meth c A X lsA H locs hl hP hS)
theorem w_iast {role b' w : Nat} {nf : Nat → Nat} {x v : Int32} {a : Int} (hnd : cls.Nodup) (hO : OB role = none) (hR : AR role = some (0, nf)) (hc : (role, b', w) ∈ cls) (hx : x.toInt = a) (h : 0 ≤ a ∧ a < (nf w : Nat)) (hd : decode b pc = .ok (.iastore, 1)) (kk : ∀ j : Nat, (j : Int) = a → ∀ M', M' = up M (role, b', w) j v → WP cls l G cy ad y b n r d (pc + 1) ls st M' Q) : WP cls l G cy ad y b n r d pc ls (vI v :: vI x :: vR (role, b', w) :: st) M Q := by
  intro p e s m args below meth c A X lsA H locs hl hP hS
  obtain ⟨q0, hq0, hq⟩ := WS_mem (cy := cy) (ad := ad) (M := M) hc
  rw [ent_arr hO hR] at hq
  refine va_iast X.1 X.2.1 X.2.2.2.2.2.2.2.1.1 hP.1 hP.2 hS q0 0 hq rfl (vinI hx h) hd (fun H1 locs1 g1 g2 g3 => ?_)
  have hset := WS_set hnd (cy := cy) (ad := ad) (M := M) (M' := up M (role, b', w) x.toNatClampNeg v) hq0 (fun c' _ hne => ent_cong (up_other _ v hne) rfl)
  rw [ent_arr hO hR] at hset
  rw [up_row] at hset
  have k1 := congrArg (fun q => va_P G classes q H1) hset
  have k2 := congrArg (fun q => va_D A q) hset
  replace g1 := k1.mp g1
  replace g2 := k2.mp g2
  exact kk _ (clI hx h.1) _ rfl p e s m args below meth c A X lsA H1 locs1 hl ⟨g1, g2⟩ g3
theorem w_zast {role b' w : Nat} {nf : Nat → Nat} {x v : Int32} {a : Int} (hnd : cls.Nodup) (hO : OB role = none) (hR : AR role = some (1, nf)) (hc : (role, b', w) ∈ cls) (hx : x.toInt = a) (h : 0 ≤ a ∧ a < (nf w : Nat)) (hd : decode b pc = .ok (.bastore, 1)) (kk : ∀ j : Nat, (j : Int) = a → ∀ M', M' = up M (role, b', w) j (vp_nar .boolean v) → WP cls l G cy ad y b n r d (pc + 1) ls st M' Q) : WP cls l G cy ad y b n r d pc ls (vI v :: vI x :: vR (role, b', w) :: st) M Q := by
  intro p e s m args below meth c A X lsA H locs hl hP hS
  obtain ⟨q0, hq0, hq⟩ := WS_mem (cy := cy) (ad := ad) (M := M) hc
  rw [ent_arr hO hR] at hq
  refine va_zast X.1 X.2.1 X.2.2.2.2.2.2.2.1.1 hP.1 hP.2 hS q0 1 hq rfl (vinI hx h) hd (fun H1 locs1 g1 g2 g3 => ?_)
  have hset := WS_set hnd (cy := cy) (ad := ad) (M := M) (M' := up M (role, b', w) x.toNatClampNeg (vp_nar .boolean v)) hq0 (fun c' _ hne => ent_cong (up_other _ _ hne) rfl)
  rw [ent_arr hO hR] at hset
  rw [up_row] at hset
  have k1 := congrArg (fun q => va_P G classes q H1) hset
  have k2 := congrArg (fun q => va_D A q) hset
  replace g1 := k1.mp g1
  replace g2 := k2.mp g2
  exact kk _ (clI hx h.1) _ rfl p e s m args below meth c A X lsA H1 locs1 hl ⟨g1, g2⟩ g3
theorem w_last {x : Int32} {v : Int64} {a : Int} (hnd : cls.Nodup) (h22 : ∀ c ∈ cls, c.1 = 22 → c = (22, 0, 0)) (hc : ((22, 0, 0) : rf) ∈ cls) (hx : x.toInt = a) (h : 0 ≤ a ∧ a < (24 : Nat)) (hd : decode b pc = .ok (.lastore, 1)) (kk : ∀ j : Nat, (j : Int) = a → ∀ M', M' = upL M j v → WP cls l G cy ad y b n r d (pc + 1) ls st M' Q) : WP cls l G cy ad y b n r d pc ls (vL v :: vI x :: vR (22, 0, 0) :: st) M Q := by
  intro p e s m args below meth c A X lsA H locs hl hP hS
  obtain ⟨q0, hq0, hq⟩ := WS_mem (cy := cy) (ad := ad) (M := M) hc
  rw [ent_arr (nf := fun _ => 24) (k := 2) rfl rfl] at hq
  refine va_last X.1 X.2.1 X.2.2.2.2.2.2.2.1.1 hP.1 hP.2 hS q0 2 hq rfl (vinI hx h) hd (fun H1 locs1 g1 g2 g3 => ?_)
  have hset := WS_set hnd (cy := cy) (ad := ad) (M := M) (M' := upL M x.toNatClampNeg v) hq0 (fun c' hm hne => ent_long (fun q => hne (h22 c' hm q)) rfl)
  rw [ent_arr (nf := fun _ => 24) (k := 2) rfl rfl] at hset
  have k1 := congrArg (fun q => va_P G classes q H1) hset
  have k2 := congrArg (fun q => va_D A q) hset
  replace g1 := k1.mp g1
  replace g2 := k2.mp g2
  exact kk _ (clI hx h.1) _ rfl p e s m args below meth c A X lsA H1 locs1 hl ⟨g1, g2⟩ g3
theorem w_aald {role b' w t : Nat} {nn : Nat} {C : String} {g : Nat → Nat → rf} {x : Int32} {a : Int} (hO : OB role = none) (hR : AR role = none) (hQ : RA role = some (t, nn, g)) (ht : ∀ cy : Nat → ClassId, (TYS cy)[t]? = some (cy t, .object C)) (hc : (role, b', w) ∈ cls) (hx : x.toInt = a) (h : 0 ≤ a ∧ a < (nn : Nat)) (hd : decode b pc = .ok (.aaload, 1)) (kk : ∀ j : Nat, (j : Int) = a → j < nn → WP cls l G cy ad y b n r d (pc + 1) ls (vR (g b' j) :: st) M Q) : WP cls l G cy ad y b n r d pc ls (vI x :: vR (role, b', w) :: st) M Q := by
  intro p e s m args below meth c A X lsA H locs hl hP hS
  obtain ⟨q0, -, hq⟩ := WS_mem (cy := cy) (ad := ad) (M := M) hc
  have he : ent cy ad M (role, b', w) = .inl (cy t, nn, .inr (.inr (.inr (.inr (fun j => some (ad (g b' j))))))) := by
    unfold ent; dsimp only; rw [hO, hR, hQ]
  rw [he] at hq
  have hj := clI hx h.1
  exact va_aldq X.1 X.2.1 X.2.2.2.2.2.2.2.1.1 hP.1 q0 t hq (ht cy) (vinI hx h) hd (kk _ hj (by omega) p e s m args below meth c A X lsA H locs hl hP hS)
theorem w_copy {r0 b0 w0 r1 b1 w1 : Nat} {n0 n1 : Nat → Nat} {idx : Nat} {sp dp nn : Int32} {x0 x1 x2 : Int} (hnd : cls.Nodup) (hO0 : OB r0 = none) (hR0 : AR r0 = some (0, n0)) (hc0 : (r0, b0, w0) ∈ cls) (hO1 : OB r1 = none) (hR1 : AR r1 = some (0, n1)) (hc1 : (r1, b1, w1) ∈ cls) (hl1 : Cond.methodLink y.cls idx arraycopyName ∈ BASE) (hnat : Cond.native arraycopyName ∈ BASE) (hstat : Cond.static arraycopyName ∈ BASE) (hini : Cond.initialized "java/lang/System" ∈ BASE) (hsp : sp.toInt = x0) (hdp : dp.toInt = x1) (hnn : nn.toInt = x2) (h : 0 ≤ x0 ∧ 0 ≤ x1 ∧ 0 ≤ x2 ∧ x0 + x2 ≤ (n0 w0 : Nat) ∧ x1 + x2 ≤ (n1 w1 : Nat)) (hst : st = []) (hd1 : 1 ≤ d) (hd : decode b pc = .ok (.invokestatic idx, 3)) (kk : ∀ M', M' = cp M (r0, b0, w0) (r1, b1, w1) sp.toNatClampNeg dp.toNatClampNeg nn.toNatClampNeg → WP cls l G cy ad y b n r d (pc + 3) ls st M' Q) : WP cls l G cy ad y b n r d pc ls (vI nn :: vI dp :: vR (r1, b1, w1) :: vI sp :: vR (r0, b0, w0) :: st) M Q := by
  intro p e s m args below meth c A X lsA H locs hl hP hS
  subst hst
  obtain ⟨q0, -, hq⟩ := WS_mem (cy := cy) (ad := ad) (M := M) hc0
  obtain ⟨q1, hq1, hq2⟩ := WS_mem (cy := cy) (ad := ad) (M := M) hc1
  rw [ent_arr hO0 hR0] at hq
  rw [ent_arr hO1 hR1] at hq2
  have hX := X
  obtain ⟨hx, hb, hr, hml, hts, hown, hlk, hE, hT, hA⟩ := X
  have e0 := clI hsp h.1
  have e1 := clI hdp h.2.1
  have e2 := clI hnn h.2.2.1
  have z0 : (0 : Int32).toInt = 0 := rfl
  refine va_copyi (ty := .int) hx hb (hml.trans hl.1.symm) hown (hts _ hl1) (hts _ hnat) (hts _ hstat) (hts _ hini) hE.1 hP.1 hP.2 hS q0 q1 0 0 hq hq2 rfl rfl rfl (fun q => by have := cvLt hsp z0 q; omega) (fun q => by have := cvLt hdp z0 q; omega) (fun q => by have := cvLt hnn z0 q; omega) (by omega) (by omega) (fun _ _ => rfl) (by show 1 ≤ d; exact hd1) (by show _ ≤ 100 * d; exact Nat.le_trans (Nat.le_of_ble_eq_true rfl) (Nat.mul_le_mul_left 100 hd1)) hd (fun H1 locs1 g1 g2 g3 => ?_)
  have hset := WS_set hnd (cy := cy) (ad := ad) (M := M) (M' := cp M (r0, b0, w0) (r1, b1, w1) sp.toNatClampNeg dp.toNatClampNeg nn.toNatClampNeg) hq1 (fun c' _ hne => ent_cong (cp_other _ _ _ hne) rfl)
  rw [ent_arr hO1 hR1] at hset
  rw [cp_row] at hset
  have k1 := congrArg (fun q => va_P G classes q H1) hset
  have k2 := congrArg (fun q => va_D A q) hset
  replace g1 := k1.mp g1
  replace g2 := k2.mp g2
  exact kk _ rfl p e s m args below meth c A hX lsA H1 locs1 hl ⟨g1, g2⟩ g3
theorem w_gets {k idx : Nat} {q : String × String × List Int32} (hk : STs[k]? = some q) (hw : Cond.fieldLink y.cls idx q.1 q.2.1 "[I" ∈ BASE) (hd : decode b pc = .ok (.getstatic idx, 3)) (kk : WP cls l G cy ad y b n r d (pc + 3) ls (vR (90, k, 0) :: st) M Q) : WP cls l G cy ad y b n r d pc ls st M Q := by
  intro p e s m args below meth c A X lsA H locs hl hP hS
  have kk := kk p e s m args below meth c A X lsA H locs hl hP hS
  obtain ⟨hx, hb, hr, hml, hts, hown, hlk, hE, hT, hA⟩ := X
  exact va_gets hx hb (hT.1 k _ hk).1 hS hown (hts _ hw) (fun _ h9 => h9) hd kk
theorem w_iaT {k : Nat} {q : String × String × List Int32} {x : Int32} {a : Int} (hk : STs[k]? = some q) (hx : x.toInt = a) (h : 0 ≤ a ∧ a < (q.2.2.length : Nat)) (hd : decode b pc = .ok (.iaload, 1)) (kk : ∀ j : Nat, (j : Int) = a → ∀ z : Int32, z = q.2.2.getD j 0 → WP cls l G cy ad y b n r d (pc + 1) ls (vI z :: st) M Q) : WP cls l G cy ad y b n r d pc ls (vI x :: vR (90, k, 0) :: st) M Q := by
  intro p e s m args below meth c A X lsA H locs hl hP hS
  have kk := kk _ (clI hx h.1) _ rfl p e s m args below meth c A X lsA H locs hl hP hS
  obtain ⟨hx1, hb, hr, hml, hts, hown, hlk, hE, hT, hA⟩ := X
  exact va_ti hx1 hb (hT.1 k _ hk).2 hS (vinI hx h) rfl hd kk
theorem w_max {x w : Int32} {a c : Int} {idx : Nat} (hl1 : Cond.methodLink y.cls idx Lib.Math.max.name ∈ BASE) (h2 : Cond.static Lib.Math.max.name ∈ BASE) (h3 : Cond.initialized "java/lang/Math" ∈ BASE) (h4 : Cond.code Lib.Math.max.name Lib.Math.max.code 2 (some .int) ∈ BASE) (hx : x.toInt = a) (hy : w.toInt = c) (hs : st.length ≤ 4) (hd1 : 1 ≤ d) (hd : decode b pc = .ok (.invokestatic idx, 3)) (kk : ∀ z : Int32, ((z.toInt = a ∧ c ≤ a) ∨ (z.toInt = c ∧ a ≤ c)) → WP cls l G cy ad y b n r d (pc + 3) ls (vI z :: st) M Q) : WP cls l G cy ad y b n r d pc ls (vI w :: vI x :: st) M Q := by
  intro p e s m args below meth c' A X lsA H locs hl hP hS
  have hX := X
  obtain ⟨hx1, hb, hr, hml, hts, hown, hlk, hE, hT, hA⟩ := X
  have hc := catsum ad st
  refine va_mmax hx1 hb (hml.trans hl.1.symm) hown (hts _ hl1) (hts _ h2) (hts _ h3) (hts _ h4) (by show _ ≤ d; omega) (by show _ ≤ 100 * d; omega) (by omega) (by omega) hd (kk _ ?_ p e s m args below meth c' A hX lsA H locs hl hP hS)
  split
  · rename_i hq; exact Or.inr ⟨hy, Int.le_of_lt (cvLt hx hy hq)⟩
  · rename_i hq; exact Or.inl ⟨hx, cvnLt hx hy hq⟩
theorem w_min {x w : Int32} {a c : Int} {idx : Nat} (hl1 : Cond.methodLink y.cls idx Lib.Math.min.name ∈ BASE) (h2 : Cond.static Lib.Math.min.name ∈ BASE) (h3 : Cond.initialized "java/lang/Math" ∈ BASE) (h4 : Cond.code Lib.Math.min.name Lib.Math.min.code 2 (some .int) ∈ BASE) (hx : x.toInt = a) (hy : w.toInt = c) (hs : st.length ≤ 4) (hd1 : 1 ≤ d) (hd : decode b pc = .ok (.invokestatic idx, 3)) (kk : ∀ z : Int32, ((z.toInt = a ∧ a ≤ c) ∨ (z.toInt = c ∧ c ≤ a)) → WP cls l G cy ad y b n r d (pc + 3) ls (vI z :: st) M Q) : WP cls l G cy ad y b n r d pc ls (vI w :: vI x :: st) M Q := by
  intro p e s m args below meth c' A X lsA H locs hl hP hS
  have hX := X
  obtain ⟨hx1, hb, hr, hml, hts, hown, hlk, hE, hT, hA⟩ := X
  have hc := catsum ad st
  refine va_mmin hx1 hb (hml.trans hl.1.symm) hown (hts _ hl1) (hts _ h2) (hts _ h3) (hts _ h4) (by show _ ≤ d; omega) (by show _ ≤ 100 * d; omega) (by omega) (by omega) hd (kk _ ?_ p e s m args below meth c' A hX lsA H locs hl hP hS)
  split
  · rename_i hq; exact Or.inr ⟨hy, Int.le_of_lt (cvLt hy hx hq)⟩
  · rename_i hq; exact Or.inl ⟨hx, cvnLt hy hx hq⟩
theorem w_iret {v : Int32} (hr : r = some .int) (hd : decode b pc = .ok (.ireturn, 1)) (hQ : Q v M) : WP cls l G cy ad y b n r d pc ls [vI v] M Q := by
  intro p e s m args below meth c A X lsA H locs hl hP hS
  obtain ⟨hx1, hb, hr1, hml, hts, hown, hlk, hE, hT, hA⟩ := X
  subst hr
  exact W.iret (v := v) hx1 hb hr1 (fun t ht hW => ⟨⟨v, M, rfl, hQ, by show WO cls G cy ad A M t.heap; rw [ht]; exact hP⟩, hS.F ht⟩) hS.2.2 hd
theorem w_zret {v : Int32} (hr : r = some .boolean) (hd : decode b pc = .ok (.ireturn, 1)) (hz : 0 ≤ v.toInt ∧ v.toInt ≤ 1) (hQ : Q v M) : WP cls l G cy ad y b n r d pc ls [vI v] M Q := by
  intro p e s m args below meth c A X lsA H locs hl hP hS
  obtain ⟨hx1, hb, hr1, hml, hts, hown, hlk, hE, hT, hA⟩ := X
  subst hr
  exact W.zret (v := v) hx1 hb hr1 (nzB hz).1 (fun t ht hW => ⟨⟨v, M, rfl, hQ, by show WO cls G cy ad A M t.heap; rw [ht]; exact hP⟩, hS.F ht⟩) hS.2.2 hd
theorem w_vret (hr : r = none) (hd : decode b pc = .ok (.return_, 1)) (hQ : Q 0 M) : WP cls l G cy ad y b n r d pc ls [] M Q := by
  intro p e s m args below meth c A X lsA H locs hl hP hS
  obtain ⟨hx1, hb, hr1, hml, hts, hown, hlk, hE, hT, hA⟩ := X
  subst hr
  exact W.vret hx1 hb hr1 (fun t ht hW => ⟨⟨M, rfl, hQ, by show WO cls G cy ad A M t.heap; rw [ht]; exact hP⟩, hS.F ht⟩) hS.2.2 hd
end WPROWS
