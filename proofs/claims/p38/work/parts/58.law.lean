/-! the law: class and model side by side -/
def EE : List rf := CC ++ DD
def bD (c : rf) : Bool := c.1 == 12 || Nat.ble 50 c.1
def mgC (M' M : mM) : mM := (fun c k => bif bD c then M.1 c k else M'.1 c k, M'.2)
def mgD (M' M : mM) : mM := (fun c k => bif bD c then M'.1 c k else M.1 c k, M.2)
theorem CC_b : ∀ c ∈ CC, bD c = false := by decide +kernel
theorem DD_b : ∀ c ∈ DD, bD c = true := by decide +kernel
theorem DD_n22 : ∀ c ∈ DD, ¬ c.1 = 22 := by decide +kernel
theorem EE_nd : EE.Nodup := by decide +kernel
theorem mgC_row {M' M : mM} {c : rf} (h : bD c = false) : (mgC M' M).1 c = M'.1 c := by
  funext k
  show (bif bD c then M.1 c k else M'.1 c k) = _
  rw [h]; rfl
theorem mgC_rowD {M' M : mM} {c : rf} (h : bD c = true) : (mgC M' M).1 c = M.1 c := by
  funext k
  show (bif bD c then M.1 c k else M'.1 c k) = _
  rw [h]; rfl
theorem mgD_row {M' M : mM} {c : rf} (h : bD c = true) : (mgD M' M).1 c = M'.1 c := by
  funext k
  show (bif bD c then M'.1 c k else M.1 c k) = _
  rw [h]; rfl
theorem mgD_rowC {M' M : mM} {c : rf} (h : bD c = false) : (mgD M' M).1 c = M.1 c := by
  funext k
  show (bif bD c then M'.1 c k else M.1 c k) = _
  rw [h]; rfl
theorem ent_row {cy : Nat → ClassId} {ad : rf → Nat} {M M' : mM} {c : rf} (h : M'.1 c = M.1 c) (hc : ¬ c.1 = 22) : ent cy ad M' c = ent cy ad M c :=
  (ent_cong (M' := M') (M := (M.1, M'.2)) h rfl).trans (ent_long (M' := (M.1, M'.2)) (M := M) hc rfl)
theorem WS_cong {cls : List rf} {cy : Nat → ClassId} {ad : rf → Nat} {M M' : mM} (h : ∀ c ∈ cls, ent cy ad M' c = ent cy ad M c) : WS cls cy ad M' = WS cls cy ad M := List.map_congr_left (fun c hc => by rw [h c hc])
theorem WS_EE {cy : Nat → ClassId} {ad : rf → Nat} {M : mM} : WS EE cy ad M = WS CC cy ad M ++ WS DD cy ad M := by
  unfold WS EE
  exact List.map_append
theorem WS_mgC {cy : Nat → ClassId} {ad : rf → Nat} {M' M : mM} : WS EE cy ad (mgC M' M) = WS CC cy ad M' ++ WS DD cy ad M := by
  rw [WS_EE, WS_cong (fun c hc => ent_cong (mgC_row (CC_b c hc)) rfl), WS_cong (cls := DD) (fun c hc => ent_row (mgC_rowD (DD_b c hc)) (DD_n22 c hc))]
theorem WS_mgD {cy : Nat → ClassId} {ad : rf → Nat} {M' M : mM} : WS EE cy ad (mgD M' M) = WS CC cy ad M ++ WS DD cy ad M' := by
  rw [WS_EE, WS_cong (fun c hc => ent_cong (mgD_rowC (CC_b c hc)) rfl), WS_cong (cls := DD) (fun c hc => ent_row (mgD_row (DD_b c hc)) (DD_n22 c hc))]
theorem WS_fst {cls : List rf} {cy : Nat → ClassId} {ad : rf → Nat} {M : mM} : (WS cls cy ad M).map (fun q => q.1) = cls.map ad := by
  unfold WS
  rw [List.map_map]; rfl
theorem D_same {A : Nat → Prop} {w1 w2 : va_W} (h : va_D A w1) (e : w1.map (fun q => q.1) = w2.map (fun q => q.1)) : va_D A w2 := by
  have key : ∀ (k : Nat) (q : Nat × va_E), w2[k]? = some q → ∃ e1 : va_E, w1[k]? = some (q.1, e1) := fun k q hk => by
    have h1 : (w1.map (fun q => q.1))[k]? = some q.1 := by rw [e, List.getElem?_map, hk]; rfl
    rw [List.getElem?_map] at h1
    cases h2 : w1[k]? with
    | none => rw [h2] at h1; cases h1
    | some q1 =>
      rw [h2] at h1
      have h3 : q1.1 = q.1 := Option.some.inj h1
      exact ⟨q1.2, by rw [← h3]⟩
  refine ⟨fun i j p q hp hq hpq => ?_, fun k q hk => ?_⟩
  · obtain ⟨e1, h1⟩ := key i p hp
    obtain ⟨e2, h2⟩ := key j q hq
    exact h.1 i j _ _ h1 h2 hpq
  · obtain ⟨e1, h1⟩ := key k q hk
    exact h.2 k (q.1, e1) h1
theorem P_left {G : va_G} {cl : List vw_C} {w1 w2 : va_W} {H : Heap} (h : va_P G cl (w1 ++ w2) H) : va_P G cl w1 H := fun k q hk => h k q (by rw [List.getElem?_append_left (List.getElem?_eq_some_iff.mp hk).1]; exact hk)
theorem P_right {G : va_G} {cl : List vw_C} {w1 w2 : va_W} {H : Heap} (h : va_P G cl (w1 ++ w2) H) : va_P G cl w2 H := fun k q hk => h (w1.length + k) q (by rw [List.getElem?_append_right (Nat.le_add_right _ _), Nat.add_sub_cancel_left]; exact hk)
theorem D_left {A : Nat → Prop} {w1 w2 : va_W} (h : va_D A (w1 ++ w2)) : va_D A w1 := ⟨fun i j p q hp hq => h.1 i j p q (by rw [List.getElem?_append_left (List.getElem?_eq_some_iff.mp hp).1]; exact hp) (by rw [List.getElem?_append_left (List.getElem?_eq_some_iff.mp hq).1]; exact hq), fun k q hk => h.2 k q (by rw [List.getElem?_append_left (List.getElem?_eq_some_iff.mp hk).1]; exact hk)⟩
theorem D_right {A : Nat → Prop} {w1 w2 : va_W} (h : va_D A (w1 ++ w2)) : va_D A w2 := by
  have go : ∀ {k : Nat} {q : Nat × va_E}, w2[k]? = some q → (w1 ++ w2)[w1.length + k]? = some q := fun hk => by rw [List.getElem?_append_right (Nat.le_add_right _ _), Nat.add_sub_cancel_left]; exact hk
  exact ⟨fun i j p q hp hq e => by have := h.1 _ _ p q (go hp) (go hq) e; omega, fun k q hk => h.2 _ q (go hk)⟩
theorem D_apart {A : Nat → Prop} {w1 w2 : va_W} (h : va_D A (w1 ++ w2)) {i j : Nat} {a : Nat} {e1 e2 : va_E} (h1 : w1[i]? = some (a, e1)) (h2 : w2[j]? = some (a, e2)) : False := by
  have l1 := (List.getElem?_eq_some_iff.mp h1).1
  have := h.1 i (w1.length + j) (a, e1) (a, e2) (by rw [List.getElem?_append_left l1]; exact h1) (by rw [List.getElem?_append_right (Nat.le_add_right _ _), Nat.add_sub_cancel_left]; exact h2) rfl
  omega
theorem P_size {G : va_G} {cl : List vw_C} {ws : va_W} {H : Heap} {k : Nat} {q : Nat × va_E} (h : va_P G cl ws H) (hk : ws[k]? = some q) : q.1 < H.size := (h k q hk).lt
theorem mgC_I {M' M : mM} (h' : Inv M') (h : Inv M) : Inv (mgC M' M) := fun c k => by
  show IN c.1 k (bif bD c then M.1 c k else M'.1 c k)
  cases bD c
  · exact h' c k
  · exact h c k
theorem mgD_I {M' M : mM} (h : Inv M) : Inv (mgD M' M) := fun c k => by
  by_cases hb : bD c = false
  · show IN c.1 k (bif bD c then M'.1 c k else M.1 c k)
    rw [hb]; exact h c k
  · have h1 : c.1 = 12 ∨ 50 ≤ c.1 := by
      have h2 : bD c = true := by simpa using hb
      unfold bD at h2
      simpa using h2
    generalize (mgD M' M).1 c k = v
    unfold IN
    split <;> first | trivial | omega
theorem mgD_D {M' M : mM} (h' : InvD M') : InvD (mgD M' M) := by
  refine ⟨fun c k => ?_, ?_, ?_, ?_⟩
  · by_cases hb : bD c = true
    · show IND c.1 k (bif bD c then M'.1 c k else M.1 c k)
      rw [hb]; exact h'.1 c k
    · have h1 : ¬ (c.1 = 12 ∨ 50 ≤ c.1) := by
        intro q
        apply hb
        unfold bD
        simpa using q
      generalize (mgD M' M).1 c k = v
      unfold IND
      split <;> first | trivial | omega
  · rw [mgD_row (by rfl)]; exact h'.2.1
  · rw [mgD_row (by rfl)]; exact h'.2.2.1
  · rw [mgD_row (by rfl)]; exact h'.2.2.2
theorem mgC_D {M' M : mM} (h : InvD M) : InvD (mgC M' M) := by
  refine ⟨fun c k => ?_, ?_, ?_, ?_⟩
  · by_cases hb : bD c = true
    · show IND c.1 k (bif bD c then M.1 c k else M'.1 c k)
      rw [hb]; exact h.1 c k
    · have h1 : ¬ (c.1 = 12 ∨ 50 ≤ c.1) := by
        intro q
        apply hb
        unfold bD
        simpa using q
      generalize (mgC M' M).1 c k = v
      unfold IND
      split <;> first | trivial | omega
  · rw [mgC_rowD (by rfl)]; exact h.2.1
  · rw [mgC_rowD (by rfl)]; exact h.2.2.1
  · rw [mgC_rowD (by rfl)]; exact h.2.2.2
def LX (p : Program) (s : State) (m : MethodId) (c : Code) (b L : Nat) (xs : Nat → Int32) (A : Nat → Prop) (G : va_G) (cy : Nat → ClassId) (ad : rf → Nat) (ce sl : Nat) : Prop :=
  p.tables.exec = Jvm.exec ∧ c.code = code ∧ c.maxLocals = 4 ∧ s.vm.findClass RL = some m.cls ∧ (∀ w ∈ BASE, w.before #[Value.ref b] s = true) ∧ EN G cy (skA ad) s ∧ STAT (saA ad) (skA ad) A s s.heap ∧ va_X b L xs s s.heap ∧ b < s.heap.size ∧ ¬ A b ∧ (∀ q : Nat, s.heap.size ≤ q → A q) ∧ ad (94, 0, 0) = b ∧ L ≤ 3072 ∧ ce ≤ 600000 ∧ sl ≤ 7302250
def WL (p : Program) (l : Launch) (e : Env) (s : State) (m : MethodId) (below : List Frame) (meth : Method) (c : Code) (b : Nat) (A : Nat → Prop) (G : va_G) (cy : Nat → ClassId) (ad : rf → Nat) (ce sl : Nat) (Z : State → Prop) (pc : Nat) (ls : List (Nat × mV)) (st : List mV) (M : mM) : Prop :=
  ∀ (lsA : Array Slot) (H : Heap) (locs : List Loc), lv_has lsA 4 (gl ad ls) → WO EE G cy ad A M H → va_S A s.heap H locs → W p l e room_1 s m #[Value.ref b] below meth c H locs ce sl Z (F0 m pc lsA (st.map (gv ad)))
section WLROWS
variable {p : Program} {l : Launch} {e : Env} {s : State} {m : MethodId} {below : List Frame} {meth : Method} {c : Code} {b L : Nat} {xs : Nat → Int32} {A : Nat → Prop} {G : va_G} {cy : Nat → ClassId} {ad : rf → Nat} {ce sl : Nat} {Z : State → Prop} {pc : Nat} {ls : List (Nat × mV)} {st : List mV} {M : mM}
theorem wl_aload_n (X : LX p s m c b L xs A G cy ad ce sl) {k : Fin 4} {i : Nat} {x : rf} (hd : decode code pc = .ok (.aload_n k, 1)) (hi : (k : Nat) = i) (j : Nat) (hj : ls[j]? = some (i, vR x)) (kk : WL p l e s m below meth c b A G cy ad ce sl Z (pc + 1) ls (vR x :: st) M) : WL p l e s m below meth c b A G cy ad ce sl Z pc ls st M := fun lsA H locs hl hP hS => lv_aload_n X.1 X.2.1 hd hi (lv_at hl j (gl_at hj)) (kk lsA H locs hl hP hS)
theorem wl_iload_n (X : LX p s m c b L xs A G cy ad ce sl) {k : Fin 4} {i : Nat} {x : Int32} (hd : decode code pc = .ok (.iload_n k, 1)) (hi : (k : Nat) = i) (j : Nat) (hj : ls[j]? = some (i, vI x)) (kk : WL p l e s m below meth c b A G cy ad ce sl Z (pc + 1) ls (vI x :: st) M) : WL p l e s m below meth c b A G cy ad ce sl Z pc ls st M := fun lsA H locs hl hP hS => lv_iload_n X.1 X.2.1 hd hi (lv_at hl j (gl_at hj)) (kk lsA H locs hl hP hS)
theorem wl_iconst (X : LX p s m c b L xs A G cy ad ce sl) {k : Int} {v : Int32} (hd : decode code pc = .ok (.iconst k, 1)) (hv : Int32.ofInt k = v) (kk : WL p l e s m below meth c b A G cy ad ce sl Z (pc + 1) ls (vI v :: st) M) : WL p l e s m below meth c b A G cy ad ce sl Z pc ls st M := fun lsA H locs hl hP hS => lv_iconst X.1 X.2.1 hd hv (kk lsA H locs hl hP hS)
theorem wl_bipush (X : LX p s m c b L xs A G cy ad ce sl) {k : Int} {v : Int32} (hd : decode code pc = .ok (.bipush k, 2)) (hv : (Int8.ofInt k).toInt32 = v) (kk : WL p l e s m below meth c b A G cy ad ce sl Z (pc + 2) ls (vI v :: st) M) : WL p l e s m below meth c b A G cy ad ce sl Z pc ls st M := fun lsA H locs hl hP hS => lv_bipush X.1 X.2.1 hd hv (kk lsA H locs hl hP hS)
theorem wl_ldc2 (X : LX p s m c b L xs A G cy ad ce sl) {idx : Nat} {v : Int64} (hw : Cond.constantLong RL idx v ∈ BASE) (hd : decode code pc = .ok (.ldc2_w idx, 3)) (kk : WL p l e s m below meth c b A G cy ad ce sl Z (pc + 3) ls (vL v :: st) M) : WL p l e s m below meth c b A G cy ad ce sl Z pc ls st M := fun lsA H locs hl hP hS => lv_ldc2 X.1 X.2.1 X.2.2.2.1 (X.2.2.2.2.1 _ hw) hd (kk lsA H locs hl hP hS)
theorem wl_i2l (X : LX p s m c b L xs A G cy ad ce sl) {x : Int32} (hd : decode code pc = .ok (.i2l, 1)) (kk : ∀ z : Int64, WL p l e s m below meth c b A G cy ad ce sl Z (pc + 1) ls (vL z :: st) M) : WL p l e s m below meth c b A G cy ad ce sl Z pc ls (vI x :: st) M := fun lsA H locs hl hP hS => lv_i2l X.1 X.2.1 hd rfl (kk x.toInt64 lsA H locs hl hP hS)
theorem wl_lshl (X : LX p s m c b L xs A G cy ad ce sl) {x : Int64} {w : Int32} (hd : decode code pc = .ok (.lshl, 1)) (kk : ∀ z : Int64, WL p l e s m below meth c b A G cy ad ce sl Z (pc + 1) ls (vL z :: st) M) : WL p l e s m below meth c b A G cy ad ce sl Z pc ls (vI w :: vL x :: st) M := fun lsA H locs hl hP hS => lv_lshl X.1 X.2.1 hd rfl (kk (x <<< (w.toInt64 &&& 63)) lsA H locs hl hP hS)
theorem wl_land (X : LX p s m c b L xs A G cy ad ce sl) {x w : Int64} (hd : decode code pc = .ok (.land, 1)) (kk : ∀ z : Int64, WL p l e s m below meth c b A G cy ad ce sl Z (pc + 1) ls (vL z :: st) M) : WL p l e s m below meth c b A G cy ad ce sl Z pc ls (vL w :: vL x :: st) M := fun lsA H locs hl hP hS => lv_land X.1 X.2.1 hd (kk (x &&& w) lsA H locs hl hP hS)
theorem wl_lor (X : LX p s m c b L xs A G cy ad ce sl) {x w : Int64} (hd : decode code pc = .ok (.lor, 1)) (kk : ∀ z : Int64, WL p l e s m below meth c b A G cy ad ce sl Z (pc + 1) ls (vL z :: st) M) : WL p l e s m below meth c b A G cy ad ce sl Z pc ls (vL w :: vL x :: st) M := fun lsA H locs hl hP hS => lv_lor X.1 X.2.1 hd (kk (x ||| w) lsA H locs hl hP hS)
theorem wl_iaddB (X : LX p s m c b L xs A G cy ad ce sl) {x w : Int32} {a c0 : Int} (hd : decode code pc = .ok (.iadd, 1)) (hx : x.toInt = a) (hy : w.toInt = c0) (h : -2147483648 ≤ a + c0 ∧ a + c0 < 2147483648) (kk : ∀ z : Int32, z.toInt = a + c0 → WL p l e s m below meth c b A G cy ad ce sl Z (pc + 1) ls (vI z :: st) M) : WL p l e s m below meth c b A G cy ad ce sl Z pc ls (vI w :: vI x :: st) M := fun lsA H locs hl hP hS => lv_iadd X.1 X.2.1 hd (kk _ (addI hx hy h.1 h.2) lsA H locs hl hP hS)
theorem wl_pop (X : LX p s m c b L xs A G cy ad ce sl) {v : Int32} (hd : decode code pc = .ok (.pop, 1)) (kk : WL p l e s m below meth c b A G cy ad ce sl Z (pc + 1) ls st M) : WL p l e s m below meth c b A G cy ad ce sl Z pc ls (vI v :: st) M := fun lsA H locs hl hP hS => lv_pop X.1 X.2.1 hd rfl (kk lsA H locs hl hP hS)
theorem wl_goto (X : LX p s m c b L xs A G cy ad ce sl) {off : Int} {tgt : Nat} (hd : decode code pc = .ok (.goto off, 3)) (ht : (pc : Int) + off = (tgt : Int)) (kk : WL p l e s m below meth c b A G cy ad ce sl Z tgt ls st M) : WL p l e s m below meth c b A G cy ad ce sl Z pc ls st M := fun lsA H locs hl hP hS => lv_goto X.1 X.2.1 hd ht (kk lsA H locs hl hP hS)
theorem wl_if_eq (X : LX p s m c b L xs A G cy ad ce sl) {x : Int32} {off : Int} {tgt : Nat} (hd : decode code pc = .ok (.ifCond .eq off, 3)) (ht : (pc : Int) + off = (tgt : Int)) (k1 : WL p l e s m below meth c b A G cy ad ce sl Z tgt ls st M) (k2 : WL p l e s m below meth c b A G cy ad ce sl Z (pc + 3) ls st M) : WL p l e s m below meth c b A G cy ad ce sl Z pc ls (vI x :: st) M := fun lsA H locs hl hP hS => lv_if_eq X.1 X.2.1 hd ht (fun _ => k1 lsA H locs hl hP hS) (fun _ => k2 lsA H locs hl hP hS)
theorem wl_icmp_eq (X : LX p s m c b L xs A G cy ad ce sl) {x w : Int32} {off : Int} {tgt : Nat} (hd : decode code pc = .ok (.if_icmp .eq off, 3)) (ht : (pc : Int) + off = (tgt : Int)) (h : x.toInt = w.toInt) (k1 : WL p l e s m below meth c b A G cy ad ce sl Z tgt ls st M) : WL p l e s m below meth c b A G cy ad ce sl Z pc ls (vI w :: vI x :: st) M := fun lsA H locs hl hP hS => lv_icmp_eq X.1 X.2.1 hd ht (fun _ => k1 lsA H locs hl hP hS) (fun q => absurd (Int32.toInt_inj.mp h) q)
theorem wl_sld (X : LX p s m c b L xs A G cy ad ce sl) {x : Int32} (j : Nat) (hx : x.toInt = (j : Int)) (hj : j < L) (hd : decode code pc = .ok (.iaload, 1)) (kk : WL p l e s m below meth c b A G cy ad ce sl Z (pc + 1) ls (vI (xs j) :: st) M) : WL p l e s m below meth c b A G cy ad ce sl Z pc ls (vI x :: vR (94, 0, 0) :: st) M := by
  intro lsA H locs hl hP hS
  have kk := kk lsA H locs hl hP hS
  obtain ⟨hx1, hb, hml, hown, hts, hE, hT, hX, hbl, hbA, hA, had, hL, hce, hsl⟩ := X
  show W _ _ _ _ _ _ _ _ _ _ _ _ _ _ _ (F0 m pc lsA (.int x :: .ref (ad (94, 0, 0)) :: st.map (gv ad)))
  rw [had]
  refine va_sld hx1 hb hX hbl hbA hS (vinI hx ⟨Int.natCast_nonneg j, Int.ofNat_lt.mpr hj⟩) hd ?_
  rw [clN hx]
  exact kk
/-- an argument out of the script -/
theorem wl_arg (X : LX p s m c b L xs A G cy ad ce sl) {v : Int32} (k : Nat) {i : Int32} (hi : 0 ≤ i.toInt ∧ i.toInt + 6 ≤ (L : Int)) (hk : k < 6) (hv : v.toInt = (k : Int)) {ki : Int} (hki : Int32.ofInt ki = v) (q0 q3 : Nat) (h0 : ls[q0]? = some (0, vR (94, 0, 0))) (h3 : ls[q3]? = some (3, vI i)) (d0 : decode code pc = .ok (.aload_n 0, 1)) (d1 : decode code (pc + 1) = .ok (.iload_n 3, 1)) (d2 : decode code (pc + 1 + 1) = .ok (.iconst ki, 1)) (d3 : decode code (pc + 1 + 1 + 1) = .ok (.iadd, 1)) (d4 : decode code (pc + 1 + 1 + 1 + 1) = .ok (.iaload, 1)) (kk : WL p l e s m below meth c b A G cy ad ce sl Z (pc + 1 + 1 + 1 + 1 + 1) ls (vI (xs (i.toInt.toNat + k)) :: st) M) : WL p l e s m below meth c b A G cy ad ce sl Z pc ls st M := by
  have hL := X.2.2.2.2.2.2.2.2.2.2.2.2.1
  refine wl_aload_n X d0 rfl q0 h0 ?_
  refine wl_iload_n X d1 rfl q3 h3 ?_
  refine wl_iconst X d2 hki ?_
  refine wl_iaddB X d3 rfl hv (by omega) (fun z hz => ?_)
  exact wl_sld X (i.toInt.toNat + k) (by omega) (by omega) d4 kk
variable {y' : MethodName} {b' : ByteArray} {n' d k idx : Nat} {Q' : Int32 → mM → Prop} {as rest : List mV}
/-- a method of the class is called -/
theorem wl_callC (X : LX p s m c b L xs A G cy ad ce sl) {ty : FieldType} (hc : WP CC l G cy ad y' b' n' (some ty) d 0 (las 0 (vR (11, 0, 0) :: as)) [] M Q') (hy : KV y' b' n' (some ty) k) (hp : plainName y'.cls = true) (hn : (lg_sl ((vR (11, 0, 0) :: as).map (gv ad))).length ≤ n') (hl : Cond.methodLink RL idx y' ∈ BASE) (hq : RX11 = y'.cls) (hk : as.length = k) (hst : st = as.reverse ++ ([vR (11, 0, 0)] ++ rest)) (hb8 : n' ≤ 80) (hr4 : rest.length ≤ 4) (hd8 : d ≤ 800) (hd : decode code pc = .ok (.invokevirtual idx, 3))
    (kk : ∀ (v : Int32) (M' : mM), Q' v M' → WL p l e s m below meth c b A G cy ad ce sl Z (pc + 3) ls (vI v :: rest) (mgC M' M)) : WL p l e s m below meth c b A G cy ad ce sl Z pc ls st M := by
  intro lsA H locs hl2 hP hS
  obtain ⟨hx, hb, hml, hown, hts, hE, hT, hX, hbl, hbA, hA, had, hL, hce, hsl⟩ := X
  subst hst
  rw [args_st]
  have hM := toMet hc hp hn H.size
  have hPE : va_P G classes (WS CC cy ad M ++ WS DD cy ad M) H := WS_EE ▸ hP.1
  have hDE : va_D A (WS CC cy ad M ++ WS DD cy ad M) := WS_EE ▸ hP.2
  have hW : WO CC G cy ad A M H := ⟨P_left hPE, D_left hDE⟩
  have hF := WO_free hW hS hA
  obtain ⟨q0, -, hq0⟩ := WS_mem (cy := cy) (ad := ad) (M := M) ic_11
  have hcat := catsum ad rest
  refine va_calli (va_runV (rest := rest.map (gv ad)) ⟨hx, hb, hml, hown, hts⟩ hM (cwV k hts (gV hy hl) rfl rfl rfl ⟨rfl, hy.2.2.2.2⟩ ⟨by show d + 1 ≤ 2048; omega, by show 8 + (n' + 11) + 100 * d ≤ 84000; omega⟩) ⟨PG_blind, recv0 hE hW.1 q0 hq0 rfl hq, PG_of hS hT hW.1 hW.2 hE⟩ rfl (by rw [List.length_map]; exact hk) hl2.1 rfl (lv_room (by omega)) hd ⟨by show ce + 0 ≤ 600000; omega, by show sl + 0 ≤ 7302250; omega⟩) hS (fun q _ h => hF q h) hF (fun v u t H1 locs1 ht hvm hpo hB hz hkp hS1 => ?_)
  subst ht
  refine kk v u hpo lsA _ locs1 hl2 ⟨?_, ?_⟩ hS1
  · rw [WS_mgC]
    refine va_P.app hB.1 ((P_right hPE).kept (fun k q hk => hkp q.1 (P_size (P_right hPE) hk) (fun z => ?_)))
    rcases z with ⟨i, e1, h1⟩ | z
    · exact D_apart hDE h1 hk
    · have := P_size (P_right hPE) hk; omega
  · rw [WS_mgC]
    exact D_same hDE (by rw [List.map_append, List.map_append, WS_fst, WS_fst, WS_fst])
/-- a method of the model is called -/
theorem wl_callD (X : LX p s m c b L xs A G cy ad ce sl) {ty : FieldType} (hc : WP DD l G cy ad y' b' n' (some ty) d 0 (las 0 (vR (12, 0, 0) :: as)) [] M Q') (hy : KV y' b' n' (some ty) k) (hp : plainName y'.cls = true) (hn : (lg_sl ((vR (12, 0, 0) :: as).map (gv ad))).length ≤ n') (hl : Cond.methodLink RL idx y' ∈ BASE) (hq : RX12 = y'.cls) (hk : as.length = k) (hst : st = as.reverse ++ ([vR (12, 0, 0)] ++ rest)) (hb8 : n' ≤ 80) (hr4 : rest.length ≤ 4) (hd8 : d ≤ 800) (hd : decode code pc = .ok (.invokevirtual idx, 3))
    (kk : ∀ (v : Int32) (M' : mM), Q' v M' → WL p l e s m below meth c b A G cy ad ce sl Z (pc + 3) ls (vI v :: rest) (mgD M' M)) : WL p l e s m below meth c b A G cy ad ce sl Z pc ls st M := by
  intro lsA H locs hl2 hP hS
  obtain ⟨hx, hb, hml, hown, hts, hE, hT, hX, hbl, hbA, hA, had, hL, hce, hsl⟩ := X
  subst hst
  rw [args_st]
  have hM := toMet hc hp hn H.size
  have hPE : va_P G classes (WS CC cy ad M ++ WS DD cy ad M) H := WS_EE ▸ hP.1
  have hDE : va_D A (WS CC cy ad M ++ WS DD cy ad M) := WS_EE ▸ hP.2
  have hW : WO DD G cy ad A M H := ⟨P_right hPE, D_right hDE⟩
  have hF := WO_free hW hS hA
  obtain ⟨q0, -, hq0⟩ := WS_mem (cy := cy) (ad := ad) (M := M) ic_12
  have hcat := catsum ad rest
  refine va_calli (va_runV (rest := rest.map (gv ad)) ⟨hx, hb, hml, hown, hts⟩ hM (cwV k hts (gV hy hl) rfl rfl rfl ⟨rfl, hy.2.2.2.2⟩ ⟨by show d + 1 ≤ 2048; omega, by show 8 + (n' + 11) + 100 * d ≤ 84000; omega⟩) ⟨PG_blind, recv0 hE hW.1 q0 hq0 rfl hq, PG_of hS hT hW.1 hW.2 hE⟩ rfl (by rw [List.length_map]; exact hk) hl2.1 rfl (lv_room (by omega)) hd ⟨by show ce + 0 ≤ 600000; omega, by show sl + 0 ≤ 7302250; omega⟩) hS (fun q _ h => hF q h) hF (fun v u t H1 locs1 ht hvm hpo hB hz hkp hS1 => ?_)
  subst ht
  refine kk v u hpo lsA _ locs1 hl2 ⟨?_, ?_⟩ hS1
  · rw [WS_mgD]
    refine va_P.app ((P_left hPE).kept (fun k q hk => hkp q.1 (P_size (P_left hPE) hk) (fun z => ?_))) hB.1
    rcases z with ⟨i, e1, h1⟩ | z
    · exact D_apart hDE hk h1
    · have := P_size (P_left hPE) hk; omega
  · rw [WS_mgD]
    exact D_same hDE (by rw [List.map_append, List.map_append, WS_fst, WS_fst, WS_fst])
theorem wl_slen (X : LX p s m c b L xs A G cy ad ce sl) (hd : decode code pc = .ok (.arraylength, 1)) (kk : ∀ z : Int32, z.toInt = (L : Int) → WL p l e s m below meth c b A G cy ad ce sl Z (pc + 1) ls (vI z :: st) M) : WL p l e s m below meth c b A G cy ad ce sl Z pc ls (vR (94, 0, 0) :: st) M := by
  intro lsA H locs hl hP hS
  have hL := X.2.2.2.2.2.2.2.2.2.2.2.2.1
  have kk := kk (Int32.ofNat L) (nI_toInt (by omega)) lsA H locs hl hP hS
  obtain ⟨hx1, hb, hml, hown, hts, hE, hT, hX, hbl, hbA, hA, had, hL2, hce, hsl⟩ := X
  show W _ _ _ _ _ _ _ _ _ _ _ _ _ _ _ (F0 m pc lsA (.ref (ad (94, 0, 0)) :: st.map (gv ad)))
  rw [had]
  exact va_slen hx1 hb hX hbl hbA hS hd kk
theorem wl_isubB (X : LX p s m c b L xs A G cy ad ce sl) {x w : Int32} {a c0 : Int} (hd : decode code pc = .ok (.isub, 1)) (hx : x.toInt = a) (hy : w.toInt = c0) (h : -2147483648 ≤ a - c0 ∧ a - c0 < 2147483648) (kk : ∀ z : Int32, z.toInt = a - c0 → WL p l e s m below meth c b A G cy ad ce sl Z (pc + 1) ls (vI z :: st) M) : WL p l e s m below meth c b A G cy ad ce sl Z pc ls (vI w :: vI x :: st) M := fun lsA H locs hl hP hS => lv_isub X.1 X.2.1 hd (kk _ (subI hx hy h.1 h.2) lsA H locs hl hP hS)
theorem wl_icmp_gt (X : LX p s m c b L xs A G cy ad ce sl) {x w : Int32} {a c0 : Int} {off : Int} {tgt : Nat} (hd : decode code pc = .ok (.if_icmp .gt off, 3)) (ht : (pc : Int) + off = (tgt : Int)) (hx : x.toInt = a) (hy : w.toInt = c0) (k1 : c0 < a → WL p l e s m below meth c b A G cy ad ce sl Z tgt ls st M) (k2 : a ≤ c0 → WL p l e s m below meth c b A G cy ad ce sl Z (pc + 3) ls st M) : WL p l e s m below meth c b A G cy ad ce sl Z pc ls (vI w :: vI x :: st) M := fun lsA H locs hl hP hS => lv_icmp_gt X.1 X.2.1 hd ht (fun h => k1 (cvLt hy hx h) lsA H locs hl hP hS) (fun h => k2 (cvnLt hy hx h) lsA H locs hl hP hS)
theorem wl_iandB (X : LX p s m c b L xs A G cy ad ce sl) {x w : Int32} (k : Nat) (hd : decode code pc = .ok (.iand, 1)) (hm : w.toBitVec.toNat = 2 ^ k - 1) (hk : k ≤ 30) (kk : ∀ z : Int32, 0 ≤ z.toInt ∧ z.toInt < (2 ^ k : Nat) → WL p l e s m below meth c b A G cy ad ce sl Z (pc + 1) ls (vI z :: st) M) : WL p l e s m below meth c b A G cy ad ce sl Z pc ls (vI w :: vI x :: st) M := fun lsA H locs hl hP hS => lv_iand X.1 X.2.1 hd (kk _ (andI x k hm hk) lsA H locs hl hP hS)
theorem wl_tsIn (X : LX p s m c b L xs A G cy ad ce sl) {x : Int32} {a dflt lo hi off : Int} {offs : Array Int} {len tgt : Nat} (hd : decode code pc = .ok (.tableswitch dflt lo hi offs, len)) (hx : x.toInt = a) (h1 : ¬ a < lo) (h2 : ¬ hi < a) (ho : offs[(a - lo).toNat]? = some off) (ht : (pc : Int) + off = (tgt : Int)) (kk : WL p l e s m below meth c b A G cy ad ce sl Z tgt ls st M) : WL p l e s m below meth c b A G cy ad ce sl Z pc ls (vI x :: st) M := fun lsA H locs hl hP hS => lv_tableIn X.1 X.2.1 hd (hx ▸ h1) (hx ▸ h2) (hx ▸ ho) ht (kk lsA H locs hl hP hS)
theorem wl_tsOut (X : LX p s m c b L xs A G cy ad ce sl) {x : Int32} {a dflt lo hi : Int} {offs : Array Int} {len tgt : Nat} (hd : decode code pc = .ok (.tableswitch dflt lo hi offs, len)) (hx : x.toInt = a) (h : a < lo ∨ hi < a) (ht : (pc : Int) + dflt = (tgt : Int)) (kk : WL p l e s m below meth c b A G cy ad ce sl Z tgt ls st M) : WL p l e s m below meth c b A G cy ad ce sl Z pc ls (vI x :: st) M := fun lsA H locs hl hP hS => lv_tableOut X.1 X.2.1 hd (hx ▸ h) ht (kk lsA H locs hl hP hS)
theorem wl_iincB (X : LX p s m c b L xs A G cy ad ce sl) {i j : Nat} {k : Int} {x : Int32} {f : Int32 → List (Nat × mV)} {a : Int} (hd : decode code pc = .ok (.iinc i k, 3)) (hj : ls[j]? = some (i, vI x)) (hn : i < 4) (hs : ∀ z, lset ls i (vI z) = f z) (hx : x.toInt = a) (hk : (Int32.ofInt k).toInt = k) (h : -2147483648 ≤ a + k ∧ a + k < 2147483648) (kk : ∀ z : Int32, z.toInt = a + k → WL p l e s m below meth c b A G cy ad ce sl Z (pc + 3) (f z) st M) : WL p l e s m below meth c b A G cy ad ce sl Z pc ls st M := fun lsA H locs hl hP hS => lv_iinc X.1 X.2.1 hd hl (gl_at hj) rfl hn (gl_lset ad ls i (vI (x + Int32.ofInt k))) (fun lsB hlB => kk _ (addI hx hk h.1 h.2) lsB H locs (by rw [← hs]; exact hlB) hP hS)
end WLROWS
