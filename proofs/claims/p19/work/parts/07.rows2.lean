/-! rows with names, frames, the class's invariant -/
section WPROWS2
variable {cls : List rf} {l : Launch} {G : va_G} {cy : Nat → ClassId} {ad : rf → Nat} {y : MethodName} {b : ByteArray} {n : Nat} {r : Option FieldType} {d : Nat} {pc : Nat} {ls : List (Nat × mV)} {st : List mV} {M : mM} {Q : Int32 → mM → Prop}
theorem w_getI {idx ci k role b' w : Nat} {ty : FieldType} {fin : Bool} {fs : List fR} (hF : FLK y.cls idx ci k ty fin) (hO : OB role = some (ci, fs)) (hf : fs[k]? = some oI) (hc : (role, b', w) ∈ cls) (hd : decode b pc = .ok (.getfield idx, 3)) (kk : ∀ z : Int32, z = M.1 (role, b', w) k → WP cls l G cy ad y b n r d (pc + 3) ls (vI z :: st) M Q) : WP cls l G cy ad y b n r d pc ls (vR (role, b', w) :: st) M Q := w_get (own := y.cls) hF hO hf hc hd rfl (kk _ rfl)
theorem w_getR {idx ci k role b' w : Nat} {ty : FieldType} {fin : Bool} {fs : List fR} {f : fR} {c' : rf} (hF : FLK y.cls idx ci k ty fin) (hO : OB role = some (ci, fs)) (hf : fs[k]? = some f) (hc : (role, b', w) ∈ cls) (hd : decode b pc = .ok (.getfield idx, 3)) (hv : f b' w (M.1 (role, b', w) k) = vR c') (kk : WP cls l G cy ad y b n r d (pc + 3) ls (vR c' :: st) M Q) : WP cls l G cy ad y b n r d pc ls (vR (role, b', w) :: st) M Q := w_get (own := y.cls) hF hO hf hc hd hv kk
theorem w_putI {idx ci k role b' w : Nat} {fs : List fR} {x : Int32} (hnd : cls.Nodup) (hF : FLK y.cls idx ci k .int false) (hO : OB role = some (ci, fs)) (hf : fs[k]? = some oI) (hc : (role, b', w) ∈ cls) (hd : decode b pc = .ok (.putfield idx, 3)) (kk : ∀ M', M' = up M (role, b', w) k x → WP cls l G cy ad y b n r d (pc + 3) ls st M' Q) : WP cls l G cy ad y b n r d pc ls (vI x :: vR (role, b', w) :: st) M Q := w_put hnd hF hO hf hc hd rfl rfl rfl kk
theorem w_putZ {idx ci k role b' w : Nat} {fs : List fR} {x : Int32} (hnd : cls.Nodup) (hF : FLK y.cls idx ci k .boolean false) (hO : OB role = some (ci, fs)) (hf : fs[k]? = some oI) (hc : (role, b', w) ∈ cls) (hz : 0 ≤ x.toInt ∧ x.toInt ≤ 1) (hd : decode b pc = .ok (.putfield idx, 3)) (kk : ∀ M', M' = up M (role, b', w) k x → WP cls l G cy ad y b n r d (pc + 3) ls st M' Q) : WP cls l G cy ad y b n r d pc ls (vI x :: vR (role, b', w) :: st) M Q := w_put hnd hF hO hf hc hd rfl (nzB hz).1 (nzB hz).2 kk
theorem w_putD {idx ci k role b' w : Nat} {ty : FieldType} {fs : List fR} {t : List rf} (x : Int32) {c' : rf} (hnd : cls.Nodup) (hF : FLK y.cls idx ci k ty false) (hO : OB role = some (ci, fs)) (hf : fs[k]? = some (oD t)) (hc : (role, b', w) ∈ cls) (hx : oD t b' w x = vR c') (hn : narrow ty (.ref (ad c')) = .ref (ad c')) (hfit : fits ty (.ref (ad c')) = true) (hd : decode b pc = .ok (.putfield idx, 3)) (kk : ∀ M', M' = up M (role, b', w) k x → WP cls l G cy ad y b n r d (pc + 3) ls st M' Q) : WP cls l G cy ad y b n r d pc ls (vR c' :: vR (role, b', w) :: st) M Q := w_put hnd hF hO hf hc hd hx hn hfit kk
theorem w_ialdL {role b' w : Nat} {nf : Nat → Nat} {x : Int32} (j : Nat) (hO : OB role = none) (hR : AR role = some (0, nf)) (hc : (role, b', w) ∈ cls) (hx : x.toInt = (j : Int)) (h : j < nf w) (hd : decode b pc = .ok (.iaload, 1)) (kk : ∀ z : Int32, z = M.1 (role, b', w) j → WP cls l G cy ad y b n r d (pc + 1) ls (vI z :: st) M Q) : WP cls l G cy ad y b n r d pc ls (vI x :: vR (role, b', w) :: st) M Q := w_iald hO hR hc hx ⟨Int.natCast_nonneg j, Int.ofNat_lt.mpr h⟩ hd (fun j' hj z hz => kk z (by rw [hz, Int.ofNat_inj.mp hj]))
theorem w_iastL {role b' w : Nat} {nf : Nat → Nat} {x v : Int32} (j : Nat) (hnd : cls.Nodup) (hO : OB role = none) (hR : AR role = some (0, nf)) (hc : (role, b', w) ∈ cls) (hx : x.toInt = (j : Int)) (h : j < nf w) (hd : decode b pc = .ok (.iastore, 1)) (kk : ∀ M', M' = up M (role, b', w) j v → WP cls l G cy ad y b n r d (pc + 1) ls st M' Q) : WP cls l G cy ad y b n r d pc ls (vI v :: vI x :: vR (role, b', w) :: st) M Q := w_iast hnd hO hR hc hx ⟨Int.natCast_nonneg j, Int.ofNat_lt.mpr h⟩ hd (fun j' hj M' hM => kk M' (by rw [hM, Int.ofNat_inj.mp hj]))
theorem w_aaldL {role b' w t : Nat} {nn : Nat} {C : String} {g : Nat → Nat → rf} {x : Int32} (j : Nat) (hO : OB role = none) (hR : AR role = none) (hQ : RA role = some (t, nn, g)) (ht : ∀ cy : Nat → ClassId, (TYS cy)[t]? = some (cy t, .object C)) (hc : (role, b', w) ∈ cls) (hx : x.toInt = (j : Int)) (h : j < nn) (hd : decode b pc = .ok (.aaload, 1)) (kk : WP cls l G cy ad y b n r d (pc + 1) ls (vR (g b' j) :: st) M Q) : WP cls l G cy ad y b n r d pc ls (vI x :: vR (role, b', w) :: st) M Q := w_aald hO hR hQ ht hc hx ⟨Int.natCast_nonneg j, Int.ofNat_lt.mpr h⟩ hd (fun j' hj _ => Int.ofNat_inj.mp hj ▸ kk)
theorem w_iincX {i j : Nat} {k : Int} {x : Int32} {f : Int32 → List (Nat × mV)} (hd : decode b pc = .ok (.iinc i k, 3)) (hj : ls[j]? = some (i, vI x)) (hn : i < n) (hs : ∀ z, lset ls i (vI z) = f z) (kk : ∀ z : Int32, z = x + Int32.ofInt k → WP cls l G cy ad y b n r d (pc + 3) (f z) st M Q) : WP cls l G cy ad y b n r d pc ls st M Q := w_iincE hd hj rfl hn (hs _) (kk _ rfl)
theorem w_loc {ls' : List (Nat × mV)} (ks : List Nat) (hl : ks.filterMap (fun k => ls[k]?) = ls') (kk : WP cls l G cy ad y b n r d pc ls' st M Q) : WP cls l G cy ad y b n r d pc ls st M Q := by
  intro p e s m args below meth c A X lsA H locs hl2 hP hS
  refine kk p e s m args below meth c A X lsA H locs (lv_sub hl2 ks ?_) hP hS
  subst hl
  unfold lv_pick gl
  rw [List.map_filterMap]
  congr 1
  funext k
  rw [List.getElem?_map]
theorem QC_mono {A : Nat → Prop} {Q' : Int32 → mM → Prop} (hq : ∀ v M', Q' v M' → Q v M') {a : Array Value} {s t : State} {o : Outcome} (h : QC cls G cy ad r A Q' a s o t) : QC cls G cy ad r A Q a s o t := by
  cases r with
  | none =>
    obtain ⟨⟨u, a1, a2, a3⟩, a4⟩ := h
    exact ⟨⟨u, a1, hq _ _ a2, a3⟩, a4⟩
  | some ty =>
    obtain ⟨⟨v, u, a1, a2, a3⟩, a4⟩ := h
    exact ⟨⟨v, u, a1, hq _ _ a2, a3⟩, a4⟩
theorem w_Q {Q' : Int32 → mM → Prop} (h : WP cls l G cy ad y b n r d pc ls st M Q') (hq : ∀ v M', Q' v M' → Q v M') : WP cls l G cy ad y b n r d pc ls st M Q := by
  intro p e s m args below meth c A X lsA H locs hl hP hS T hT hX
  obtain ⟨t, h1, o, g1, g2, g3, g4⟩ := h p e s m args below meth c A X lsA H locs hl hP hS T hT hX
  exact ⟨t, h1, o, g1, g2, QC_mono hq g3, g4⟩
theorem rl_le (w : Nat) : rl w ≤ 48 := by
  unfold rl
  rcases w with _ | _ | _ | _ | _ | _ | _ | w <;> first | decide | exact Nat.zero_le _
theorem w_rl {w : Nat} (kk : ∀ z : Int32, z.toInt = ((rl w : Nat) : Int) ∧ rl w ≤ 48 → WP cls l G cy ad y b n r d pc ls (vI z :: st) M Q) : WP cls l G cy ad y b n r d pc ls (vI (Int32.ofNat (rl w)) :: st) M Q := kk _ ⟨nI_toInt (Nat.lt_of_le_of_lt (rl_le w) (by decide)), rl_le w⟩
end WPROWS2
/-! what a loop reaches -/
def RTC {α : Type} (S : α → α → Prop) (a : α) : Nat → α → Prop
  | 0, z => a = z
  | n + 1, z => ∃ x : α, RTC S a n x ∧ S x z
def RCH {α : Type} (S : α → α → Prop) (a z : α) : Prop := ∃ n : Nat, RTC S a n z
theorem RCH.refl {α : Type} {S : α → α → Prop} {a : α} : RCH S a a := ⟨0, rfl⟩
theorem RCH.tail {α : Type} {S : α → α → Prop} {a x z : α} (h : RCH S a x) (hs : S x z) : RCH S a z := h.elim (fun n hn => ⟨n + 1, x, hn, hs⟩)
theorem RCH.ind {α : Type} {S : α → α → Prop} {a : α} {P : α → Prop} (h0 : P a) (hs : ∀ x z, P x → S x z → P z) : ∀ {z : α}, RCH S a z → P z := fun {z} h => by
  obtain ⟨n, hn⟩ := h
  induction n generalizing z with
  | zero => exact hn ▸ h0
  | succ n ih =>
    obtain ⟨x, h1, h2⟩ := hn
    exact hs x z (ih h1) h2
def iushrX (x w : Int32) : Int32 := (x.toUInt32 >>> (w.toUInt32 &&& Int32.toUInt32 31)).toInt32
theorem ofEq {P : Int32 → Prop} {z x : Int32} (h : z = x) (p : P x) : P z := h ▸ p
def FR (S : rf → Nat → Prop) (M M' : mM) : Prop := ∀ c k, ¬ S c k → M'.1 c k = M.1 c k
theorem FR.self {S : rf → Nat → Prop} {M : mM} : FR S M M := fun _ _ _ => rfl
theorem FR.put {S : rf → Nat → Prop} {M M1 M2 : mM} {c : rf} {k : Nat} {v : Int32} (h : FR S M M1) (he : M2 = up M1 c k v) (hs : S c k) : FR S M M2 := fun c' k' hn => by
  subst he
  rw [up_ne (fun q => hn (by rw [q.1, q.2]; exact hs))]
  exact h c' k' hn
theorem FR.putL {S : rf → Nat → Prop} {M M1 M2 : mM} {k : Nat} {v : Int64} (h : FR S M M1) (he : M2 = upL M1 k v) : FR S M M2 := fun c' k' hn => by
  subst he
  exact h c' k' hn
theorem FR.cpy {S : rf → Nat → Prop} {M M1 M2 : mM} {c0 c1 : rf} {a b n : Nat} (h : FR S M M1) (he : M2 = cp M1 c0 c1 a b n) (hs : ∀ k, S c1 k) : FR S M M2 := fun c' k' hn => by
  subst he
  rw [cp_other a b n (show c' ≠ c1 from fun q => hn (by rw [q]; exact hs k'))]
  exact h c' k' hn
theorem FR.tr {S S' : rf → Nat → Prop} {M M1 M2 : mM} (h : FR S M M1) (h2 : FR S' M1 M2) (hs : ∀ c k, S' c k → S c k) : FR S M M2 := fun c k hn => (h2 c k (fun q => hn (hs c k q))).trans (h c k hn)
def zB (v : Int32) : Prop := 0 ≤ v.toInt ∧ v.toInt ≤ 1
/-- the class's invariant, field by field -/
def IN (r k : Nat) (v : Int32) : Prop := match r with
  | 6 => k = 1 → 0 ≤ v.toInt ∧ v.toInt ≤ 24
  | 9 => k = 6 → 0 ≤ v.toInt ∧ v.toInt ≤ 1
  | 3 => k = 8 → 0 ≤ v.toInt ∧ v.toInt ≤ 1
  | 8 => k = 5 → 0 ≤ v.toInt ∧ v.toInt ≤ 1
  | _ => True
def Inv (M : mM) : Prop := ∀ (c : rf) (k : Nat), IN c.1 k (M.1 c k)
theorem Inv.put {M M' : mM} {c : rf} {k : Nat} {v : Int32} (h : Inv M) (he : M' = up M c k v) (hv : IN c.1 k v) : Inv M' := by
  subst he
  intro c' k'
  by_cases e : c' = c ∧ k' = k
  · rw [e.1, e.2, up_same]; exact hv
  · rw [up_ne e]; exact h c' k'
theorem Inv.putL {M M' : mM} {k : Nat} {v : Int64} (h : Inv M) (he : M' = upL M k v) : Inv M' := by
  subst he
  exact h
theorem Inv.cpy {M M' : mM} {c0 c1 : rf} {a b n : Nat} (h : Inv M) (he : M' = cp M c0 c1 a b n) (hv : ∀ k v, IN c1.1 k v) : Inv M' := by
  subst he
  intro c' k'
  by_cases e : c' = c1
  · subst e; exact hv _ _
  · rw [cp_other _ _ _ e]; exact h c' k'
