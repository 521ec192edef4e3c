section
/-! contracts and calls -/
def las : Nat → List mV → List (Nat × mV)
  | _, [] => []
  | i, v :: t => (i, v) :: las (bif vc2 v then i + 2 else i + 1) t
theorem las_gl (ad : rf → Nat) : ∀ (as : List mV) (i : Nat), gl ad (las i as) = lv_args i (as.map (gv ad))
  | [], _ => rfl
  | v :: t, i => by
    have hc : (if (gv ad v).category = 2 then i + 2 else i + 1) = (bif vc2 v then i + 2 else i + 1) := by rcases v with x | x | x <;> rfl
    have h := las_gl ad t (bif vc2 v then i + 2 else i + 1)
    show (i, gv ad v) :: gl ad (las _ t) = (i, gv ad v) :: lv_args (if (gv ad v).category = 2 then i + 2 else i + 1) (t.map (gv ad))
    rw [hc, h]
abbrev PW (cls : List rf) (G : va_G) (cy : Nat → ClassId) (ad : rf → Nat) (sz : Nat) (M : mM) : State → Prop := PG G cy (skA ad) (saA ad) sz (WS cls cy ad M)
theorem toMet {cls : List rf} {l : Launch} {G : va_G} {cy : Nat → ClassId} {ad : rf → Nat} {y : MethodName} {b : ByteArray} {n : Nat} {r : Option FieldType} {d : Nat} {as : List mV} {M : mM} {Q : Int32 → mM → Prop} (h : WP cls l G cy ad y b n r d 0 (las 0 as) [] M Q) (hy : plainName y.cls = true) (hn : (lg_sl (as.map (gv ad))).length ≤ n) (sz : Nat) :
    Met l y (wsO y b n r) (rmd d) (va_Pc (as.map (gv ad)) (PW cls G cy ad sz M)) (QC cls G cy ad r (va_A (WS cls cy ad M) sz) Q) 0 0 (va_A (WS cls cy ad M) sz) := by
  refine Met.ofW (cc := b) (maxL := n) (ret := r) (ws' := BASE) hy rfl ?_
  intro p e s m args below meth c s₁ B hml hv
  obtain ⟨rfl, ⟨hsz, hP, hE, hD⟩, hT⟩ := hv
  have hts := atoms_spec (ws := wsO y b n r) B.pre
  rw [lg_entry_eq]
  subst hsz
  exact h p e s m (as.map (gv ad)).toArray below meth c (va_A (WS cls cy ad M) s.heap.size) ⟨B.exec, B.bytes, B.returns, hml, fun w hw => hts w (List.mem_cons_of_mem _ hw), findClass_of_methodNamed B.named, B.notSynchronized, hE, hT.up, fun q h => Or.inr h⟩ _ s.heap [] (by rw [las_gl]; exact lv_entry _ hn) ⟨hP, hD.self⟩ va_S.rf
section WPCALLS
variable {cls : List rf} {l : Launch} {G : va_G} {cy : Nat → ClassId} {ad : rf → Nat} {y : MethodName} {b : ByteArray} {n : Nat} {r : Option FieldType} {d : Nat} {pc : Nat} {ls : List (Nat × mV)} {st : List mV} {M : mM} {Q : Int32 → mM → Prop}
variable {y' : MethodName} {b' : ByteArray} {n' : Nat} {Q' : Int32 → mM → Prop} {as rest : List mV} {idx k : Nat}
theorem WO_free {A : Nat → Prop} {s : State} {H : Heap} {locs : List Loc} (hP : WO cls G cy ad A M H) (hS : va_S A s.heap H locs) (hA : ∀ q : Nat, s.heap.size ≤ q → A q) : ∀ q, va_A (WS cls cy ad M) H.size q → A q := fun q h => h.elim (fun ⟨k, e, h⟩ => hP.2.2 k _ h) (fun h => hA q (Nat.le_trans hS.1 h))
theorem WO_up {A B : Nat → Prop} {H : Heap} (h : WO cls G cy ad B M H) (hF : ∀ q, B q → A q) : WO cls G cy ad A M H := ⟨h.1, h.2.weaken (fun _ q _ hb => hF q.1 hb)⟩
theorem args_st {ad : rf → Nat} (as rest : List mV) (v : List mV) : (as.reverse ++ (v ++ rest)).map (gv ad) = (as.map (gv ad)).reverse ++ (v.map (gv ad) ++ rest.map (gv ad)) := by
  rw [List.map_append, List.map_reverse, List.map_append]
/-- a method of an object is called: int -/
theorem w_callV {ty : FieldType} {role b1 w1 ci : Nat} {fs : List fR} {q : vw_C} (hc : WP cls l G cy ad y' b' n' (some ty) d 0 (las 0 (vR (role, b1, w1) :: as)) [] M Q') (hy : KV y' b' n' (some ty) k) (hp : plainName y'.cls = true) (hn : (lg_sl ((vR (role, b1, w1) :: as).map (gv ad))).length ≤ n') (hl : Cond.methodLink y.cls idx y' ∈ BASE) (hO : OB role = some (ci, fs)) (hcl : classes[ci]? = some q) (hq : q.1 = y'.cls) (hm : (role, b1, w1) ∈ cls) (hk : as.length = k) (hst : st = as.reverse ++ ([vR (role, b1, w1)] ++ rest)) (hb8 : n' ≤ 80) (hr4 : rest.length ≤ 4) (hd : decode b pc = .ok (.invokevirtual idx, 3))
    (kk : ∀ (v : Int32) (M' : mM), Q' v M' → WP cls l G cy ad y b n r (d + 1) (pc + 3) ls (vI v :: rest) M' Q) : WP cls l G cy ad y b n r (d + 1) pc ls st M Q := by
  intro p e s m args below meth c A X lsA H locs hl2 hP hS
  have hX := X
  obtain ⟨hx, hb, hr, hml, hts, hown, hlk, hE, hT, hA⟩ := X
  subst hst
  rw [args_st]
  have hM := toMet hc hp hn H.size
  have hF := WO_free hP hS hA
  obtain ⟨q0, -, hq0⟩ := WS_mem (cy := cy) (ad := ad) (M := M) hm
  have he : (WS cls cy ad M)[q0]? = some (ad (role, b1, w1), .inr (ci, fvs ad M (role, b1, w1) fs 0)) := by
    rw [hq0]; unfold ent; dsimp only; rw [hO]
  have hcat := catsum ad rest
  refine va_calli (va_runV (rest := rest.map (gv ad)) ⟨hx, hb, hml, hown, hts⟩ hM (cwV k hts (gV hy hl) rfl rfl rfl ⟨rfl, hy.2.2.2.2⟩ ⟨Nat.le_refl _, by show 8 + (n' + 11) + 100 * d ≤ 100 * (d + 1); omega⟩) ⟨PG_blind, recv0 hE hP.1 q0 he hcl hq, PG_of hS hT hP.1 hP.2 hE⟩ rfl (by rw [List.length_map]; exact hk) hl2.1 rfl (lv_room (by omega)) hd ⟨Nat.le_refl _, Nat.le_refl _⟩) hS (fun q _ h => hF q h) hF (fun v u t H1 locs1 ht hvm hpo hB hz hkp hS1 => ?_)
  subst ht
  exact kk v u hpo p e s m args below meth c A hX lsA _ locs1 hl2 (WO_up hB hF) hS1
/-- .. void -/
theorem w_callVv {role b1 w1 ci : Nat} {fs : List fR} {q : vw_C} (hc : WP cls l G cy ad y' b' n' none d 0 (las 0 (vR (role, b1, w1) :: as)) [] M Q') (hy : KV y' b' n' none k) (hp : plainName y'.cls = true) (hn : (lg_sl ((vR (role, b1, w1) :: as).map (gv ad))).length ≤ n') (hl : Cond.methodLink y.cls idx y' ∈ BASE) (hO : OB role = some (ci, fs)) (hcl : classes[ci]? = some q) (hq : q.1 = y'.cls) (hm : (role, b1, w1) ∈ cls) (hk : as.length = k) (hst : st = as.reverse ++ ([vR (role, b1, w1)] ++ rest)) (hb8 : n' ≤ 80) (hr4 : rest.length ≤ 4) (hd : decode b pc = .ok (.invokevirtual idx, 3))
    (kk : ∀ (M' : mM), Q' 0 M' → WP cls l G cy ad y b n r (d + 1) (pc + 3) ls rest M' Q) : WP cls l G cy ad y b n r (d + 1) pc ls st M Q := by
  intro p e s m args below meth c A X lsA H locs hl2 hP hS
  have hX := X
  obtain ⟨hx, hb, hr, hml, hts, hown, hlk, hE, hT, hA⟩ := X
  subst hst
  rw [args_st]
  have hM := toMet hc hp hn H.size
  have hF := WO_free hP hS hA
  obtain ⟨q0, -, hq0⟩ := WS_mem (cy := cy) (ad := ad) (M := M) hm
  have he : (WS cls cy ad M)[q0]? = some (ad (role, b1, w1), .inr (ci, fvs ad M (role, b1, w1) fs 0)) := by
    rw [hq0]; unfold ent; dsimp only; rw [hO]
  have hcat := catsum ad rest
  refine va_callv (va_runV (rest := rest.map (gv ad)) ⟨hx, hb, hml, hown, hts⟩ hM (cwV k hts (gV hy hl) rfl rfl rfl ⟨rfl, hy.2.2.2.2⟩ ⟨Nat.le_refl _, by show 8 + (n' + 11) + 100 * d ≤ 100 * (d + 1); omega⟩) ⟨PG_blind, recv0 hE hP.1 q0 he hcl hq, PG_of hS hT hP.1 hP.2 hE⟩ rfl (by rw [List.length_map]; exact hk) hl2.1 rfl (lv_room (by omega)) hd ⟨Nat.le_refl _, Nat.le_refl _⟩) hS (fun q _ h => hF q h) hF (fun u t H1 locs1 ht hvm hpo hB hz hkp hS1 => ?_)
  subst ht
  exact kk u hpo p e s m args below meth c A hX lsA _ locs1 hl2 (WO_up hB hF) hS1
/-- a static method is called: int -/
theorem w_callS {ty : FieldType} (hc : WP cls l G cy ad y' b' n' (some ty) d 0 (las 0 as) [] M Q') (hy : KS y' b' n' (some ty) k) (hp : plainName y'.cls = true) (hn : (lg_sl (as.map (gv ad))).length ≤ n') (hl : Cond.methodLink y.cls idx y' ∈ BASE) (hk : as.length = k) (hst : st = as.reverse ++ ([] ++ rest)) (hb8 : n' ≤ 80) (hr4 : rest.length ≤ 4) (hd : decode b pc = .ok (.invokestatic idx, 3))
    (kk : ∀ (v : Int32) (M' : mM), Q' v M' → WP cls l G cy ad y b n r (d + 1) (pc + 3) ls (vI v :: rest) M' Q) : WP cls l G cy ad y b n r (d + 1) pc ls st M Q := by
  intro p e s m args below meth c A X lsA H locs hl2 hP hS
  have hX := X
  obtain ⟨hx, hb, hr, hml, hts, hown, hlk, hE, hT, hA⟩ := X
  subst hst
  rw [args_st]
  have hM := toMet hc hp hn H.size
  have hF := WO_free hP hS hA
  have hcat := catsum ad rest
  refine va_calli (va_runS (rest := rest.map (gv ad)) ⟨hx, hb, hml, hown, hts⟩ hM (va_cwS k hts (gS hy hl) rfl rfl rfl hy.2.2.2 ⟨Nat.le_refl _, by show 8 + (n' + 11) + 100 * d ≤ 100 * (d + 1); omega⟩) ⟨PG_blind, PG_of hS hT hP.1 hP.2 hE⟩ rfl (by rw [List.length_map]; exact hk) hl2.1 rfl (lv_room (by omega)) hd ⟨Nat.le_refl _, Nat.le_refl _⟩) hS (fun q _ h => hF q h) hF (fun v u t H1 locs1 ht hvm hpo hB hz hkp hS1 => ?_)
  subst ht
  exact kk v u hpo p e s m args below meth c A hX lsA _ locs1 hl2 (WO_up hB hF) hS1
/-- .. void -/
theorem w_callSv (hc : WP cls l G cy ad y' b' n' none d 0 (las 0 as) [] M Q') (hy : KS y' b' n' none k) (hp : plainName y'.cls = true) (hn : (lg_sl (as.map (gv ad))).length ≤ n') (hl : Cond.methodLink y.cls idx y' ∈ BASE) (hk : as.length = k) (hst : st = as.reverse ++ ([] ++ rest)) (hb8 : n' ≤ 80) (hr4 : rest.length ≤ 4) (hd : decode b pc = .ok (.invokestatic idx, 3))
    (kk : ∀ (M' : mM), Q' 0 M' → WP cls l G cy ad y b n r (d + 1) (pc + 3) ls rest M' Q) : WP cls l G cy ad y b n r (d + 1) pc ls st M Q := by
  intro p e s m args below meth c A X lsA H locs hl2 hP hS
  have hX := X
  obtain ⟨hx, hb, hr, hml, hts, hown, hlk, hE, hT, hA⟩ := X
  subst hst
  rw [args_st]
  have hM := toMet hc hp hn H.size
  have hF := WO_free hP hS hA
  have hcat := catsum ad rest
  refine va_callv (va_runS (rest := rest.map (gv ad)) ⟨hx, hb, hml, hown, hts⟩ hM (va_cwS k hts (gS hy hl) rfl rfl rfl hy.2.2.2 ⟨Nat.le_refl _, by show 8 + (n' + 11) + 100 * d ≤ 100 * (d + 1); omega⟩) ⟨PG_blind, PG_of hS hT hP.1 hP.2 hE⟩ rfl (by rw [List.length_map]; exact hk) hl2.1 rfl (lv_room (by omega)) hd ⟨Nat.le_refl _, Nat.le_refl _⟩) hS (fun q _ h => hF q h) hF (fun u t H1 locs1 ht hvm hpo hB hz hkp hS1 => ?_)
  subst ht
  exact kk u hpo p e s m args below meth c A hX lsA _ locs1 hl2 (WO_up hB hF) hS1
/-- a nest mate's private static method is called: int -/
theorem w_callSN {ty : FieldType} {host : String} (hc : WP cls l G cy ad y' b' n' (some ty) d 0 (las 0 as) [] M Q') (hy : KS y' b' n' (some ty) k) (hp : plainName y'.cls = true) (hn : (lg_sl (as.map (gv ad))).length ≤ n') (hl : (y.cls, idx, y', host) ∈ NMs) (hk : as.length = k) (hst : st = as.reverse ++ ([] ++ rest)) (hb8 : n' ≤ 80) (hr4 : rest.length ≤ 4) (hd : decode b pc = .ok (.invokestatic idx, 3))
    (kk : ∀ (v : Int32) (M' : mM), Q' v M' → WP cls l G cy ad y b n r (d + 1) (pc + 3) ls (vI v :: rest) M' Q) : WP cls l G cy ad y b n r (d + 1) pc ls st M Q := by
  intro p e s m args below meth c A X lsA H locs hl2 hP hS
  have hX := X
  obtain ⟨hx, hb, hr, hml, hts, hown, hlk, hE, hT, hA⟩ := X
  subst hst
  rw [args_st]
  have hM := toMet hc hp hn H.size
  have hF := WO_free hP hS hA
  have hcat := catsum ad rest
  refine va_calli (va_runSN (rest := rest.map (gv ad)) ⟨hx, hb, hml, hown, hts⟩ hM ⟨va_cnB k hts (b_in (wsO_in hy.2.2.1)) rfl rfl rfl (hE.2.2.1 _ hl) (hts _ hy.2.1) hy.2.2.2 ⟨Nat.le_refl _, by show 8 + (n' + 11) + 100 * d ≤ 100 * (d + 1); omega⟩, hts _ hy.1, trivial⟩ ⟨PG_blind, PG_of hS hT hP.1 hP.2 hE⟩ rfl (by rw [List.length_map]; exact hk) hl2.1 rfl (lv_room (by omega)) hd ⟨Nat.le_refl _, Nat.le_refl _⟩) hS (fun q _ h => hF q h) hF (fun v u t H1 locs1 ht hvm hpo hB hz hkp hS1 => ?_)
  subst ht
  exact kk v u hpo p e s m args below meth c A hX lsA _ locs1 hl2 (WO_up hB hF) hS1
end WPCALLS
end
section
/-! rows with names, frames, the class's invariant -/
section WPROWS2
variable {cls : List rf} {l : Launch} {G : va_G} {cy : Nat → ClassId} {ad : rf → Nat} {y : MethodName} {b : ByteArray} {n : Nat} {r : Option FieldType} {d : Nat} {pc : Nat} {ls : List (Nat × mV)} {st : List mV} {M : mM} {Q : Int32 → mM → Prop}
theorem w_getI {idx ci k role b' w : Nat} {ty : FieldType} {fin : Bool} {fs : List fR} (hF : FLK y.cls idx ci k ty fin) (hO : OB role = some (ci, fs)) (hf : fs[k]? = some oI) (hc : (role, b', w) ∈ cls) (hd : decode b pc = .ok (.getfield idx, 3)) (kk : ∀ z : Int32, z = M.1 (role, b', w) k → WP cls l G cy ad y b n r d (pc + 3) ls (vI z :: st) M Q) : WP cls l G cy ad y b n r d pc ls (vR (role, b', w) :: st) M Q := w_get (own := y.cls) hF hO hf hc hd rfl (kk _ rfl)
theorem w_getR {idx ci k role b' w : Nat} {ty : FieldType} {fin : Bool} {fs : List fR} {f : fR} {c' : rf} (hF : FLK y.cls idx ci k ty fin) (hO : OB role = some (ci, fs)) (hf : fs[k]? = some f) (hc : (role, b', w) ∈ cls) (hd : decode b pc = .ok (.getfield idx, 3)) (hv : f b' w (M.1 (role, b', w) k) = vR c') (kk : WP cls l G cy ad y b n r d (pc + 3) ls (vR c' :: st) M Q) : WP cls l G cy ad y b n r d pc ls (vR (role, b', w) :: st) M Q := w_get (own := y.cls) hF hO hf hc hd hv kk
theorem w_putI {idx ci k role b' w : Nat} {fs : List fR} {x : Int32} (hnd : cls.Nodup) (hF : FLK y.cls idx ci k .int false) (hO : OB role = some (ci, fs)) (hf : fs[k]? = some oI) (hc : (role, b', w) ∈ cls) (hd : decode b pc = .ok (.putfield idx, 3)) (kk : ∀ M', M' = up M (role, b', w) k x → WP cls l G cy ad y b n r d (pc + 3) ls st M' Q) : WP cls l G cy ad y b n r d pc ls (vI x :: vR (role, b', w) :: st) M Q := w_put hnd hF hO hf hc hd rfl rfl rfl kk
theorem w_putZ {idx ci k role b' w : Nat} {fs : List fR} {x : Int32} (hnd : cls.Nodup) (hF : FLK y.cls idx ci k .boolean false) (hO : OB role = some (ci, fs)) (hf : fs[k]? = some oI) (hc : (role, b', w) ∈ cls) (hz : 0 ≤ x.toInt ∧ x.toInt ≤ 1) (hd : decode b pc = .ok (.putfield idx, 3)) (kk : ∀ M', M' = up M (role, b', w) k x → WP cls l G cy ad y b n r d (pc + 3) ls st M' Q) : WP cls l G cy ad y b n r d pc ls (vI x :: vR (role, b', w) :: st) M Q := w_put hnd hF hO hf hc hd rfl (nzB hz).1 (nzB hz).2 kk
theorem w_putD {idx ci k role b' w : Nat} {ty : FieldType} {fs : List fR} {t : List rf} (x : Int32) {c' : rf} (hnd : cls.Nodup) (hF : FLK y.cls idx ci k ty false) (hO : OB role = some (ci, fs)) (hf : fs[k]? = some (oD t)) (hc : (role, b', w) ∈ cls) (hx : oD t b' w x = vR c') (hn : narrow ty (.ref (ad c')) = .ref (ad c')) (hfit : fits ty (.ref (ad c')) = true) (hd : decode b pc = .ok (.putfield idx, 3)) (kk : ∀ M', M' = up M (role, b', w) k x → WP cls l G cy ad y b n r d (pc + 3) ls st M' Q) : WP cls l G cy ad y b n r d pc ls (vR c' :: vR (role, b', w) :: st) M Q := w_put hnd hF hO hf hc hd hx hn hfit kk
theorem w_ialdL {role b' w : Nat} {nf : Nat → Nat} {x : Int32} (j : Nat) (hO : OB role = none) (hR : AR role = some (0, nf)) (hc : (role, b', w) ∈ cls) (hx : x.toInt = (j : Int)) (h : j < nf w) (hd : decode b pc = .ok (.iaload, 1)) (kk : ∀ z : Int32, z = M.1 (role, b', w) j → WP cls l G cy ad y b n r d (pc + 1) ls (vI z :: st) M Q) : WP cls l G cy ad y b n r d pc ls (vI x :: vR (role, b', w) :: st) M Q := w_iald hO hR hc hx ⟨Int.natCast_nonneg j, Int.ofNat_lt.mpr h⟩ hd (fun j' hj z hz => kk z (by rw [hz, Int.ofNat_inj.mp hj]))
theorem w_iastL {role b' w : Nat} {nf : Nat → Nat} {x v : Int32} (j : Nat) (hnd : cls.Nodup) (hO : OB role = none) (hR : AR role = some (0, nf)) (hc : (role, b', w) ∈ cls) (hx : x.toInt = (j : Int)) (h : j < nf w) (hd : decode b pc = .ok (.iastore, 1)) (kk : ∀ M', M' = up M (role, b', w) j v → WP cls l G cy ad y b n r d (pc + 1) ls st M' Q) : WP cls l G cy ad y b n r d pc ls (vI v :: vI x :: vR (role, b', w) :: st) M Q := w_iast hnd hO hR hc hx ⟨Int.natCast_nonneg j, Int.ofNat_lt.mpr h⟩ hd (fun j' hj M' hM => kk M' (by rw [hM, Int.ofNat_inj.mp hj]))
theorem w_aaldL {role b' w t : Nat} {nn : Nat} {C : String} {g : Nat → Nat → rf} {x : Int32} (j : Nat) (hO : OB role = none) (hR : AR role = none) (hQ : RA role = some (t, nn, g)) (ht : ∀ cy : Nat → ClassId, (TYS cy)[t]? = some (cy t, .object C)) (hc : (role, b', w) ∈ cls) (hx : x.toInt = (j : Int)) (h : j < nn) (hd : decode b pc = .ok (.aaload, 1)) (kk : WP cls l G cy ad y b n r d (pc + 1) ls (vR (g b' j) :: st) M Q) : WP cls l G cy ad y b n r d pc ls (vI x :: vR (role, b', w) :: st) M Q := w_aald hO hR hQ ht hc hx ⟨Int.natCast_nonneg j, Int.ofNat_lt.mpr h⟩ hd (fun j' hj _ => Int.ofNat_inj.mp hj ▸ kk)
theorem w_iincX {i j : Nat} {k : Int} {x : Int32} {f : Int32 → List (Nat × mV)} (hd : decode b pc = .ok (.iinc i k, 3)) (hj : ls[j]? = some (i, vI x)) (hn : i < n) (hs : ∀ z, lset ls i (vI z) = f z) (kk : ∀ z : Int32, z = x + Int32.ofInt k → WP cls l G cy ad y b n r d (pc + 3) (f z) st M Q) : WP cls l G cy ad y b n r d pc ls st M Q := w_iincE hd hj rfl hn (hs _) (kk _ rfl)
theorem w_loc {ls' : List (Nat × mV)} (ks : List Nat) (hl : ks.filterMap (fun k => ls[k]?) = ls') (kk : WP cls l G cy ad y b n r d pc ls' st M Q) : WP cls l G cy ad y b n r d pc ls st M Q := by
  intro p e s m args below meth c A X lsA H locs hl2 hP hS
  refine kk p e s m args below meth c A X lsA H locs (lv_sub hl2 ks ?_) hP hS
  subst hl
  unfold lv_pick gl
  rw [List.map_filterMap]
  congr 1
  funext k
  rw [List.getElem?_map]
theorem QC_mono {A : Nat → Prop} {Q' : Int32 → mM → Prop} (hq : ∀ v M', Q' v M' → Q v M') {a : Array Value} {s t : State} {o : Outcome} (h : QC cls G cy ad r A Q' a s o t) : QC cls G cy ad r A Q a s o t := by
  cases r with
  | none =>
    obtain ⟨⟨u, a1, a2, a3⟩, a4⟩ := h
    exact ⟨⟨u, a1, hq _ _ a2, a3⟩, a4⟩
  | some ty =>
    obtain ⟨⟨v, u, a1, a2, a3⟩, a4⟩ := h
    exact ⟨⟨v, u, a1, hq _ _ a2, a3⟩, a4⟩
theorem w_Q {Q' : Int32 → mM → Prop} (h : WP cls l G cy ad y b n r d pc ls st M Q') (hq : ∀ v M', Q' v M' → Q v M') : WP cls l G cy ad y b n r d pc ls st M Q := by
  intro p e s m args below meth c A X lsA H locs hl hP hS T hT hX
  obtain ⟨t, h1, o, g1, g2, g3, g4⟩ := h p e s m args below meth c A X lsA H locs hl hP hS T hT hX
  exact ⟨t, h1, o, g1, g2, QC_mono hq g3, g4⟩
theorem rl_le (w : Nat) : rl w ≤ 48 := by
  unfold rl
  rcases w with _ | _ | _ | _ | _ | _ | _ | w <;> first | decide | exact Nat.zero_le _
theorem w_rl {w : Nat} (kk : ∀ z : Int32, z.toInt = ((rl w : Nat) : Int) ∧ rl w ≤ 48 → WP cls l G cy ad y b n r d pc ls (vI z :: st) M Q) : WP cls l G cy ad y b n r d pc ls (vI (Int32.ofNat (rl w)) :: st) M Q := kk _ ⟨nI_toInt (Nat.lt_of_le_of_lt (rl_le w) (by decide)), rl_le w⟩
end WPROWS2
/-! what a loop reaches -/
def RTC {α : Type} (S : α → α → Prop) (a : α) : Nat → α → Prop
  | 0, z => a = z
  | n + 1, z => ∃ x : α, RTC S a n x ∧ S x z
def RCH {α : Type} (S : α → α → Prop) (a z : α) : Prop := ∃ n : Nat, RTC S a n z
theorem RCH.refl {α : Type} {S : α → α → Prop} {a : α} : RCH S a a := ⟨0, rfl⟩
theorem RCH.tail {α : Type} {S : α → α → Prop} {a x z : α} (h : RCH S a x) (hs : S x z) : RCH S a z := h.elim (fun n hn => ⟨n + 1, x, hn, hs⟩)
theorem RCH.ind {α : Type} {S : α → α → Prop} {a : α} {P : α → Prop} (h0 : P a) (hs : ∀ x z, P x → S x z → P z) : ∀ {z : α}, RCH S a z → P z := fun {z} h => by
  obtain ⟨n, hn⟩ := h
  induction n generalizing z with
  | zero => exact hn ▸ h0
  | succ n ih =>
    obtain ⟨x, h1, h2⟩ := hn
    exact hs x z (ih h1) h2
def iushrX (x w : Int32) : Int32 := (x.toUInt32 >>> (w.toUInt32 &&& Int32.toUInt32 31)).toInt32
theorem ofEq {P : Int32 → Prop} {z x : Int32} (h : z = x) (p : P x) : P z := h ▸ p
def FR (S : rf → Nat → Prop) (M M' : mM) : Prop := ∀ c k, ¬ S c k → M'.1 c k = M.1 c k
theorem FR.self {S : rf → Nat → Prop} {M : mM} : FR S M M := fun _ _ _ => rfl
theorem FR.put {S : rf → Nat → Prop} {M M1 M2 : mM} {c : rf} {k : Nat} {v : Int32} (h : FR S M M1) (he : M2 = up M1 c k v) (hs : S c k) : FR S M M2 := fun c' k' hn => by
  subst he
  rw [up_ne (fun q => hn (by rw [q.1, q.2]; exact hs))]
  exact h c' k' hn
theorem FR.putL {S : rf → Nat → Prop} {M M1 M2 : mM} {k : Nat} {v : Int64} (h : FR S M M1) (he : M2 = upL M1 k v) : FR S M M2 := fun c' k' hn => by
  subst he
  exact h c' k' hn
theorem FR.cpy {S : rf → Nat → Prop} {M M1 M2 : mM} {c0 c1 : rf} {a b n : Nat} (h : FR S M M1) (he : M2 = cp M1 c0 c1 a b n) (hs : ∀ k, S c1 k) : FR S M M2 := fun c' k' hn => by
  subst he
  rw [cp_other a b n (show c' ≠ c1 from fun q => hn (by rw [q]; exact hs k'))]
  exact h c' k' hn
theorem FR.tr {S S' : rf → Nat → Prop} {M M1 M2 : mM} (h : FR S M M1) (h2 : FR S' M1 M2) (hs : ∀ c k, S' c k → S c k) : FR S M M2 := fun c k hn => (h2 c k (fun q => hn (hs c k q))).trans (h c k hn)
def zB (v : Int32) : Prop := 0 ≤ v.toInt ∧ v.toInt ≤ 1
/-- the class's invariant, field by field -/
def IN (r k : Nat) (v : Int32) : Prop := match r with
  | 6 => k = 1 → 0 ≤ v.toInt ∧ v.toInt ≤ 24
  | 9 => k = 6 → 0 ≤ v.toInt ∧ v.toInt ≤ 1
  | 3 => k = 8 → 0 ≤ v.toInt ∧ v.toInt ≤ 1
  | 8 => k = 5 → 0 ≤ v.toInt ∧ v.toInt ≤ 1
  | _ => True
def Inv (M : mM) : Prop := ∀ (c : rf) (k : Nat), IN c.1 k (M.1 c k)
theorem Inv.put {M M' : mM} {c : rf} {k : Nat} {v : Int32} (h : Inv M) (he : M' = up M c k v) (hv : IN c.1 k v) : Inv M' := by
  subst he
  intro c' k'
  by_cases e : c' = c ∧ k' = k
  · rw [e.1, e.2, up_same]; exact hv
  · rw [up_ne e]; exact h c' k'
theorem Inv.putL {M M' : mM} {k : Nat} {v : Int64} (h : Inv M) (he : M' = upL M k v) : Inv M' := by
  subst he
  exact h
theorem Inv.cpy {M M' : mM} {c0 c1 : rf} {a b n : Nat} (h : Inv M) (he : M' = cp M c0 c1 a b n) (hv : ∀ k v, IN c1.1 k v) : Inv M' := by
  subst he
  intro c' k'
  by_cases e : c' = c1
  · subst e; exact hv _ _
  · rw [cp_other _ _ _ e]; exact h c' k'
end
section
/-! words of the tables that are used, by their places; decode rows; fields -/
theorem li_m1 : ((-1) : Int32).toInt = -1 := by decide
theorem li_0 : (0 : Int32).toInt = 0 := by decide
theorem li_1 : (1 : Int32).toInt = 1 := by decide
theorem li_3 : (3 : Int32).toInt = 3 := by decide
theorem li_4 : (4 : Int32).toInt = 4 := by decide
theorem li_7 : (7 : Int32).toInt = 7 := by decide
theorem li_8 : (8 : Int32).toInt = 8 := by decide
theorem li_12 : (12 : Int32).toInt = 12 := by decide
theorem li_16 : (16 : Int32).toInt = 16 := by decide
theorem li_31 : (31 : Int32).toInt = 31 := by decide
theorem li_192 : (192 : Int32).toInt = 192 := by decide
set_option maxRecDepth 20000 in
theorem m_79 : Cond.initialized RX11 ∈ BASE := bmT1 1 rfl rfl
set_option maxRecDepth 20000 in
theorem m_81 : Cond.initialized RX7 ∈ BASE := bmT1 3 rfl rfl
set_option maxRecDepth 20000 in
theorem m_494 : Cond.methodLink RX11 89 yX11_within ∈ BASE := bmT2 176 rfl rfl
set_option maxRecDepth 20000 in
theorem m_495 : Cond.static yX11_within ∈ BASE := bmT2 177 rfl rfl
set_option maxRecDepth 20000 in
theorem m_496 : Cond.code yX11_within cX11_within 3 (some .boolean) ∈ BASE := bmT2 178 rfl rfl
set_option maxRecDepth 20000 in
theorem m_498 : Cond.static yX7_isCell ∈ BASE := bmT2 180 rfl rfl
set_option maxRecDepth 20000 in
theorem m_499 : Cond.code yX7_isCell cX7_isCell 1 (some .boolean) ∈ BASE := bmT2 181 rfl rfl
set_option maxRecDepth 20000 in
theorem m_509 : Cond.methodLink RX7 29 yX7_isCell ∈ BASE := bmT2 191 rfl rfl
set_option maxRecDepth 20000 in
theorem m_540 : Cond.static yX7_isSide ∈ BASE := bmT2 222 rfl rfl
set_option maxRecDepth 20000 in
theorem m_541 : Cond.code yX7_isSide cX7_isSide 1 (some .boolean) ∈ BASE := bmT2 223 rfl rfl
set_option maxRecDepth 20000 in
theorem m_646 : Cond.fieldLink RX9 47 "ClickStreet$Walker" "ABOVE" "[I" ∈ BASE := bmT3 88 rfl rfl
set_option maxRecDepth 20000 in
theorem m_852 : Cond.methodLink RX7 33 yX7_isSide ∈ BASE := bmT4 54 rfl rfl
set_option maxRecDepth 20000 in
theorem m_853 : Cond.fieldLink RX7 36 "ClickStreet$Street" "EAST" "[I" ∈ BASE := bmT4 55 rfl rfl
set_option maxRecDepth 20000 in
theorem m_855 : Cond.fieldLink RX7 39 "ClickStreet$Street" "SOUTH" "[I" ∈ BASE := bmT4 57 rfl rfl
theorem kS_X11_within : KS yX11_within cX11_within 3 (some .boolean) 3 := ⟨m_495, m_79, m_496, nhM_0, nhV_0, pdn_0⟩
theorem kS_X7_isCell : KS yX7_isCell cX7_isCell 1 (some .boolean) 1 := ⟨m_498, m_81, m_499, nhM_1, nhV_1, pdn_1⟩
theorem kS_X7_isSide : KS yX7_isSide cX7_isSide 1 (some .boolean) 1 := ⟨m_540, m_81, m_541, nhM_1, nhV_1, pdn_1⟩
theorem dX11_isBits_0 : decode cX11_isBits 0 = .ok (.iload_n 0, 1) := by decide +kernel
theorem dX11_isBits_1 : decode cX11_isBits 1 = .ok (.iconst 0, 1) := by decide +kernel
theorem dX11_isBits_2 : decode cX11_isBits 2 = .ok (.bipush 31, 2) := by decide +kernel
theorem dX11_isBits_4 : decode cX11_isBits 4 = .ok (.invokestatic 89, 3) := by decide +kernel
theorem dX11_isBits_7 : decode cX11_isBits 7 = .ok (.ireturn, 1) := by decide +kernel
theorem dX11_isSheet_0 : decode cX11_isSheet 0 = .ok (.iload_n 0, 1) := by decide +kernel
theorem dX11_isSheet_1 : decode cX11_isSheet 1 = .ok (.iconst 0, 1) := by decide +kernel
theorem dX11_isSheet_2 : decode cX11_isSheet 2 = .ok (.iconst 3, 1) := by decide +kernel
theorem dX11_isSheet_3 : decode cX11_isSheet 3 = .ok (.invokestatic 89, 3) := by decide +kernel
theorem dX11_isSheet_6 : decode cX11_isSheet 6 = .ok (.ireturn, 1) := by decide +kernel
theorem dX11_isThingKind_0 : decode cX11_isThingKind 0 = .ok (.iload_n 0, 1) := by decide +kernel
theorem dX11_isThingKind_1 : decode cX11_isThingKind 1 = .ok (.iconst 0, 1) := by decide +kernel
theorem dX11_isThingKind_2 : decode cX11_isThingKind 2 = .ok (.iconst 4, 1) := by decide +kernel
theorem dX11_isThingKind_3 : decode cX11_isThingKind 3 = .ok (.invokestatic 89, 3) := by decide +kernel
theorem dX11_isThingKind_6 : decode cX11_isThingKind 6 = .ok (.ireturn, 1) := by decide +kernel
theorem dX11_isWalkerKind_0 : decode cX11_isWalkerKind 0 = .ok (.iload_n 0, 1) := by decide +kernel
theorem dX11_isWalkerKind_1 : decode cX11_isWalkerKind 1 = .ok (.iconst 0, 1) := by decide +kernel
theorem dX11_isWalkerKind_2 : decode cX11_isWalkerKind 2 = .ok (.bipush 7, 2) := by decide +kernel
theorem dX11_isWalkerKind_4 : decode cX11_isWalkerKind 4 = .ok (.invokestatic 89, 3) := by decide +kernel
theorem dX11_isWalkerKind_7 : decode cX11_isWalkerKind 7 = .ok (.ireturn, 1) := by decide +kernel
theorem dX11_within_0 : decode cX11_within 0 = .ok (.iload_n 0, 1) := by decide +kernel
theorem dX11_within_1 : decode cX11_within 1 = .ok (.iload_n 1, 1) := by decide +kernel
theorem dX11_within_2 : decode cX11_within 2 = .ok (.if_icmp .lt 12, 3) := by decide +kernel
theorem dX11_within_5 : decode cX11_within 5 = .ok (.iload_n 0, 1) := by decide +kernel
theorem dX11_within_6 : decode cX11_within 6 = .ok (.iload_n 2, 1) := by decide +kernel
theorem dX11_within_7 : decode cX11_within 7 = .ok (.if_icmp .gt 7, 3) := by decide +kernel
theorem dX11_within_10 : decode cX11_within 10 = .ok (.iconst 1, 1) := by decide +kernel
theorem dX11_within_11 : decode cX11_within 11 = .ok (.goto 4, 3) := by decide +kernel
theorem dX11_within_14 : decode cX11_within 14 = .ok (.iconst 0, 1) := by decide +kernel
theorem dX11_within_15 : decode cX11_within 15 = .ok (.ireturn, 1) := by decide +kernel
theorem ch_cX7_cellFrom_0 : (cX7_cellFrom.data.toList.drop 0).take 36 = [26, 184, 0, 29, 153, 0, 20, 27, 184, 0, 33, 153, 0, 13, 28, 155, 0, 9, 28, 16, 16, 164, 0, 5, 2, 172, 26, 16, 16, 112, 28, 178, 0, 36, 27, 46] := by decide +kernel
theorem dX7_cellFrom_0 : decode cX7_cellFrom 0 = .ok (.iload_n 0, 1) := do_26 (rdb (p := 0) (i := 0) ch_cX7_cellFrom_0 rfl)
theorem dX7_cellFrom_1 : decode cX7_cellFrom 1 = .ok (.invokestatic 29, 3) := do_184 (rdb (p := 0) (i := 1) ch_cX7_cellFrom_0 rfl) (rdb (p := 0) (i := 2) ch_cX7_cellFrom_0 rfl) (rdb (p := 0) (i := 3) ch_cX7_cellFrom_0 rfl) rfl
theorem dX7_cellFrom_4 : decode cX7_cellFrom 4 = .ok (.ifCond .eq 20, 3) := do_153 (rdb (p := 0) (i := 4) ch_cX7_cellFrom_0 rfl) (rdb (p := 0) (i := 5) ch_cX7_cellFrom_0 rfl) (rdb (p := 0) (i := 6) ch_cX7_cellFrom_0 rfl) (by decide +kernel)
theorem dX7_cellFrom_7 : decode cX7_cellFrom 7 = .ok (.iload_n 1, 1) := do_27 (rdb (p := 0) (i := 7) ch_cX7_cellFrom_0 rfl)
theorem dX7_cellFrom_8 : decode cX7_cellFrom 8 = .ok (.invokestatic 33, 3) := do_184 (rdb (p := 0) (i := 8) ch_cX7_cellFrom_0 rfl) (rdb (p := 0) (i := 9) ch_cX7_cellFrom_0 rfl) (rdb (p := 0) (i := 10) ch_cX7_cellFrom_0 rfl) rfl
theorem dX7_cellFrom_11 : decode cX7_cellFrom 11 = .ok (.ifCond .eq 13, 3) := do_153 (rdb (p := 0) (i := 11) ch_cX7_cellFrom_0 rfl) (rdb (p := 0) (i := 12) ch_cX7_cellFrom_0 rfl) (rdb (p := 0) (i := 13) ch_cX7_cellFrom_0 rfl) (by decide +kernel)
theorem dX7_cellFrom_14 : decode cX7_cellFrom 14 = .ok (.iload_n 2, 1) := do_28 (rdb (p := 0) (i := 14) ch_cX7_cellFrom_0 rfl)
theorem dX7_cellFrom_15 : decode cX7_cellFrom 15 = .ok (.ifCond .lt 9, 3) := do_155 (rdb (p := 0) (i := 15) ch_cX7_cellFrom_0 rfl) (rdb (p := 0) (i := 16) ch_cX7_cellFrom_0 rfl) (rdb (p := 0) (i := 17) ch_cX7_cellFrom_0 rfl) (by decide +kernel)
theorem dX7_cellFrom_18 : decode cX7_cellFrom 18 = .ok (.iload_n 2, 1) := do_28 (rdb (p := 0) (i := 18) ch_cX7_cellFrom_0 rfl)
theorem dX7_cellFrom_19 : decode cX7_cellFrom 19 = .ok (.bipush 16, 2) := do_16 (rdb (p := 0) (i := 19) ch_cX7_cellFrom_0 rfl) (rdb (p := 0) (i := 20) ch_cX7_cellFrom_0 rfl) (by decide +kernel)
theorem dX7_cellFrom_21 : decode cX7_cellFrom 21 = .ok (.if_icmp .le 5, 3) := do_164 (rdb (p := 0) (i := 21) ch_cX7_cellFrom_0 rfl) (rdb (p := 0) (i := 22) ch_cX7_cellFrom_0 rfl) (rdb (p := 0) (i := 23) ch_cX7_cellFrom_0 rfl) (by decide +kernel)
theorem dX7_cellFrom_24 : decode cX7_cellFrom 24 = .ok (.iconst (-1), 1) := do_2 (rdb (p := 0) (i := 24) ch_cX7_cellFrom_0 rfl)
theorem dX7_cellFrom_25 : decode cX7_cellFrom 25 = .ok (.ireturn, 1) := do_172 (rdb (p := 0) (i := 25) ch_cX7_cellFrom_0 rfl)
theorem dX7_cellFrom_26 : decode cX7_cellFrom 26 = .ok (.iload_n 0, 1) := do_26 (rdb (p := 0) (i := 26) ch_cX7_cellFrom_0 rfl)
theorem dX7_cellFrom_27 : decode cX7_cellFrom 27 = .ok (.bipush 16, 2) := do_16 (rdb (p := 0) (i := 27) ch_cX7_cellFrom_0 rfl) (rdb (p := 0) (i := 28) ch_cX7_cellFrom_0 rfl) (by decide +kernel)
theorem dX7_cellFrom_29 : decode cX7_cellFrom 29 = .ok (.irem, 1) := do_112 (rdb (p := 0) (i := 29) ch_cX7_cellFrom_0 rfl)
theorem dX7_cellFrom_30 : decode cX7_cellFrom 30 = .ok (.iload_n 2, 1) := do_28 (rdb (p := 0) (i := 30) ch_cX7_cellFrom_0 rfl)
theorem dX7_cellFrom_31 : decode cX7_cellFrom 31 = .ok (.getstatic 36, 3) := do_178 (rdb (p := 0) (i := 31) ch_cX7_cellFrom_0 rfl) (rdb (p := 0) (i := 32) ch_cX7_cellFrom_0 rfl) (rdb (p := 0) (i := 33) ch_cX7_cellFrom_0 rfl) rfl
theorem ch_cX7_cellFrom_32 : (cX7_cellFrom.data.toList.drop 32).take 36 = [0, 36, 27, 46, 104, 96, 62, 26, 16, 16, 108, 28, 178, 0, 39, 27, 46, 104, 96, 54, 4, 29, 155, 0, 21, 29, 16, 16, 162, 0, 15, 21, 4, 155, 0, 10] := by decide +kernel
theorem dX7_cellFrom_34 : decode cX7_cellFrom 34 = .ok (.iload_n 1, 1) := do_27 (rdb (p := 32) (i := 2) ch_cX7_cellFrom_32 rfl)
theorem dX7_cellFrom_35 : decode cX7_cellFrom 35 = .ok (.iaload, 1) := do_46 (rdb (p := 32) (i := 3) ch_cX7_cellFrom_32 rfl)
theorem dX7_cellFrom_36 : decode cX7_cellFrom 36 = .ok (.imul, 1) := do_104 (rdb (p := 32) (i := 4) ch_cX7_cellFrom_32 rfl)
theorem dX7_cellFrom_37 : decode cX7_cellFrom 37 = .ok (.iadd, 1) := do_96 (rdb (p := 32) (i := 5) ch_cX7_cellFrom_32 rfl)
theorem dX7_cellFrom_38 : decode cX7_cellFrom 38 = .ok (.istore_n 3, 1) := do_62 (rdb (p := 32) (i := 6) ch_cX7_cellFrom_32 rfl)
theorem dX7_cellFrom_39 : decode cX7_cellFrom 39 = .ok (.iload_n 0, 1) := do_26 (rdb (p := 32) (i := 7) ch_cX7_cellFrom_32 rfl)
theorem dX7_cellFrom_40 : decode cX7_cellFrom 40 = .ok (.bipush 16, 2) := do_16 (rdb (p := 32) (i := 8) ch_cX7_cellFrom_32 rfl) (rdb (p := 32) (i := 9) ch_cX7_cellFrom_32 rfl) (by decide +kernel)
theorem dX7_cellFrom_42 : decode cX7_cellFrom 42 = .ok (.idiv, 1) := do_108 (rdb (p := 32) (i := 10) ch_cX7_cellFrom_32 rfl)
theorem dX7_cellFrom_43 : decode cX7_cellFrom 43 = .ok (.iload_n 2, 1) := do_28 (rdb (p := 32) (i := 11) ch_cX7_cellFrom_32 rfl)
theorem dX7_cellFrom_44 : decode cX7_cellFrom 44 = .ok (.getstatic 39, 3) := do_178 (rdb (p := 32) (i := 12) ch_cX7_cellFrom_32 rfl) (rdb (p := 32) (i := 13) ch_cX7_cellFrom_32 rfl) (rdb (p := 32) (i := 14) ch_cX7_cellFrom_32 rfl) rfl
theorem dX7_cellFrom_47 : decode cX7_cellFrom 47 = .ok (.iload_n 1, 1) := do_27 (rdb (p := 32) (i := 15) ch_cX7_cellFrom_32 rfl)
theorem dX7_cellFrom_48 : decode cX7_cellFrom 48 = .ok (.iaload, 1) := do_46 (rdb (p := 32) (i := 16) ch_cX7_cellFrom_32 rfl)
theorem dX7_cellFrom_49 : decode cX7_cellFrom 49 = .ok (.imul, 1) := do_104 (rdb (p := 32) (i := 17) ch_cX7_cellFrom_32 rfl)
theorem dX7_cellFrom_50 : decode cX7_cellFrom 50 = .ok (.iadd, 1) := do_96 (rdb (p := 32) (i := 18) ch_cX7_cellFrom_32 rfl)
theorem dX7_cellFrom_51 : decode cX7_cellFrom 51 = .ok (.istore 4, 2) := do_54 (rdb (p := 32) (i := 19) ch_cX7_cellFrom_32 rfl) (rdb (p := 32) (i := 20) ch_cX7_cellFrom_32 rfl)
theorem dX7_cellFrom_53 : decode cX7_cellFrom 53 = .ok (.iload_n 3, 1) := do_29 (rdb (p := 32) (i := 21) ch_cX7_cellFrom_32 rfl)
theorem dX7_cellFrom_54 : decode cX7_cellFrom 54 = .ok (.ifCond .lt 21, 3) := do_155 (rdb (p := 32) (i := 22) ch_cX7_cellFrom_32 rfl) (rdb (p := 32) (i := 23) ch_cX7_cellFrom_32 rfl) (rdb (p := 32) (i := 24) ch_cX7_cellFrom_32 rfl) (by decide +kernel)
theorem dX7_cellFrom_57 : decode cX7_cellFrom 57 = .ok (.iload_n 3, 1) := do_29 (rdb (p := 32) (i := 25) ch_cX7_cellFrom_32 rfl)
theorem dX7_cellFrom_58 : decode cX7_cellFrom 58 = .ok (.bipush 16, 2) := do_16 (rdb (p := 32) (i := 26) ch_cX7_cellFrom_32 rfl) (rdb (p := 32) (i := 27) ch_cX7_cellFrom_32 rfl) (by decide +kernel)
theorem dX7_cellFrom_60 : decode cX7_cellFrom 60 = .ok (.if_icmp .ge 15, 3) := do_162 (rdb (p := 32) (i := 28) ch_cX7_cellFrom_32 rfl) (rdb (p := 32) (i := 29) ch_cX7_cellFrom_32 rfl) (rdb (p := 32) (i := 30) ch_cX7_cellFrom_32 rfl) (by decide +kernel)
theorem dX7_cellFrom_63 : decode cX7_cellFrom 63 = .ok (.iload 4, 2) := do_21 (rdb (p := 32) (i := 31) ch_cX7_cellFrom_32 rfl) (rdb (p := 32) (i := 32) ch_cX7_cellFrom_32 rfl)
theorem ch_cX7_cellFrom_64 : (cX7_cellFrom.data.toList.drop 64).take 36 = [4, 155, 0, 10, 21, 4, 16, 12, 161, 0, 7, 2, 167, 0, 10, 16, 16, 21, 4, 104, 29, 96, 172] := by decide +kernel
theorem dX7_cellFrom_65 : decode cX7_cellFrom 65 = .ok (.ifCond .lt 10, 3) := do_155 (rdb (p := 64) (i := 1) ch_cX7_cellFrom_64 rfl) (rdb (p := 64) (i := 2) ch_cX7_cellFrom_64 rfl) (rdb (p := 64) (i := 3) ch_cX7_cellFrom_64 rfl) (by decide +kernel)
theorem dX7_cellFrom_68 : decode cX7_cellFrom 68 = .ok (.iload 4, 2) := do_21 (rdb (p := 64) (i := 4) ch_cX7_cellFrom_64 rfl) (rdb (p := 64) (i := 5) ch_cX7_cellFrom_64 rfl)
theorem dX7_cellFrom_70 : decode cX7_cellFrom 70 = .ok (.bipush 12, 2) := do_16 (rdb (p := 64) (i := 6) ch_cX7_cellFrom_64 rfl) (rdb (p := 64) (i := 7) ch_cX7_cellFrom_64 rfl) (by decide +kernel)
theorem dX7_cellFrom_72 : decode cX7_cellFrom 72 = .ok (.if_icmp .lt 7, 3) := do_161 (rdb (p := 64) (i := 8) ch_cX7_cellFrom_64 rfl) (rdb (p := 64) (i := 9) ch_cX7_cellFrom_64 rfl) (rdb (p := 64) (i := 10) ch_cX7_cellFrom_64 rfl) (by decide +kernel)
theorem dX7_cellFrom_75 : decode cX7_cellFrom 75 = .ok (.iconst (-1), 1) := do_2 (rdb (p := 64) (i := 11) ch_cX7_cellFrom_64 rfl)
theorem dX7_cellFrom_76 : decode cX7_cellFrom 76 = .ok (.goto 10, 3) := do_167 (rdb (p := 64) (i := 12) ch_cX7_cellFrom_64 rfl) (rdb (p := 64) (i := 13) ch_cX7_cellFrom_64 rfl) (rdb (p := 64) (i := 14) ch_cX7_cellFrom_64 rfl) (by decide +kernel)
theorem dX7_cellFrom_79 : decode cX7_cellFrom 79 = .ok (.bipush 16, 2) := do_16 (rdb (p := 64) (i := 15) ch_cX7_cellFrom_64 rfl) (rdb (p := 64) (i := 16) ch_cX7_cellFrom_64 rfl) (by decide +kernel)
theorem dX7_cellFrom_81 : decode cX7_cellFrom 81 = .ok (.iload 4, 2) := do_21 (rdb (p := 64) (i := 17) ch_cX7_cellFrom_64 rfl) (rdb (p := 64) (i := 18) ch_cX7_cellFrom_64 rfl)
theorem dX7_cellFrom_83 : decode cX7_cellFrom 83 = .ok (.imul, 1) := do_104 (rdb (p := 64) (i := 19) ch_cX7_cellFrom_64 rfl)
theorem dX7_cellFrom_84 : decode cX7_cellFrom 84 = .ok (.iload_n 3, 1) := do_29 (rdb (p := 64) (i := 20) ch_cX7_cellFrom_64 rfl)
theorem dX7_cellFrom_85 : decode cX7_cellFrom 85 = .ok (.iadd, 1) := do_96 (rdb (p := 64) (i := 21) ch_cX7_cellFrom_64 rfl)
theorem dX7_cellFrom_86 : decode cX7_cellFrom 86 = .ok (.ireturn, 1) := do_172 (rdb (p := 64) (i := 22) ch_cX7_cellFrom_64 rfl)
theorem dX7_isCell_0 : decode cX7_isCell 0 = .ok (.iload_n 0, 1) := by decide +kernel
theorem dX7_isCell_1 : decode cX7_isCell 1 = .ok (.ifCond .lt 14, 3) := by decide +kernel
theorem dX7_isCell_4 : decode cX7_isCell 4 = .ok (.iload_n 0, 1) := by decide +kernel
theorem dX7_isCell_5 : decode cX7_isCell 5 = .ok (.sipush 192, 3) := by decide +kernel
theorem dX7_isCell_8 : decode cX7_isCell 8 = .ok (.if_icmp .ge 7, 3) := by decide +kernel
theorem dX7_isCell_11 : decode cX7_isCell 11 = .ok (.iconst 1, 1) := by decide +kernel
theorem dX7_isCell_12 : decode cX7_isCell 12 = .ok (.goto 4, 3) := by decide +kernel
theorem dX7_isCell_15 : decode cX7_isCell 15 = .ok (.iconst 0, 1) := by decide +kernel
theorem dX7_isCell_16 : decode cX7_isCell 16 = .ok (.ireturn, 1) := by decide +kernel
theorem dX7_isSide_0 : decode cX7_isSide 0 = .ok (.iload_n 0, 1) := by decide +kernel
theorem dX7_isSide_1 : decode cX7_isSide 1 = .ok (.ifCond .lt 13, 3) := by decide +kernel
theorem dX7_isSide_4 : decode cX7_isSide 4 = .ok (.iload_n 0, 1) := by decide +kernel
theorem dX7_isSide_5 : decode cX7_isSide 5 = .ok (.bipush 8, 2) := by decide +kernel
theorem dX7_isSide_7 : decode cX7_isSide 7 = .ok (.if_icmp .ge 7, 3) := by decide +kernel
theorem dX7_isSide_10 : decode cX7_isSide 10 = .ok (.iconst 1, 1) := by decide +kernel
theorem dX7_isSide_11 : decode cX7_isSide 11 = .ok (.goto 4, 3) := by decide +kernel
theorem dX7_isSide_14 : decode cX7_isSide 14 = .ok (.iconst 0, 1) := by decide +kernel
theorem dX7_isSide_15 : decode cX7_isSide 15 = .ok (.ireturn, 1) := by decide +kernel
theorem dX9_kindAbove_0 : decode cX9_kindAbove 0 = .ok (.iload_n 0, 1) := by decide +kernel
theorem dX9_kindAbove_1 : decode cX9_kindAbove 1 = .ok (.ifCond .lt 17, 3) := by decide +kernel
theorem dX9_kindAbove_4 : decode cX9_kindAbove 4 = .ok (.iload_n 0, 1) := by decide +kernel
theorem dX9_kindAbove_5 : decode cX9_kindAbove 5 = .ok (.bipush 8, 2) := by decide +kernel
theorem dX9_kindAbove_7 : decode cX9_kindAbove 7 = .ok (.if_icmp .ge 11, 3) := by decide +kernel
theorem dX9_kindAbove_10 : decode cX9_kindAbove 10 = .ok (.getstatic 47, 3) := by decide +kernel
theorem dX9_kindAbove_13 : decode cX9_kindAbove 13 = .ok (.iload_n 0, 1) := by decide +kernel
theorem dX9_kindAbove_14 : decode cX9_kindAbove 14 = .ok (.iaload, 1) := by decide +kernel
theorem dX9_kindAbove_15 : decode cX9_kindAbove 15 = .ok (.goto 4, 3) := by decide +kernel
theorem dX9_kindAbove_18 : decode cX9_kindAbove 18 = .ok (.iconst (-1), 1) := by decide +kernel
theorem dX9_kindAbove_19 : decode cX9_kindAbove 19 = .ok (.ireturn, 1) := by decide +kernel
end
section
def SP_X11_within (v : Int32) (lo : Int32) (hi : Int32) (Mz : mM) (r_ : Int32) : Prop := (((v.toInt < lo.toInt) ∧ r_ = 0) ∨ ((lo.toInt ≤ v.toInt) ∧ (((hi.toInt < v.toInt) ∧ r_ = 0) ∨ ((v.toInt ≤ hi.toInt) ∧ r_ = 1))))
theorem lf_c_X11_within_0 (v : Int32) (lo : Int32) (hi : Int32) (h1_ : v.toInt < lo.toInt) : ¬ (lo.toInt ≤ v.toInt ∧ v.toInt ≤ hi.toInt) := by omega
theorem lf_c_X11_within_1 (v : Int32) (lo : Int32) (hi : Int32) (h2_ : hi.toInt < v.toInt) : ¬ (lo.toInt ≤ v.toInt ∧ v.toInt ≤ hi.toInt) := by omega
theorem lf_c_X11_within_2 (v : Int32) (lo : Int32) (hi : Int32) (h1_ : lo.toInt ≤ v.toInt) (h2_ : v.toInt ≤ hi.toInt) : lo.toInt ≤ v.toInt ∧ v.toInt ≤ hi.toInt := by omega
set_option maxHeartbeats 4000000 in
set_option maxRecDepth 100000 in
theorem c_X11_within (l : Launch) (G : va_G) (cy : Nat → ClassId) (ad : rf → Nat) (d : Nat) (v : Int32) (lo : Int32) (hi : Int32) (Mz : mM) (hIz : Inv Mz) : WP CC l G cy ad yX11_within cX11_within 3 (some .boolean) d 0 [(0, vI v), (1, vI lo), (2, vI hi)] [] Mz (fun r M' => Mz = M' ∧ (((r = 1 ∧ lo.toInt ≤ v.toInt ∧ v.toInt ≤ hi.toInt) ∨ (r = 0 ∧ ¬ (lo.toInt ≤ v.toInt ∧ v.toInt ≤ hi.toInt)))) ∧ SP_X11_within v lo hi Mz r) := by
  refine w_iload_n dX11_within_0 rfl 0 rfl ?_
  refine w_iload_n dX11_within_1 rfl 1 rfl ?_
  refine w_icmp_lt (tgt := 14) dX11_within_2 (by decide) (rfl : v.toInt = v.toInt) (rfl : lo.toInt = lo.toInt) (fun h1_ => ?_) (fun h1_ => ?_)
  · refine w_iconst (v := 0) dX11_within_14 (by decide) ?_
    exact w_zret rfl dX11_within_15 ⟨by decide, by decide⟩ ⟨rfl, (Or.inr ⟨rfl, (lf_c_X11_within_0 v lo hi h1_ )⟩), (Or.inl ⟨h1_, rfl⟩)⟩
  · refine w_iload_n dX11_within_5 rfl 0 rfl ?_
    refine w_iload_n dX11_within_6 rfl 2 rfl ?_
    refine w_icmp_gt (tgt := 14) dX11_within_7 (by decide) (rfl : v.toInt = v.toInt) (rfl : hi.toInt = hi.toInt) (fun h2_ => ?_) (fun h2_ => ?_)
    · refine w_iconst (v := 0) dX11_within_14 (by decide) ?_
      exact w_zret rfl dX11_within_15 ⟨by decide, by decide⟩ ⟨rfl, (Or.inr ⟨rfl, (lf_c_X11_within_1 v lo hi h2_ )⟩), (Or.inr ⟨h1_, (Or.inl ⟨h2_, rfl⟩)⟩)⟩
    · refine w_iconst (v := 1) dX11_within_10 (by decide) ?_
      refine w_goto (tgt := 15) dX11_within_11 (by decide) ?_
      exact w_zret rfl dX11_within_15 ⟨by decide, by decide⟩ ⟨rfl, (Or.inl ⟨rfl, (lf_c_X11_within_2 v lo hi h1_ h2_ )⟩), (Or.inr ⟨h1_, (Or.inr ⟨h2_, rfl⟩)⟩)⟩
def SP_X11_isThingKind (v : Int32) (Mz : mM) (r_ : Int32) : Prop := (((SP_X11_within v 0 4 Mz (1 : Int32)) ∧ (0 ≤ v.toInt ∧ v.toInt ≤ 4) ∧ r_ = 1) ∨ ((SP_X11_within v 0 4 Mz (0 : Int32)) ∧ (¬ (0 ≤ v.toInt ∧ v.toInt ≤ 4)) ∧ r_ = 0))
set_option maxHeartbeats 4000000 in
set_option maxRecDepth 100000 in
theorem c_X11_isThingKind (l : Launch) (G : va_G) (cy : Nat → ClassId) (ad : rf → Nat) (d : Nat) (v : Int32) (Mz : mM) (hIz : Inv Mz) : WP CC l G cy ad yX11_isThingKind cX11_isThingKind 1 (some .boolean) (d + 1) 0 [(0, vI v)] [] Mz (fun r M' => Mz = M' ∧ (((r = 1 ∧ 0 ≤ v.toInt ∧ v.toInt ≤ 4) ∨ (r = 0 ∧ ¬ (0 ≤ v.toInt ∧ v.toInt ≤ 4)))) ∧ SP_X11_isThingKind v Mz r) := by
  refine w_iload_n dX11_isThingKind_0 rfl 0 rfl ?_
  refine w_iconst (v := 0) dX11_isThingKind_1 (by decide) ?_
  refine w_iconst (v := 4) dX11_isThingKind_2 (by decide) ?_
  refine w_callS (as := [vI v, vI 0, vI 4]) (rest := []) (c_X11_within l G cy ad d v 0 4 Mz hIz) kS_X11_within pnn_0 (Nat.le_of_ble_eq_true rfl) m_494 rfl rfl (by decide) (Nat.le_of_ble_eq_true rfl) dX11_isThingKind_3 (fun r1_ M2_ q3_ => ?_)
  obtain ⟨rfl, h4_, hs5_⟩ := q3_
  rcases h4_ with ⟨rfl, h4_⟩ | ⟨rfl, h4_⟩
  · simp only [li_0, li_4] at h4_
    exact w_zret rfl dX11_isThingKind_6 ⟨by decide, by decide⟩ ⟨rfl, (Or.inl ⟨rfl, h4_⟩), (Or.inl ⟨hs5_, h4_, rfl⟩)⟩
  · simp only [li_0, li_4] at h4_
    exact w_zret rfl dX11_isThingKind_6 ⟨by decide, by decide⟩ ⟨rfl, (Or.inr ⟨rfl, h4_⟩), (Or.inr ⟨hs5_, h4_, rfl⟩)⟩
def SP_X11_isWalkerKind (v : Int32) (Mz : mM) (r_ : Int32) : Prop := (((SP_X11_within v 0 7 Mz (1 : Int32)) ∧ (0 ≤ v.toInt ∧ v.toInt ≤ 7) ∧ r_ = 1) ∨ ((SP_X11_within v 0 7 Mz (0 : Int32)) ∧ (¬ (0 ≤ v.toInt ∧ v.toInt ≤ 7)) ∧ r_ = 0))
set_option maxHeartbeats 4000000 in
set_option maxRecDepth 100000 in
theorem c_X11_isWalkerKind (l : Launch) (G : va_G) (cy : Nat → ClassId) (ad : rf → Nat) (d : Nat) (v : Int32) (Mz : mM) (hIz : Inv Mz) : WP CC l G cy ad yX11_isWalkerKind cX11_isWalkerKind 1 (some .boolean) (d + 1) 0 [(0, vI v)] [] Mz (fun r M' => Mz = M' ∧ (((r = 1 ∧ 0 ≤ v.toInt ∧ v.toInt ≤ 7) ∨ (r = 0 ∧ ¬ (0 ≤ v.toInt ∧ v.toInt ≤ 7)))) ∧ SP_X11_isWalkerKind v Mz r) := by
  refine w_iload_n dX11_isWalkerKind_0 rfl 0 rfl ?_
  refine w_iconst (v := 0) dX11_isWalkerKind_1 (by decide) ?_
  refine w_bipush (v := 7) dX11_isWalkerKind_2 (by decide) ?_
  refine w_callS (as := [vI v, vI 0, vI 7]) (rest := []) (c_X11_within l G cy ad d v 0 7 Mz hIz) kS_X11_within pnn_0 (Nat.le_of_ble_eq_true rfl) m_494 rfl rfl (by decide) (Nat.le_of_ble_eq_true rfl) dX11_isWalkerKind_4 (fun r1_ M2_ q3_ => ?_)
  obtain ⟨rfl, h4_, hs5_⟩ := q3_
  rcases h4_ with ⟨rfl, h4_⟩ | ⟨rfl, h4_⟩
  · simp only [li_0, li_7] at h4_
    exact w_zret rfl dX11_isWalkerKind_7 ⟨by decide, by decide⟩ ⟨rfl, (Or.inl ⟨rfl, h4_⟩), (Or.inl ⟨hs5_, h4_, rfl⟩)⟩
  · simp only [li_0, li_7] at h4_
    exact w_zret rfl dX11_isWalkerKind_7 ⟨by decide, by decide⟩ ⟨rfl, (Or.inr ⟨rfl, h4_⟩), (Or.inr ⟨hs5_, h4_, rfl⟩)⟩
def SP_X11_isSheet (v : Int32) (Mz : mM) (r_ : Int32) : Prop := (((SP_X11_within v 0 3 Mz (1 : Int32)) ∧ (0 ≤ v.toInt ∧ v.toInt ≤ 3) ∧ r_ = 1) ∨ ((SP_X11_within v 0 3 Mz (0 : Int32)) ∧ (¬ (0 ≤ v.toInt ∧ v.toInt ≤ 3)) ∧ r_ = 0))
set_option maxHeartbeats 4000000 in
set_option maxRecDepth 100000 in
theorem c_X11_isSheet (l : Launch) (G : va_G) (cy : Nat → ClassId) (ad : rf → Nat) (d : Nat) (v : Int32) (Mz : mM) (hIz : Inv Mz) : WP CC l G cy ad yX11_isSheet cX11_isSheet 1 (some .boolean) (d + 1) 0 [(0, vI v)] [] Mz (fun r M' => Mz = M' ∧ (((r = 1 ∧ 0 ≤ v.toInt ∧ v.toInt ≤ 3) ∨ (r = 0 ∧ ¬ (0 ≤ v.toInt ∧ v.toInt ≤ 3)))) ∧ SP_X11_isSheet v Mz r) := by
  refine w_iload_n dX11_isSheet_0 rfl 0 rfl ?_
  refine w_iconst (v := 0) dX11_isSheet_1 (by decide) ?_
  refine w_iconst (v := 3) dX11_isSheet_2 (by decide) ?_
  refine w_callS (as := [vI v, vI 0, vI 3]) (rest := []) (c_X11_within l G cy ad d v 0 3 Mz hIz) kS_X11_within pnn_0 (Nat.le_of_ble_eq_true rfl) m_494 rfl rfl (by decide) (Nat.le_of_ble_eq_true rfl) dX11_isSheet_3 (fun r1_ M2_ q3_ => ?_)
  obtain ⟨rfl, h4_, hs5_⟩ := q3_
  rcases h4_ with ⟨rfl, h4_⟩ | ⟨rfl, h4_⟩
  · simp only [li_0, li_3] at h4_
    exact w_zret rfl dX11_isSheet_6 ⟨by decide, by decide⟩ ⟨rfl, (Or.inl ⟨rfl, h4_⟩), (Or.inl ⟨hs5_, h4_, rfl⟩)⟩
  · simp only [li_0, li_3] at h4_
    exact w_zret rfl dX11_isSheet_6 ⟨by decide, by decide⟩ ⟨rfl, (Or.inr ⟨rfl, h4_⟩), (Or.inr ⟨hs5_, h4_, rfl⟩)⟩
def SP_X11_isBits (v : Int32) (Mz : mM) (r_ : Int32) : Prop := (((SP_X11_within v 0 31 Mz (1 : Int32)) ∧ (0 ≤ v.toInt ∧ v.toInt ≤ 31) ∧ r_ = 1) ∨ ((SP_X11_within v 0 31 Mz (0 : Int32)) ∧ (¬ (0 ≤ v.toInt ∧ v.toInt ≤ 31)) ∧ r_ = 0))
set_option maxHeartbeats 4000000 in
set_option maxRecDepth 100000 in
theorem c_X11_isBits (l : Launch) (G : va_G) (cy : Nat → ClassId) (ad : rf → Nat) (d : Nat) (v : Int32) (Mz : mM) (hIz : Inv Mz) : WP CC l G cy ad yX11_isBits cX11_isBits 1 (some .boolean) (d + 1) 0 [(0, vI v)] [] Mz (fun r M' => Mz = M' ∧ (((r = 1 ∧ 0 ≤ v.toInt ∧ v.toInt ≤ 31) ∨ (r = 0 ∧ ¬ (0 ≤ v.toInt ∧ v.toInt ≤ 31)))) ∧ SP_X11_isBits v Mz r) := by
  refine w_iload_n dX11_isBits_0 rfl 0 rfl ?_
  refine w_iconst (v := 0) dX11_isBits_1 (by decide) ?_
  refine w_bipush (v := 31) dX11_isBits_2 (by decide) ?_
  refine w_callS (as := [vI v, vI 0, vI 31]) (rest := []) (c_X11_within l G cy ad d v 0 31 Mz hIz) kS_X11_within pnn_0 (Nat.le_of_ble_eq_true rfl) m_494 rfl rfl (by decide) (Nat.le_of_ble_eq_true rfl) dX11_isBits_4 (fun r1_ M2_ q3_ => ?_)
  obtain ⟨rfl, h4_, hs5_⟩ := q3_
  rcases h4_ with ⟨rfl, h4_⟩ | ⟨rfl, h4_⟩
  · simp only [li_0, li_31] at h4_
    exact w_zret rfl dX11_isBits_7 ⟨by decide, by decide⟩ ⟨rfl, (Or.inl ⟨rfl, h4_⟩), (Or.inl ⟨hs5_, h4_, rfl⟩)⟩
  · simp only [li_0, li_31] at h4_
    exact w_zret rfl dX11_isBits_7 ⟨by decide, by decide⟩ ⟨rfl, (Or.inr ⟨rfl, h4_⟩), (Or.inr ⟨hs5_, h4_, rfl⟩)⟩
def SP_X7_isCell (v : Int32) (Mz : mM) (r_ : Int32) : Prop := (((v.toInt < 0) ∧ r_ = 0) ∨ ((0 ≤ v.toInt) ∧ (((192 ≤ v.toInt) ∧ r_ = 0) ∨ ((v.toInt < 192) ∧ r_ = 1))))
theorem lf_c_X7_isCell_0 (v : Int32) (h1_ : v.toInt < 0) : ¬ (0 ≤ v.toInt ∧ v.toInt ≤ 191) := by omega
theorem lf_c_X7_isCell_1 (v : Int32) (h2_ : 192 ≤ v.toInt) : ¬ (0 ≤ v.toInt ∧ v.toInt ≤ 191) := by omega
theorem lf_c_X7_isCell_2 (v : Int32) (h1_ : 0 ≤ v.toInt) (h2_ : v.toInt < 192) : 0 ≤ v.toInt ∧ v.toInt ≤ 191 := by omega
set_option maxHeartbeats 4000000 in
set_option maxRecDepth 100000 in
theorem c_X7_isCell (l : Launch) (G : va_G) (cy : Nat → ClassId) (ad : rf → Nat) (d : Nat) (v : Int32) (Mz : mM) (hIz : Inv Mz) : WP CC l G cy ad yX7_isCell cX7_isCell 1 (some .boolean) d 0 [(0, vI v)] [] Mz (fun r M' => Mz = M' ∧ (((r = 1 ∧ 0 ≤ v.toInt ∧ v.toInt ≤ 191) ∨ (r = 0 ∧ ¬ (0 ≤ v.toInt ∧ v.toInt ≤ 191)))) ∧ SP_X7_isCell v Mz r) := by
  refine w_iload_n dX7_isCell_0 rfl 0 rfl ?_
  refine w_if_lt (tgt := 15) dX7_isCell_1 (by decide) (rfl : v.toInt = v.toInt) (fun h1_ => ?_) (fun h1_ => ?_)
  · refine w_iconst (v := 0) dX7_isCell_15 (by decide) ?_
    exact w_zret rfl dX7_isCell_16 ⟨by decide, by decide⟩ ⟨rfl, (Or.inr ⟨rfl, (lf_c_X7_isCell_0 v h1_ )⟩), (Or.inl ⟨h1_, rfl⟩)⟩
  · refine w_iload_n dX7_isCell_4 rfl 0 rfl ?_
    refine w_sipush (v := 192) dX7_isCell_5 (by decide) ?_
    refine w_icmp_ge (tgt := 15) dX7_isCell_8 (by decide) (rfl : v.toInt = v.toInt) li_192 (fun h2_ => ?_) (fun h2_ => ?_)
    · refine w_iconst (v := 0) dX7_isCell_15 (by decide) ?_
      exact w_zret rfl dX7_isCell_16 ⟨by decide, by decide⟩ ⟨rfl, (Or.inr ⟨rfl, (lf_c_X7_isCell_1 v h2_ )⟩), (Or.inr ⟨h1_, (Or.inl ⟨h2_, rfl⟩)⟩)⟩
    · refine w_iconst (v := 1) dX7_isCell_11 (by decide) ?_
      refine w_goto (tgt := 16) dX7_isCell_12 (by decide) ?_
      exact w_zret rfl dX7_isCell_16 ⟨by decide, by decide⟩ ⟨rfl, (Or.inl ⟨rfl, (lf_c_X7_isCell_2 v h1_ h2_ )⟩), (Or.inr ⟨h1_, (Or.inr ⟨h2_, rfl⟩)⟩)⟩
def SP_X7_isSide (v : Int32) (Mz : mM) (r_ : Int32) : Prop := (((v.toInt < 0) ∧ r_ = 0) ∨ ((0 ≤ v.toInt) ∧ (((8 ≤ v.toInt) ∧ r_ = 0) ∨ ((v.toInt < 8) ∧ r_ = 1))))
theorem lf_c_X7_isSide_0 (v : Int32) (h1_ : v.toInt < 0) : ¬ (0 ≤ v.toInt ∧ v.toInt ≤ 7) := by omega
theorem lf_c_X7_isSide_1 (v : Int32) (h2_ : 8 ≤ v.toInt) : ¬ (0 ≤ v.toInt ∧ v.toInt ≤ 7) := by omega
theorem lf_c_X7_isSide_2 (v : Int32) (h1_ : 0 ≤ v.toInt) (h2_ : v.toInt < 8) : 0 ≤ v.toInt ∧ v.toInt ≤ 7 := by omega
set_option maxHeartbeats 4000000 in
set_option maxRecDepth 100000 in
theorem c_X7_isSide (l : Launch) (G : va_G) (cy : Nat → ClassId) (ad : rf → Nat) (d : Nat) (v : Int32) (Mz : mM) (hIz : Inv Mz) : WP CC l G cy ad yX7_isSide cX7_isSide 1 (some .boolean) d 0 [(0, vI v)] [] Mz (fun r M' => Mz = M' ∧ (((r = 1 ∧ 0 ≤ v.toInt ∧ v.toInt ≤ 7) ∨ (r = 0 ∧ ¬ (0 ≤ v.toInt ∧ v.toInt ≤ 7)))) ∧ SP_X7_isSide v Mz r) := by
  refine w_iload_n dX7_isSide_0 rfl 0 rfl ?_
  refine w_if_lt (tgt := 14) dX7_isSide_1 (by decide) (rfl : v.toInt = v.toInt) (fun h1_ => ?_) (fun h1_ => ?_)
  · refine w_iconst (v := 0) dX7_isSide_14 (by decide) ?_
    exact w_zret rfl dX7_isSide_15 ⟨by decide, by decide⟩ ⟨rfl, (Or.inr ⟨rfl, (lf_c_X7_isSide_0 v h1_ )⟩), (Or.inl ⟨h1_, rfl⟩)⟩
  · refine w_iload_n dX7_isSide_4 rfl 0 rfl ?_
    refine w_bipush (v := 8) dX7_isSide_5 (by decide) ?_
    refine w_icmp_ge (tgt := 14) dX7_isSide_7 (by decide) (rfl : v.toInt = v.toInt) li_8 (fun h2_ => ?_) (fun h2_ => ?_)
    · refine w_iconst (v := 0) dX7_isSide_14 (by decide) ?_
      exact w_zret rfl dX7_isSide_15 ⟨by decide, by decide⟩ ⟨rfl, (Or.inr ⟨rfl, (lf_c_X7_isSide_1 v h2_ )⟩), (Or.inr ⟨h1_, (Or.inl ⟨h2_, rfl⟩)⟩)⟩
    · refine w_iconst (v := 1) dX7_isSide_10 (by decide) ?_
      refine w_goto (tgt := 15) dX7_isSide_11 (by decide) ?_
      exact w_zret rfl dX7_isSide_15 ⟨by decide, by decide⟩ ⟨rfl, (Or.inl ⟨rfl, (lf_c_X7_isSide_2 v h1_ h2_ )⟩), (Or.inr ⟨h1_, (Or.inr ⟨h2_, rfl⟩)⟩)⟩
def SP_X7_cellFrom (v : Int32) (sd : Int32) (yd : Int32) (Mz : mM) (r_ : Int32) : Prop := (((SP_X7_isCell v Mz (1 : Int32)) ∧ (0 ≤ v.toInt ∧ v.toInt ≤ 191) ∧ (((SP_X7_isSide sd Mz (1 : Int32)) ∧ (0 ≤ sd.toInt ∧ sd.toInt ≤ 7) ∧ (((yd.toInt < 0) ∧ r_ = (-1)) ∨ ((0 ≤ yd.toInt) ∧ (((yd.toInt ≤ 16) ∧ ∃ z15_ : Int32, (z15_.toInt = v.toInt % 16) ∧ ∃ j19_ : Nat, ((j19_ : Int) = sd.toInt) ∧ ∃ z17_ : Int32, (z17_ = ([0, 1, 1, 1, 0, -1, -1, -1] : List Int32).getD j19_ 0) ∧ ∃ z21_ : Int32, (z21_ = yd * z17_) ∧ ∃ z23_ : Int32, (z23_ = z15_ + z21_) ∧ ∃ z25_ : Int32, (z25_.toInt = v.toInt / 16) ∧ ∃ j29_ : Nat, ((j29_ : Int) = sd.toInt) ∧ ∃ z27_ : Int32, (z27_ = ([-1, -1, 0, 1, 1, 1, 0, -1] : List Int32).getD j29_ 0) ∧ ∃ z31_ : Int32, (z31_ = yd * z27_) ∧ ∃ z33_ : Int32, (z33_ = z25_ + z31_) ∧ (((z23_.toInt < 0) ∧ r_ = (-1)) ∨ ((0 ≤ z23_.toInt) ∧ (((16 ≤ z23_.toInt) ∧ r_ = (-1)) ∨ ((z23_.toInt < 16) ∧ (((z33_.toInt < 0) ∧ r_ = (-1)) ∨ ((0 ≤ z33_.toInt) ∧ (((z33_.toInt < 12) ∧ ∃ z39_ : Int32, (z39_.toInt = 16 * z33_.toInt) ∧ ∃ z41_ : Int32, (z41_.toInt = z39_.toInt + z23_.toInt) ∧ r_ = z41_) ∨ ((12 ≤ z33_.toInt) ∧ r_ = (-1)))))))))) ∨ ((16 < yd.toInt) ∧ r_ = (-1)))))) ∨ ((SP_X7_isSide sd Mz (0 : Int32)) ∧ (¬ (0 ≤ sd.toInt ∧ sd.toInt ≤ 7)) ∧ r_ = (-1)))) ∨ ((SP_X7_isCell v Mz (0 : Int32)) ∧ (¬ (0 ≤ v.toInt ∧ v.toInt ≤ 191)) ∧ r_ = (-1)))
theorem lf_c_X7_cellFrom_0 : -1 ≤ ((-1) : Int32).toInt ∧ ((-1) : Int32).toInt ≤ 191 := by have r9 := li_m1; omega
theorem lf_c_X7_cellFrom_1 (v : Int32) (h4_ : 0 ≤ v.toInt ∧ v.toInt ≤ 191) : 0 ≤ v.toInt := by omega
theorem lf_c_X7_cellFrom_2 (sd : Int32) (h10_ : 0 ≤ sd.toInt ∧ sd.toInt ≤ 7) : 0 ≤ sd.toInt ∧ sd.toInt < ((8 : Nat) : Int) := by omega
theorem lf_c_X7_cellFrom_8 (z33_ : Int32) (h37_ : 0 ≤ z33_.toInt) (h38_ : z33_.toInt < 12) : -2147483648 ≤ 16 * z33_.toInt ∧ 16 * z33_.toInt < 2147483648 := by omega
theorem lf_c_X7_cellFrom_9 (z23_ : Int32) (z33_ : Int32) (z39_ : Int32) (h35_ : 0 ≤ z23_.toInt) (h36_ : z23_.toInt < 16) (h37_ : 0 ≤ z33_.toInt) (h38_ : z33_.toInt < 12) (h40_ : z39_.toInt = 16 * z33_.toInt) : -2147483648 ≤ z39_.toInt + z23_.toInt ∧ z39_.toInt + z23_.toInt < 2147483648 := by omega
theorem lf_c_X7_cellFrom_10 (z23_ : Int32) (z33_ : Int32) (z39_ : Int32) (z41_ : Int32) (h35_ : 0 ≤ z23_.toInt) (h36_ : z23_.toInt < 16) (h37_ : 0 ≤ z33_.toInt) (h38_ : z33_.toInt < 12) (h40_ : z39_.toInt = 16 * z33_.toInt) (h42_ : z41_.toInt = z39_.toInt + z23_.toInt) : -1 ≤ z41_.toInt ∧ z41_.toInt ≤ 191 := by omega
set_option maxHeartbeats 4000000 in
set_option maxRecDepth 100000 in
theorem c_X7_cellFrom (l : Launch) (G : va_G) (cy : Nat → ClassId) (ad : rf → Nat) (d : Nat) (v : Int32) (sd : Int32) (yd : Int32) (Mz : mM) (hIz : Inv Mz) : WP CC l G cy ad yX7_cellFrom cX7_cellFrom 5 (some .int) (d + 1) 0 [(0, vI v), (1, vI sd), (2, vI yd)] [] Mz (fun r M' => Mz = M' ∧ (-1 ≤ r.toInt ∧ r.toInt ≤ 191) ∧ SP_X7_cellFrom v sd yd Mz r) := by
  refine w_iload_n dX7_cellFrom_0 rfl 0 rfl ?_
  refine w_callS (as := [vI v]) (rest := []) (c_X7_isCell l G cy ad d v Mz hIz) kS_X7_isCell pnn_1 (Nat.le_of_ble_eq_true rfl) m_509 rfl rfl (by decide) (Nat.le_of_ble_eq_true rfl) dX7_cellFrom_1 (fun r1_ M2_ q3_ => ?_)
  obtain ⟨rfl, h4_, hs5_⟩ := q3_
  rcases h4_ with ⟨rfl, h4_⟩ | ⟨rfl, h4_⟩
  · refine w_if_eq (tgt := 24) dX7_cellFrom_4 (by decide) li_1 (fun h9 => (absurd h9 (by decide))) (fun h6_ => ?_)
    refine w_iload_n dX7_cellFrom_7 rfl 1 rfl ?_
    refine w_callS (as := [vI sd]) (rest := []) (c_X7_isSide l G cy ad d sd Mz hIz) kS_X7_isSide pnn_1 (Nat.le_of_ble_eq_true rfl) m_852 rfl rfl (by decide) (Nat.le_of_ble_eq_true rfl) dX7_cellFrom_8 (fun r7_ M8_ q9_ => ?_)
    obtain ⟨rfl, h10_, hs11_⟩ := q9_
    rcases h10_ with ⟨rfl, h10_⟩ | ⟨rfl, h10_⟩
    · refine w_if_eq (tgt := 24) dX7_cellFrom_11 (by decide) li_1 (fun h9 => (absurd h9 (by decide))) (fun h12_ => ?_)
      refine w_iload_n dX7_cellFrom_14 rfl 2 rfl ?_
      refine w_if_lt (tgt := 24) dX7_cellFrom_15 (by decide) (rfl : yd.toInt = yd.toInt) (fun h13_ => ?_) (fun h13_ => ?_)
      · refine w_iconst (v := (-1)) dX7_cellFrom_24 (by decide) ?_
        exact w_iret rfl dX7_cellFrom_25 ⟨rfl, (lf_c_X7_cellFrom_0 ), (Or.inl ⟨hs5_, h4_, (Or.inl ⟨hs11_, h10_, (Or.inl ⟨h13_, rfl⟩)⟩)⟩)⟩
      · refine w_iload_n dX7_cellFrom_18 rfl 2 rfl ?_
        refine w_bipush (v := 16) dX7_cellFrom_19 (by decide) ?_
        refine w_icmp_le (tgt := 26) dX7_cellFrom_21 (by decide) (rfl : yd.toInt = yd.toInt) li_16 (fun h14_ => ?_) (fun h14_ => ?_)
        · refine w_iload_n dX7_cellFrom_26 rfl 0 rfl ?_
          refine w_bipush (v := 16) dX7_cellFrom_27 (by decide) ?_
          refine w_iremB dX7_cellFrom_29 (by decide) (rfl : v.toInt = v.toInt) li_16 (lf_c_X7_cellFrom_1 v h4_ ) (by decide) (fun z15_ h16_ => ?_)
          refine w_iload_n dX7_cellFrom_30 rfl 2 rfl ?_
          refine w_gets (k := 4) rfl m_853 dX7_cellFrom_31 ?_
          refine w_iload_n dX7_cellFrom_34 rfl 1 rfl ?_
          refine w_iaT (k := 4) rfl (rfl : sd.toInt = sd.toInt) (lf_c_X7_cellFrom_2 sd h10_ ) dX7_cellFrom_35 (fun j19_ h20_ z17_ e18_ => ?_)
          refine w_imul dX7_cellFrom_36 (fun z21_ h22_ => ?_)
          refine w_iadd dX7_cellFrom_37 (fun z23_ h24_ => ?_)
          refine w_istore_n (ls' := [(3, vI z23_), (0, vI v), (1, vI sd), (2, vI yd)]) dX7_cellFrom_38 rfl (by decide) rfl ?_
          refine w_iload_n dX7_cellFrom_39 rfl 1 rfl ?_
          refine w_bipush (v := 16) dX7_cellFrom_40 (by decide) ?_
          refine w_idivB dX7_cellFrom_42 (by decide) (rfl : v.toInt = v.toInt) li_16 (lf_c_X7_cellFrom_1 v h4_ ) (by decide) (fun z25_ h26_ => ?_)
          refine w_iload_n dX7_cellFrom_43 rfl 3 rfl ?_
          refine w_gets (k := 5) rfl m_855 dX7_cellFrom_44 ?_
          refine w_iload_n dX7_cellFrom_47 rfl 2 rfl ?_
          refine w_iaT (k := 5) rfl (rfl : sd.toInt = sd.toInt) (lf_c_X7_cellFrom_2 sd h10_ ) dX7_cellFrom_48 (fun j29_ h30_ z27_ e28_ => ?_)
          refine w_imul dX7_cellFrom_49 (fun z31_ h32_ => ?_)
          refine w_iadd dX7_cellFrom_50 (fun z33_ h34_ => ?_)
          refine w_istore (ls' := [(4, vI z33_), (3, vI z23_), (0, vI v), (1, vI sd), (2, vI yd)]) dX7_cellFrom_51 (by decide) rfl ?_
          refine w_iload_n dX7_cellFrom_53 rfl 1 rfl ?_
          refine w_if_lt (tgt := 75) dX7_cellFrom_54 (by decide) (rfl : z23_.toInt = z23_.toInt) (fun h35_ => ?_) (fun h35_ => ?_)
          · refine w_iconst (v := (-1)) dX7_cellFrom_75 (by decide) ?_
            refine w_goto (tgt := 86) dX7_cellFrom_76 (by decide) ?_
            exact w_iret rfl dX7_cellFrom_86 ⟨rfl, (lf_c_X7_cellFrom_0 ), (Or.inl ⟨hs5_, h4_, (Or.inl ⟨hs11_, h10_, (Or.inr ⟨h13_, (Or.inl ⟨h14_, z15_, h16_, j19_, h20_, z17_, e18_, z21_, h22_, z23_, h24_, z25_, h26_, j29_, h30_, z27_, e28_, z31_, h32_, z33_, h34_, (Or.inl ⟨h35_, rfl⟩)⟩)⟩)⟩)⟩)⟩
          · refine w_iload_n dX7_cellFrom_57 rfl 1 rfl ?_
            refine w_bipush (v := 16) dX7_cellFrom_58 (by decide) ?_
            refine w_icmp_ge (tgt := 75) dX7_cellFrom_60 (by decide) (rfl : z23_.toInt = z23_.toInt) li_16 (fun h36_ => ?_) (fun h36_ => ?_)
            · refine w_iconst (v := (-1)) dX7_cellFrom_75 (by decide) ?_
              refine w_goto (tgt := 86) dX7_cellFrom_76 (by decide) ?_
              exact w_iret rfl dX7_cellFrom_86 ⟨rfl, (lf_c_X7_cellFrom_0 ), (Or.inl ⟨hs5_, h4_, (Or.inl ⟨hs11_, h10_, (Or.inr ⟨h13_, (Or.inl ⟨h14_, z15_, h16_, j19_, h20_, z17_, e18_, z21_, h22_, z23_, h24_, z25_, h26_, j29_, h30_, z27_, e28_, z31_, h32_, z33_, h34_, (Or.inr ⟨h35_, (Or.inl ⟨h36_, rfl⟩)⟩)⟩)⟩)⟩)⟩)⟩
            · refine w_iload dX7_cellFrom_63 0 rfl ?_
              refine w_if_lt (tgt := 75) dX7_cellFrom_65 (by decide) (rfl : z33_.toInt = z33_.toInt) (fun h37_ => ?_) (fun h37_ => ?_)
              · refine w_iconst (v := (-1)) dX7_cellFrom_75 (by decide) ?_
                refine w_goto (tgt := 86) dX7_cellFrom_76 (by decide) ?_
                exact w_iret rfl dX7_cellFrom_86 ⟨rfl, (lf_c_X7_cellFrom_0 ), (Or.inl ⟨hs5_, h4_, (Or.inl ⟨hs11_, h10_, (Or.inr ⟨h13_, (Or.inl ⟨h14_, z15_, h16_, j19_, h20_, z17_, e18_, z21_, h22_, z23_, h24_, z25_, h26_, j29_, h30_, z27_, e28_, z31_, h32_, z33_, h34_, (Or.inr ⟨h35_, (Or.inr ⟨h36_, (Or.inl ⟨h37_, rfl⟩)⟩)⟩)⟩)⟩)⟩)⟩)⟩
              · refine w_iload dX7_cellFrom_68 0 rfl ?_
                refine w_bipush (v := 12) dX7_cellFrom_70 (by decide) ?_
                refine w_icmp_lt (tgt := 79) dX7_cellFrom_72 (by decide) (rfl : z33_.toInt = z33_.toInt) li_12 (fun h38_ => ?_) (fun h38_ => ?_)
                · refine w_bipush (v := 16) dX7_cellFrom_79 (by decide) ?_
                  refine w_iload dX7_cellFrom_81 0 rfl ?_
                  refine w_imulB dX7_cellFrom_83 li_16 (rfl : z33_.toInt = z33_.toInt) (lf_c_X7_cellFrom_8 z33_ h37_ h38_ ) (fun z39_ h40_ => ?_)
                  refine w_iload_n dX7_cellFrom_84 rfl 1 rfl ?_
                  refine w_iaddB dX7_cellFrom_85 (rfl : z39_.toInt = z39_.toInt) (rfl : z23_.toInt = z23_.toInt) (lf_c_X7_cellFrom_9 z23_ z33_ z39_ h35_ h36_ h37_ h38_ h40_ ) (fun z41_ h42_ => ?_)
                  exact w_iret rfl dX7_cellFrom_86 ⟨rfl, (lf_c_X7_cellFrom_10 z23_ z33_ z39_ z41_ h35_ h36_ h37_ h38_ h40_ h42_ ), (Or.inl ⟨hs5_, h4_, (Or.inl ⟨hs11_, h10_, (Or.inr ⟨h13_, (Or.inl ⟨h14_, z15_, h16_, j19_, h20_, z17_, e18_, z21_, h22_, z23_, h24_, z25_, h26_, j29_, h30_, z27_, e28_, z31_, h32_, z33_, h34_, (Or.inr ⟨h35_, (Or.inr ⟨h36_, (Or.inr ⟨h37_, (Or.inl ⟨h38_, z39_, h40_, z41_, h42_, rfl⟩)⟩)⟩)⟩)⟩)⟩)⟩)⟩)⟩
                · refine w_iconst (v := (-1)) dX7_cellFrom_75 (by decide) ?_
                  refine w_goto (tgt := 86) dX7_cellFrom_76 (by decide) ?_
                  exact w_iret rfl dX7_cellFrom_86 ⟨rfl, (lf_c_X7_cellFrom_0 ), (Or.inl ⟨hs5_, h4_, (Or.inl ⟨hs11_, h10_, (Or.inr ⟨h13_, (Or.inl ⟨h14_, z15_, h16_, j19_, h20_, z17_, e18_, z21_, h22_, z23_, h24_, z25_, h26_, j29_, h30_, z27_, e28_, z31_, h32_, z33_, h34_, (Or.inr ⟨h35_, (Or.inr ⟨h36_, (Or.inr ⟨h37_, (Or.inr ⟨h38_, rfl⟩)⟩)⟩)⟩)⟩)⟩)⟩)⟩)⟩
        · refine w_iconst (v := (-1)) dX7_cellFrom_24 (by decide) ?_
          exact w_iret rfl dX7_cellFrom_25 ⟨rfl, (lf_c_X7_cellFrom_0 ), (Or.inl ⟨hs5_, h4_, (Or.inl ⟨hs11_, h10_, (Or.inr ⟨h13_, (Or.inr ⟨h14_, rfl⟩)⟩)⟩)⟩)⟩
    · refine w_if_eq (tgt := 24) dX7_cellFrom_11 (by decide) li_0 (fun h43_ => ?_) (fun h9 => (absurd h9 (by decide)))
      refine w_iconst (v := (-1)) dX7_cellFrom_24 (by decide) ?_
      exact w_iret rfl dX7_cellFrom_25 ⟨rfl, (lf_c_X7_cellFrom_0 ), (Or.inl ⟨hs5_, h4_, (Or.inr ⟨hs11_, h10_, rfl⟩)⟩)⟩
  · refine w_if_eq (tgt := 24) dX7_cellFrom_4 (by decide) li_0 (fun h44_ => ?_) (fun h9 => (absurd h9 (by decide)))
    refine w_iconst (v := (-1)) dX7_cellFrom_24 (by decide) ?_
    exact w_iret rfl dX7_cellFrom_25 ⟨rfl, (lf_c_X7_cellFrom_0 ), (Or.inr ⟨hs5_, h4_, rfl⟩)⟩
def SP_X9_kindAbove (v : Int32) (Mz : mM) (r_ : Int32) : Prop := (((v.toInt < 0) ∧ r_ = (-1)) ∨ ((0 ≤ v.toInt) ∧ (((8 ≤ v.toInt) ∧ r_ = (-1)) ∨ ((v.toInt < 8) ∧ ∃ j5_ : Nat, ((j5_ : Int) = v.toInt) ∧ ∃ z3_ : Int32, (z3_ = ([-1, 0, 0, 0, 0, 1, 3, 1] : List Int32).getD j5_ 0) ∧ r_ = z3_))))
theorem lf_c_X9_kindAbove_0 (v : Int32) (h1_ : 0 ≤ v.toInt) (h2_ : v.toInt < 8) : 0 ≤ v.toInt ∧ v.toInt < ((8 : Nat) : Int) := by omega
set_option maxHeartbeats 4000000 in
set_option maxRecDepth 100000 in
theorem c_X9_kindAbove (l : Launch) (G : va_G) (cy : Nat → ClassId) (ad : rf → Nat) (d : Nat) (v : Int32) (Mz : mM) (hIz : Inv Mz) : WP CC l G cy ad yX9_kindAbove cX9_kindAbove 1 (some .int) d 0 [(0, vI v)] [] Mz (fun r M' => Mz = M' ∧ (True) ∧ SP_X9_kindAbove v Mz r) := by
  refine w_iload_n dX9_kindAbove_0 rfl 0 rfl ?_
  refine w_if_lt (tgt := 18) dX9_kindAbove_1 (by decide) (rfl : v.toInt = v.toInt) (fun h1_ => ?_) (fun h1_ => ?_)
  · refine w_iconst (v := (-1)) dX9_kindAbove_18 (by decide) ?_
    exact w_iret rfl dX9_kindAbove_19 ⟨rfl, trivial, (Or.inl ⟨h1_, rfl⟩)⟩
  · refine w_iload_n dX9_kindAbove_4 rfl 0 rfl ?_
    refine w_bipush (v := 8) dX9_kindAbove_5 (by decide) ?_
    refine w_icmp_ge (tgt := 18) dX9_kindAbove_7 (by decide) (rfl : v.toInt = v.toInt) li_8 (fun h2_ => ?_) (fun h2_ => ?_)
    · refine w_iconst (v := (-1)) dX9_kindAbove_18 (by decide) ?_
      exact w_iret rfl dX9_kindAbove_19 ⟨rfl, trivial, (Or.inr ⟨h1_, (Or.inl ⟨h2_, rfl⟩)⟩)⟩
    · refine w_gets (k := 3) rfl m_646 dX9_kindAbove_10 ?_
      refine w_iload_n dX9_kindAbove_13 rfl 0 rfl ?_
      refine w_iaT (k := 3) rfl (rfl : v.toInt = v.toInt) (lf_c_X9_kindAbove_0 v h1_ h2_ ) dX9_kindAbove_14 (fun j5_ h6_ z3_ e4_ => ?_)
      refine w_goto (tgt := 19) dX9_kindAbove_15 (by decide) ?_
      exact w_iret rfl dX9_kindAbove_19 ⟨rfl, trivial, (Or.inr ⟨h1_, (Or.inr ⟨h2_, j5_, h6_, z3_, e4_, rfl⟩)⟩)⟩
end
section
/-! words of the tables that are used, by their places; decode rows; fields -/
theorem li_m2 : ((-2) : Int32).toInt = -2 := by decide
theorem li_2 : (2 : Int32).toInt = 2 := by decide
theorem li_5 : (5 : Int32).toInt = 5 := by decide
theorem li_48 : (48 : Int32).toInt = 48 := by decide
theorem li_2000 : (2000 : Int32).toInt = 2000 := by decide
theorem li_2063 : (2063 : Int32).toInt = 2063 := by decide
theorem li_2126 : (2126 : Int32).toInt = 2126 := by decide
set_option maxRecDepth 20000 in
theorem m_85 : Cond.initialized RX5 ∈ BASE := bmT1 7 rfl rfl
set_option maxRecDepth 20000 in
theorem m_86 : Cond.initialized "java/lang/Math" ∈ BASE := bmT1 8 rfl rfl
set_option maxRecDepth 20000 in
theorem m_98 : Cond.initialized "java/lang/System" ∈ BASE := bmT1 20 rfl rfl
set_option maxRecDepth 20000 in
theorem m_160 : Cond.fieldLink RX1 9 "ClickStreet$Formula" "codes" "[I" ∈ BASE := bmT1 82 rfl rfl
set_option maxRecDepth 20000 in
theorem m_161 : Cond.fieldLink RX1 13 "ClickStreet$Formula" "stack" "[I" ∈ BASE := bmT1 83 rfl rfl
set_option maxRecDepth 20000 in
theorem m_162 : Cond.fieldLink RX1 16 "ClickStreet$Formula" "size" "I" ∈ BASE := bmT1 84 rfl rfl
set_option maxRecDepth 20000 in
theorem m_208 : Cond.fieldLink RX5 19 "ClickStreet$Row" "numbers" "[I" ∈ BASE := bmT1 130 rfl rfl
set_option maxRecDepth 20000 in
theorem m_209 : Cond.fieldLink RX5 7 "ClickStreet$Row" "size" "I" ∈ BASE := bmT1 131 rfl rfl
set_option maxRecDepth 20000 in
theorem m_713 : Cond.instanceMethod yX5_get ∈ BASE := bmT3 155 rfl rfl
set_option maxRecDepth 20000 in
theorem m_714 : Cond.selects yX5_get.cls yX5_get yX5_get ∈ BASE := bmT3 156 rfl rfl
set_option maxRecDepth 20000 in
theorem m_715 : Cond.code yX5_get cX5_get 2 (some .int) ∈ BASE := bmT3 157 rfl rfl
set_option maxRecDepth 20000 in
theorem m_770 : Cond.static Lib.Math.min.name ∈ BASE := bmT3 212 rfl rfl
set_option maxRecDepth 20000 in
theorem m_771 : Cond.code Lib.Math.min.name Lib.Math.min.code 2 (some .int) ∈ BASE := bmT3 213 rfl rfl
set_option maxRecDepth 20000 in
theorem m_828 : Cond.methodLink RX1 20 arraycopyName ∈ BASE := bmT4 30 rfl rfl
set_option maxRecDepth 20000 in
theorem m_829 : Cond.static arraycopyName ∈ BASE := bmT4 31 rfl rfl
set_option maxRecDepth 20000 in
theorem m_830 : Cond.native arraycopyName ∈ BASE := bmT4 32 rfl rfl
set_option maxRecDepth 20000 in
theorem m_1146 : Cond.methodLink RX5 23 Lib.Math.min.name ∈ BASE := bmT5 108 rfl rfl
set_option maxRecDepth 20000 in
theorem m_1147 : Cond.methodLink RX5 26 yX5_get ∈ BASE := bmT5 109 rfl rfl
theorem kV_X5_get : KV yX5_get cX5_get 2 (some .int) 1 := ⟨m_713, m_714, m_85, m_715, nhM_2, nhV_2, pdn_2⟩
theorem inB1 : ∀ w ∈ u_ws RX1 TX1 3, w ∈ BASE := bmems (u_ws RX1 TX1 3) [163, 165, 167] (by decide +kernel) (by decide +kernel)
theorem inB5 : ∀ w ∈ u_ws RX5 TX5 2, w ∈ BASE := bmems (u_ws RX5 TX5 2) [213, 215] (by decide +kernel) (by decide +kernel)
theorem fl_RX1_13 : FLK RX1 13 1 1 (.array .int) true := ⟨RX1, TX1, 3, tyX1, rfl, inB1, tyX1_ok, nmX1, by decide, rfl, rfl, Or.inl m_161⟩
theorem fl_RX1_16 : FLK RX1 16 1 2 .int false := ⟨RX1, TX1, 3, tyX1, rfl, inB1, tyX1_ok, nmX1, by decide, rfl, rfl, Or.inl m_162⟩
theorem fl_RX1_9 : FLK RX1 9 1 0 (.array .int) true := ⟨RX1, TX1, 3, tyX1, rfl, inB1, tyX1_ok, nmX1, by decide, rfl, rfl, Or.inl m_160⟩
theorem fl_RX5_19 : FLK RX5 19 5 0 (.array .int) true := ⟨RX5, TX5, 2, tyX5, rfl, inB5, tyX5_ok, nmX5, by decide, rfl, rfl, Or.inl m_208⟩
theorem fl_RX5_7 : FLK RX5 7 5 1 .int false := ⟨RX5, TX5, 2, tyX5, rfl, inB5, tyX5_ok, nmX5, by decide, rfl, rfl, Or.inl m_209⟩
theorem dX1_add_0 : decode cX1_add 0 = .ok (.aload_n 0, 1) := by decide +kernel
theorem dX1_add_1 : decode cX1_add 1 = .ok (.getfield 16, 3) := by decide +kernel
theorem dX1_add_4 : decode cX1_add 4 = .ok (.ifCond .lt 32, 3) := by decide +kernel
theorem dX1_add_7 : decode cX1_add 7 = .ok (.aload_n 0, 1) := by decide +kernel
theorem dX1_add_8 : decode cX1_add 8 = .ok (.getfield 16, 3) := by decide +kernel
theorem dX1_add_11 : decode cX1_add 11 = .ok (.bipush 48, 2) := by decide +kernel
theorem dX1_add_13 : decode cX1_add 13 = .ok (.if_icmp .ge 23, 3) := by decide +kernel
theorem dX1_add_16 : decode cX1_add 16 = .ok (.aload_n 0, 1) := by decide +kernel
theorem dX1_add_17 : decode cX1_add 17 = .ok (.getfield 9, 3) := by decide +kernel
theorem dX1_add_20 : decode cX1_add 20 = .ok (.aload_n 0, 1) := by decide +kernel
theorem dX1_add_21 : decode cX1_add 21 = .ok (.getfield 16, 3) := by decide +kernel
theorem dX1_add_24 : decode cX1_add 24 = .ok (.iload_n 1, 1) := by decide +kernel
theorem dX1_add_25 : decode cX1_add 25 = .ok (.iastore, 1) := by decide +kernel
theorem dX1_add_26 : decode cX1_add 26 = .ok (.aload_n 0, 1) := by decide +kernel
theorem dX1_add_27 : decode cX1_add 27 = .ok (.dup, 1) := by decide +kernel
theorem dX1_add_28 : decode cX1_add 28 = .ok (.getfield 16, 3) := by decide +kernel
theorem dX1_add_31 : decode cX1_add 31 = .ok (.iconst 1, 1) := by decide +kernel
theorem dX1_add_32 : decode cX1_add 32 = .ok (.iadd, 1) := by decide +kernel
theorem dX1_add_33 : decode cX1_add 33 = .ok (.putfield 16, 3) := by decide +kernel
theorem dX1_add_36 : decode cX1_add 36 = .ok (.return_, 1) := by decide +kernel
theorem dX1_clear_0 : decode cX1_clear 0 = .ok (.aload_n 0, 1) := by decide +kernel
theorem dX1_clear_1 : decode cX1_clear 1 = .ok (.iconst 0, 1) := by decide +kernel
theorem dX1_clear_2 : decode cX1_clear 2 = .ok (.putfield 16, 3) := by decide +kernel
theorem dX1_clear_5 : decode cX1_clear 5 = .ok (.return_, 1) := by decide +kernel
theorem dX1_isGiven_0 : decode cX1_isGiven 0 = .ok (.aload_n 0, 1) := by decide +kernel
theorem dX1_isGiven_1 : decode cX1_isGiven 1 = .ok (.getfield 16, 3) := by decide +kernel
theorem dX1_isGiven_4 : decode cX1_isGiven 4 = .ok (.ifCond .le 7, 3) := by decide +kernel
theorem dX1_isGiven_7 : decode cX1_isGiven 7 = .ok (.iconst 1, 1) := by decide +kernel
theorem dX1_isGiven_8 : decode cX1_isGiven 8 = .ok (.goto 4, 3) := by decide +kernel
theorem dX1_isGiven_11 : decode cX1_isGiven 11 = .ok (.iconst 0, 1) := by decide +kernel
theorem dX1_isGiven_12 : decode cX1_isGiven 12 = .ok (.ireturn, 1) := by decide +kernel
theorem dX1_takeFrom_0 : decode cX1_takeFrom 0 = .ok (.aload_n 0, 1) := by decide +kernel
theorem dX1_takeFrom_1 : decode cX1_takeFrom 1 = .ok (.aload_n 1, 1) := by decide +kernel
theorem dX1_takeFrom_2 : decode cX1_takeFrom 2 = .ok (.getfield 16, 3) := by decide +kernel
theorem dX1_takeFrom_5 : decode cX1_takeFrom 5 = .ok (.putfield 16, 3) := by decide +kernel
theorem dX1_takeFrom_8 : decode cX1_takeFrom 8 = .ok (.aload_n 1, 1) := by decide +kernel
theorem dX1_takeFrom_9 : decode cX1_takeFrom 9 = .ok (.getfield 9, 3) := by decide +kernel
theorem dX1_takeFrom_12 : decode cX1_takeFrom 12 = .ok (.iconst 0, 1) := by decide +kernel
theorem dX1_takeFrom_13 : decode cX1_takeFrom 13 = .ok (.aload_n 0, 1) := by decide +kernel
theorem dX1_takeFrom_14 : decode cX1_takeFrom 14 = .ok (.getfield 9, 3) := by decide +kernel
theorem dX1_takeFrom_17 : decode cX1_takeFrom 17 = .ok (.iconst 0, 1) := by decide +kernel
theorem dX1_takeFrom_18 : decode cX1_takeFrom 18 = .ok (.bipush 48, 2) := by decide +kernel
theorem dX1_takeFrom_20 : decode cX1_takeFrom 20 = .ok (.invokestatic 20, 3) := by decide +kernel
theorem dX1_takeFrom_23 : decode cX1_takeFrom 23 = .ok (.return_, 1) := by decide +kernel
theorem ch_cX1_work_0 : (cX1_work.data.toList.drop 0).take 36 = [3, 61, 3, 62, 29, 42, 180, 0, 16, 162, 1, 175, 29, 16, 48, 162, 1, 169, 42, 180, 0, 9, 29, 46, 54, 4, 21, 4, 17, 3, 232, 100, 54, 5, 21, 4] := by decide +kernel
theorem dX1_work_0 : decode cX1_work 0 = .ok (.iconst 0, 1) := do_3 (rdb (p := 0) (i := 0) ch_cX1_work_0 rfl)
theorem dX1_work_1 : decode cX1_work 1 = .ok (.istore_n 2, 1) := do_61 (rdb (p := 0) (i := 1) ch_cX1_work_0 rfl)
theorem dX1_work_2 : decode cX1_work 2 = .ok (.iconst 0, 1) := do_3 (rdb (p := 0) (i := 2) ch_cX1_work_0 rfl)
theorem dX1_work_3 : decode cX1_work 3 = .ok (.istore_n 3, 1) := do_62 (rdb (p := 0) (i := 3) ch_cX1_work_0 rfl)
theorem dX1_work_4 : decode cX1_work 4 = .ok (.iload_n 3, 1) := do_29 (rdb (p := 0) (i := 4) ch_cX1_work_0 rfl)
theorem dX1_work_5 : decode cX1_work 5 = .ok (.aload_n 0, 1) := do_42 (rdb (p := 0) (i := 5) ch_cX1_work_0 rfl)
theorem dX1_work_6 : decode cX1_work 6 = .ok (.getfield 16, 3) := do_180 (rdb (p := 0) (i := 6) ch_cX1_work_0 rfl) (rdb (p := 0) (i := 7) ch_cX1_work_0 rfl) (rdb (p := 0) (i := 8) ch_cX1_work_0 rfl) rfl
theorem dX1_work_9 : decode cX1_work 9 = .ok (.if_icmp .ge 431, 3) := do_162 (rdb (p := 0) (i := 9) ch_cX1_work_0 rfl) (rdb (p := 0) (i := 10) ch_cX1_work_0 rfl) (rdb (p := 0) (i := 11) ch_cX1_work_0 rfl) (by decide +kernel)
theorem dX1_work_12 : decode cX1_work 12 = .ok (.iload_n 3, 1) := do_29 (rdb (p := 0) (i := 12) ch_cX1_work_0 rfl)
theorem dX1_work_13 : decode cX1_work 13 = .ok (.bipush 48, 2) := do_16 (rdb (p := 0) (i := 13) ch_cX1_work_0 rfl) (rdb (p := 0) (i := 14) ch_cX1_work_0 rfl) (by decide +kernel)
theorem dX1_work_15 : decode cX1_work 15 = .ok (.if_icmp .ge 425, 3) := do_162 (rdb (p := 0) (i := 15) ch_cX1_work_0 rfl) (rdb (p := 0) (i := 16) ch_cX1_work_0 rfl) (rdb (p := 0) (i := 17) ch_cX1_work_0 rfl) (by decide +kernel)
theorem dX1_work_18 : decode cX1_work 18 = .ok (.aload_n 0, 1) := do_42 (rdb (p := 0) (i := 18) ch_cX1_work_0 rfl)
theorem dX1_work_19 : decode cX1_work 19 = .ok (.getfield 9, 3) := do_180 (rdb (p := 0) (i := 19) ch_cX1_work_0 rfl) (rdb (p := 0) (i := 20) ch_cX1_work_0 rfl) (rdb (p := 0) (i := 21) ch_cX1_work_0 rfl) rfl
theorem dX1_work_22 : decode cX1_work 22 = .ok (.iload_n 3, 1) := do_29 (rdb (p := 0) (i := 22) ch_cX1_work_0 rfl)
theorem dX1_work_23 : decode cX1_work 23 = .ok (.iaload, 1) := do_46 (rdb (p := 0) (i := 23) ch_cX1_work_0 rfl)
theorem dX1_work_24 : decode cX1_work 24 = .ok (.istore 4, 2) := do_54 (rdb (p := 0) (i := 24) ch_cX1_work_0 rfl) (rdb (p := 0) (i := 25) ch_cX1_work_0 rfl)
theorem dX1_work_26 : decode cX1_work 26 = .ok (.iload 4, 2) := do_21 (rdb (p := 0) (i := 26) ch_cX1_work_0 rfl) (rdb (p := 0) (i := 27) ch_cX1_work_0 rfl)
theorem dX1_work_28 : decode cX1_work 28 = .ok (.sipush 1000, 3) := do_17 (rdb (p := 0) (i := 28) ch_cX1_work_0 rfl) (rdb (p := 0) (i := 29) ch_cX1_work_0 rfl) (rdb (p := 0) (i := 30) ch_cX1_work_0 rfl) (by decide +kernel)
theorem dX1_work_31 : decode cX1_work 31 = .ok (.isub, 1) := do_100 (rdb (p := 0) (i := 31) ch_cX1_work_0 rfl)
theorem ch_cX1_work_32 : (cX1_work.data.toList.drop 32).take 36 = [54, 5, 21, 4, 17, 7, 208, 162, 0, 46, 28, 16, 48, 162, 0, 40, 42, 180, 0, 13, 28, 21, 5, 156, 0, 8, 21, 4, 167, 0, 18, 21, 5, 43, 190, 162] := by decide +kernel
theorem dX1_work_32 : decode cX1_work 32 = .ok (.istore 5, 2) := do_54 (rdb (p := 32) (i := 0) ch_cX1_work_32 rfl) (rdb (p := 32) (i := 1) ch_cX1_work_32 rfl)
theorem dX1_work_34 : decode cX1_work 34 = .ok (.iload 4, 2) := do_21 (rdb (p := 32) (i := 2) ch_cX1_work_32 rfl) (rdb (p := 32) (i := 3) ch_cX1_work_32 rfl)
theorem dX1_work_36 : decode cX1_work 36 = .ok (.sipush 2000, 3) := do_17 (rdb (p := 32) (i := 4) ch_cX1_work_32 rfl) (rdb (p := 32) (i := 5) ch_cX1_work_32 rfl) (rdb (p := 32) (i := 6) ch_cX1_work_32 rfl) (by decide +kernel)
theorem dX1_work_39 : decode cX1_work 39 = .ok (.if_icmp .ge 46, 3) := do_162 (rdb (p := 32) (i := 7) ch_cX1_work_32 rfl) (rdb (p := 32) (i := 8) ch_cX1_work_32 rfl) (rdb (p := 32) (i := 9) ch_cX1_work_32 rfl) (by decide +kernel)
theorem dX1_work_42 : decode cX1_work 42 = .ok (.iload_n 2, 1) := do_28 (rdb (p := 32) (i := 10) ch_cX1_work_32 rfl)
theorem dX1_work_43 : decode cX1_work 43 = .ok (.bipush 48, 2) := do_16 (rdb (p := 32) (i := 11) ch_cX1_work_32 rfl) (rdb (p := 32) (i := 12) ch_cX1_work_32 rfl) (by decide +kernel)
theorem dX1_work_45 : decode cX1_work 45 = .ok (.if_icmp .ge 40, 3) := do_162 (rdb (p := 32) (i := 13) ch_cX1_work_32 rfl) (rdb (p := 32) (i := 14) ch_cX1_work_32 rfl) (rdb (p := 32) (i := 15) ch_cX1_work_32 rfl) (by decide +kernel)
theorem dX1_work_48 : decode cX1_work 48 = .ok (.aload_n 0, 1) := do_42 (rdb (p := 32) (i := 16) ch_cX1_work_32 rfl)
theorem dX1_work_49 : decode cX1_work 49 = .ok (.getfield 13, 3) := do_180 (rdb (p := 32) (i := 17) ch_cX1_work_32 rfl) (rdb (p := 32) (i := 18) ch_cX1_work_32 rfl) (rdb (p := 32) (i := 19) ch_cX1_work_32 rfl) rfl
theorem dX1_work_52 : decode cX1_work 52 = .ok (.iload_n 2, 1) := do_28 (rdb (p := 32) (i := 20) ch_cX1_work_32 rfl)
theorem dX1_work_53 : decode cX1_work 53 = .ok (.iload 5, 2) := do_21 (rdb (p := 32) (i := 21) ch_cX1_work_32 rfl) (rdb (p := 32) (i := 22) ch_cX1_work_32 rfl)
theorem dX1_work_55 : decode cX1_work 55 = .ok (.ifCond .ge 8, 3) := do_156 (rdb (p := 32) (i := 23) ch_cX1_work_32 rfl) (rdb (p := 32) (i := 24) ch_cX1_work_32 rfl) (rdb (p := 32) (i := 25) ch_cX1_work_32 rfl) (by decide +kernel)
theorem dX1_work_58 : decode cX1_work 58 = .ok (.iload 4, 2) := do_21 (rdb (p := 32) (i := 26) ch_cX1_work_32 rfl) (rdb (p := 32) (i := 27) ch_cX1_work_32 rfl)
theorem dX1_work_60 : decode cX1_work 60 = .ok (.goto 18, 3) := do_167 (rdb (p := 32) (i := 28) ch_cX1_work_32 rfl) (rdb (p := 32) (i := 29) ch_cX1_work_32 rfl) (rdb (p := 32) (i := 30) ch_cX1_work_32 rfl) (by decide +kernel)
theorem dX1_work_63 : decode cX1_work 63 = .ok (.iload 5, 2) := do_21 (rdb (p := 32) (i := 31) ch_cX1_work_32 rfl) (rdb (p := 32) (i := 32) ch_cX1_work_32 rfl)
theorem ch_cX1_work_64 : (cX1_work.data.toList.drop 64).take 36 = [5, 43, 190, 162, 0, 10, 43, 21, 5, 46, 167, 0, 4, 3, 79, 132, 2, 1, 167, 1, 96, 21, 4, 17, 8, 78, 160, 0, 28, 28, 4, 161, 0, 23, 42, 180] := by decide +kernel
theorem dX1_work_65 : decode cX1_work 65 = .ok (.aload_n 1, 1) := do_43 (rdb (p := 64) (i := 1) ch_cX1_work_64 rfl)
theorem dX1_work_66 : decode cX1_work 66 = .ok (.arraylength, 1) := do_190 (rdb (p := 64) (i := 2) ch_cX1_work_64 rfl)
theorem dX1_work_67 : decode cX1_work 67 = .ok (.if_icmp .ge 10, 3) := do_162 (rdb (p := 64) (i := 3) ch_cX1_work_64 rfl) (rdb (p := 64) (i := 4) ch_cX1_work_64 rfl) (rdb (p := 64) (i := 5) ch_cX1_work_64 rfl) (by decide +kernel)
theorem dX1_work_70 : decode cX1_work 70 = .ok (.aload_n 1, 1) := do_43 (rdb (p := 64) (i := 6) ch_cX1_work_64 rfl)
theorem dX1_work_71 : decode cX1_work 71 = .ok (.iload 5, 2) := do_21 (rdb (p := 64) (i := 7) ch_cX1_work_64 rfl) (rdb (p := 64) (i := 8) ch_cX1_work_64 rfl)
theorem dX1_work_73 : decode cX1_work 73 = .ok (.iaload, 1) := do_46 (rdb (p := 64) (i := 9) ch_cX1_work_64 rfl)
theorem dX1_work_74 : decode cX1_work 74 = .ok (.goto 4, 3) := do_167 (rdb (p := 64) (i := 10) ch_cX1_work_64 rfl) (rdb (p := 64) (i := 11) ch_cX1_work_64 rfl) (rdb (p := 64) (i := 12) ch_cX1_work_64 rfl) (by decide +kernel)
theorem dX1_work_77 : decode cX1_work 77 = .ok (.iconst 0, 1) := do_3 (rdb (p := 64) (i := 13) ch_cX1_work_64 rfl)
theorem dX1_work_78 : decode cX1_work 78 = .ok (.iastore, 1) := do_79 (rdb (p := 64) (i := 14) ch_cX1_work_64 rfl)
theorem dX1_work_79 : decode cX1_work 79 = .ok (.iinc 2 1, 3) := do_132 (rdb (p := 64) (i := 15) ch_cX1_work_64 rfl) (rdb (p := 64) (i := 16) ch_cX1_work_64 rfl) (rdb (p := 64) (i := 17) ch_cX1_work_64 rfl) (by decide +kernel)
theorem dX1_work_82 : decode cX1_work 82 = .ok (.goto 352, 3) := do_167 (rdb (p := 64) (i := 18) ch_cX1_work_64 rfl) (rdb (p := 64) (i := 19) ch_cX1_work_64 rfl) (rdb (p := 64) (i := 20) ch_cX1_work_64 rfl) (by decide +kernel)
theorem dX1_work_85 : decode cX1_work 85 = .ok (.iload 4, 2) := do_21 (rdb (p := 64) (i := 21) ch_cX1_work_64 rfl) (rdb (p := 64) (i := 22) ch_cX1_work_64 rfl)
theorem dX1_work_87 : decode cX1_work 87 = .ok (.sipush 2126, 3) := do_17 (rdb (p := 64) (i := 23) ch_cX1_work_64 rfl) (rdb (p := 64) (i := 24) ch_cX1_work_64 rfl) (rdb (p := 64) (i := 25) ch_cX1_work_64 rfl) (by decide +kernel)
theorem dX1_work_90 : decode cX1_work 90 = .ok (.if_icmp .ne 28, 3) := do_160 (rdb (p := 64) (i := 26) ch_cX1_work_64 rfl) (rdb (p := 64) (i := 27) ch_cX1_work_64 rfl) (rdb (p := 64) (i := 28) ch_cX1_work_64 rfl) (by decide +kernel)
theorem dX1_work_93 : decode cX1_work 93 = .ok (.iload_n 2, 1) := do_28 (rdb (p := 64) (i := 29) ch_cX1_work_64 rfl)
theorem dX1_work_94 : decode cX1_work 94 = .ok (.iconst 1, 1) := do_4 (rdb (p := 64) (i := 30) ch_cX1_work_64 rfl)
theorem dX1_work_95 : decode cX1_work 95 = .ok (.if_icmp .lt 23, 3) := do_161 (rdb (p := 64) (i := 31) ch_cX1_work_64 rfl) (rdb (p := 64) (i := 32) ch_cX1_work_64 rfl) (rdb (p := 64) (i := 33) ch_cX1_work_64 rfl) (by decide +kernel)
theorem ch_cX1_work_96 : (cX1_work.data.toList.drop 96).take 36 = [0, 23, 42, 180, 0, 13, 28, 4, 100, 42, 180, 0, 13, 28, 4, 100, 46, 116, 79, 167, 1, 63, 21, 4, 17, 8, 15, 160, 0, 50, 28, 6, 161, 0, 45, 132] := by decide +kernel
theorem dX1_work_98 : decode cX1_work 98 = .ok (.aload_n 0, 1) := do_42 (rdb (p := 96) (i := 2) ch_cX1_work_96 rfl)
theorem dX1_work_99 : decode cX1_work 99 = .ok (.getfield 13, 3) := do_180 (rdb (p := 96) (i := 3) ch_cX1_work_96 rfl) (rdb (p := 96) (i := 4) ch_cX1_work_96 rfl) (rdb (p := 96) (i := 5) ch_cX1_work_96 rfl) rfl
theorem dX1_work_102 : decode cX1_work 102 = .ok (.iload_n 2, 1) := do_28 (rdb (p := 96) (i := 6) ch_cX1_work_96 rfl)
theorem dX1_work_103 : decode cX1_work 103 = .ok (.iconst 1, 1) := do_4 (rdb (p := 96) (i := 7) ch_cX1_work_96 rfl)
theorem dX1_work_104 : decode cX1_work 104 = .ok (.isub, 1) := do_100 (rdb (p := 96) (i := 8) ch_cX1_work_96 rfl)
theorem dX1_work_105 : decode cX1_work 105 = .ok (.aload_n 0, 1) := do_42 (rdb (p := 96) (i := 9) ch_cX1_work_96 rfl)
theorem dX1_work_106 : decode cX1_work 106 = .ok (.getfield 13, 3) := do_180 (rdb (p := 96) (i := 10) ch_cX1_work_96 rfl) (rdb (p := 96) (i := 11) ch_cX1_work_96 rfl) (rdb (p := 96) (i := 12) ch_cX1_work_96 rfl) rfl
theorem dX1_work_109 : decode cX1_work 109 = .ok (.iload_n 2, 1) := do_28 (rdb (p := 96) (i := 13) ch_cX1_work_96 rfl)
theorem dX1_work_110 : decode cX1_work 110 = .ok (.iconst 1, 1) := do_4 (rdb (p := 96) (i := 14) ch_cX1_work_96 rfl)
theorem dX1_work_111 : decode cX1_work 111 = .ok (.isub, 1) := do_100 (rdb (p := 96) (i := 15) ch_cX1_work_96 rfl)
theorem dX1_work_112 : decode cX1_work 112 = .ok (.iaload, 1) := do_46 (rdb (p := 96) (i := 16) ch_cX1_work_96 rfl)
theorem dX1_work_113 : decode cX1_work 113 = .ok (.ineg, 1) := do_116 (rdb (p := 96) (i := 17) ch_cX1_work_96 rfl)
theorem dX1_work_114 : decode cX1_work 114 = .ok (.iastore, 1) := do_79 (rdb (p := 96) (i := 18) ch_cX1_work_96 rfl)
theorem dX1_work_115 : decode cX1_work 115 = .ok (.goto 319, 3) := do_167 (rdb (p := 96) (i := 19) ch_cX1_work_96 rfl) (rdb (p := 96) (i := 20) ch_cX1_work_96 rfl) (rdb (p := 96) (i := 21) ch_cX1_work_96 rfl) (by decide +kernel)
theorem dX1_work_118 : decode cX1_work 118 = .ok (.iload 4, 2) := do_21 (rdb (p := 96) (i := 22) ch_cX1_work_96 rfl) (rdb (p := 96) (i := 23) ch_cX1_work_96 rfl)
theorem dX1_work_120 : decode cX1_work 120 = .ok (.sipush 2063, 3) := do_17 (rdb (p := 96) (i := 24) ch_cX1_work_96 rfl) (rdb (p := 96) (i := 25) ch_cX1_work_96 rfl) (rdb (p := 96) (i := 26) ch_cX1_work_96 rfl) (by decide +kernel)
theorem dX1_work_123 : decode cX1_work 123 = .ok (.if_icmp .ne 50, 3) := do_160 (rdb (p := 96) (i := 27) ch_cX1_work_96 rfl) (rdb (p := 96) (i := 28) ch_cX1_work_96 rfl) (rdb (p := 96) (i := 29) ch_cX1_work_96 rfl) (by decide +kernel)
theorem dX1_work_126 : decode cX1_work 126 = .ok (.iload_n 2, 1) := do_28 (rdb (p := 96) (i := 30) ch_cX1_work_96 rfl)
theorem dX1_work_127 : decode cX1_work 127 = .ok (.iconst 3, 1) := do_6 (rdb (p := 96) (i := 31) ch_cX1_work_96 rfl)
theorem ch_cX1_work_128 : (cX1_work.data.toList.drop 128).take 36 = [161, 0, 45, 132, 2, 254, 42, 180, 0, 13, 28, 4, 100, 42, 180, 0, 13, 28, 4, 100, 46, 153, 0, 12, 42, 180, 0, 13, 28, 46, 167, 0, 11, 42, 180, 0] := by decide +kernel
theorem dX1_work_128 : decode cX1_work 128 = .ok (.if_icmp .lt 45, 3) := do_161 (rdb (p := 128) (i := 0) ch_cX1_work_128 rfl) (rdb (p := 128) (i := 1) ch_cX1_work_128 rfl) (rdb (p := 128) (i := 2) ch_cX1_work_128 rfl) (by decide +kernel)
theorem dX1_work_131 : decode cX1_work 131 = .ok (.iinc 2 (-2), 3) := do_132 (rdb (p := 128) (i := 3) ch_cX1_work_128 rfl) (rdb (p := 128) (i := 4) ch_cX1_work_128 rfl) (rdb (p := 128) (i := 5) ch_cX1_work_128 rfl) (by decide +kernel)
theorem dX1_work_134 : decode cX1_work 134 = .ok (.aload_n 0, 1) := do_42 (rdb (p := 128) (i := 6) ch_cX1_work_128 rfl)
theorem dX1_work_135 : decode cX1_work 135 = .ok (.getfield 13, 3) := do_180 (rdb (p := 128) (i := 7) ch_cX1_work_128 rfl) (rdb (p := 128) (i := 8) ch_cX1_work_128 rfl) (rdb (p := 128) (i := 9) ch_cX1_work_128 rfl) rfl
theorem dX1_work_138 : decode cX1_work 138 = .ok (.iload_n 2, 1) := do_28 (rdb (p := 128) (i := 10) ch_cX1_work_128 rfl)
theorem dX1_work_139 : decode cX1_work 139 = .ok (.iconst 1, 1) := do_4 (rdb (p := 128) (i := 11) ch_cX1_work_128 rfl)
theorem dX1_work_140 : decode cX1_work 140 = .ok (.isub, 1) := do_100 (rdb (p := 128) (i := 12) ch_cX1_work_128 rfl)
theorem dX1_work_141 : decode cX1_work 141 = .ok (.aload_n 0, 1) := do_42 (rdb (p := 128) (i := 13) ch_cX1_work_128 rfl)
theorem dX1_work_142 : decode cX1_work 142 = .ok (.getfield 13, 3) := do_180 (rdb (p := 128) (i := 14) ch_cX1_work_128 rfl) (rdb (p := 128) (i := 15) ch_cX1_work_128 rfl) (rdb (p := 128) (i := 16) ch_cX1_work_128 rfl) rfl
theorem dX1_work_145 : decode cX1_work 145 = .ok (.iload_n 2, 1) := do_28 (rdb (p := 128) (i := 17) ch_cX1_work_128 rfl)
theorem dX1_work_146 : decode cX1_work 146 = .ok (.iconst 1, 1) := do_4 (rdb (p := 128) (i := 18) ch_cX1_work_128 rfl)
theorem dX1_work_147 : decode cX1_work 147 = .ok (.isub, 1) := do_100 (rdb (p := 128) (i := 19) ch_cX1_work_128 rfl)
theorem dX1_work_148 : decode cX1_work 148 = .ok (.iaload, 1) := do_46 (rdb (p := 128) (i := 20) ch_cX1_work_128 rfl)
theorem dX1_work_149 : decode cX1_work 149 = .ok (.ifCond .eq 12, 3) := do_153 (rdb (p := 128) (i := 21) ch_cX1_work_128 rfl) (rdb (p := 128) (i := 22) ch_cX1_work_128 rfl) (rdb (p := 128) (i := 23) ch_cX1_work_128 rfl) (by decide +kernel)
theorem dX1_work_152 : decode cX1_work 152 = .ok (.aload_n 0, 1) := do_42 (rdb (p := 128) (i := 24) ch_cX1_work_128 rfl)
theorem dX1_work_153 : decode cX1_work 153 = .ok (.getfield 13, 3) := do_180 (rdb (p := 128) (i := 25) ch_cX1_work_128 rfl) (rdb (p := 128) (i := 26) ch_cX1_work_128 rfl) (rdb (p := 128) (i := 27) ch_cX1_work_128 rfl) rfl
theorem dX1_work_156 : decode cX1_work 156 = .ok (.iload_n 2, 1) := do_28 (rdb (p := 128) (i := 28) ch_cX1_work_128 rfl)
theorem dX1_work_157 : decode cX1_work 157 = .ok (.iaload, 1) := do_46 (rdb (p := 128) (i := 29) ch_cX1_work_128 rfl)
theorem dX1_work_158 : decode cX1_work 158 = .ok (.goto 11, 3) := do_167 (rdb (p := 128) (i := 30) ch_cX1_work_128 rfl) (rdb (p := 128) (i := 31) ch_cX1_work_128 rfl) (rdb (p := 128) (i := 32) ch_cX1_work_128 rfl) (by decide +kernel)
theorem ch_cX1_work_160 : (cX1_work.data.toList.drop 160).take 36 = [11, 42, 180, 0, 13, 28, 4, 96, 46, 79, 167, 1, 8, 28, 5, 161, 1, 3, 132, 2, 255, 42, 180, 0, 13, 28, 4, 100, 46, 54, 6, 42, 180, 0, 13, 28] := by decide +kernel
theorem dX1_work_161 : decode cX1_work 161 = .ok (.aload_n 0, 1) := do_42 (rdb (p := 160) (i := 1) ch_cX1_work_160 rfl)
theorem dX1_work_162 : decode cX1_work 162 = .ok (.getfield 13, 3) := do_180 (rdb (p := 160) (i := 2) ch_cX1_work_160 rfl) (rdb (p := 160) (i := 3) ch_cX1_work_160 rfl) (rdb (p := 160) (i := 4) ch_cX1_work_160 rfl) rfl
theorem dX1_work_165 : decode cX1_work 165 = .ok (.iload_n 2, 1) := do_28 (rdb (p := 160) (i := 5) ch_cX1_work_160 rfl)
theorem dX1_work_166 : decode cX1_work 166 = .ok (.iconst 1, 1) := do_4 (rdb (p := 160) (i := 6) ch_cX1_work_160 rfl)
theorem dX1_work_167 : decode cX1_work 167 = .ok (.iadd, 1) := do_96 (rdb (p := 160) (i := 7) ch_cX1_work_160 rfl)
theorem dX1_work_168 : decode cX1_work 168 = .ok (.iaload, 1) := do_46 (rdb (p := 160) (i := 8) ch_cX1_work_160 rfl)
theorem dX1_work_169 : decode cX1_work 169 = .ok (.iastore, 1) := do_79 (rdb (p := 160) (i := 9) ch_cX1_work_160 rfl)
theorem dX1_work_170 : decode cX1_work 170 = .ok (.goto 264, 3) := do_167 (rdb (p := 160) (i := 10) ch_cX1_work_160 rfl) (rdb (p := 160) (i := 11) ch_cX1_work_160 rfl) (rdb (p := 160) (i := 12) ch_cX1_work_160 rfl) (by decide +kernel)
theorem dX1_work_173 : decode cX1_work 173 = .ok (.iload_n 2, 1) := do_28 (rdb (p := 160) (i := 13) ch_cX1_work_160 rfl)
theorem dX1_work_174 : decode cX1_work 174 = .ok (.iconst 2, 1) := do_5 (rdb (p := 160) (i := 14) ch_cX1_work_160 rfl)
theorem dX1_work_175 : decode cX1_work 175 = .ok (.if_icmp .lt 259, 3) := do_161 (rdb (p := 160) (i := 15) ch_cX1_work_160 rfl) (rdb (p := 160) (i := 16) ch_cX1_work_160 rfl) (rdb (p := 160) (i := 17) ch_cX1_work_160 rfl) (by decide +kernel)
theorem dX1_work_178 : decode cX1_work 178 = .ok (.iinc 2 (-1), 3) := do_132 (rdb (p := 160) (i := 18) ch_cX1_work_160 rfl) (rdb (p := 160) (i := 19) ch_cX1_work_160 rfl) (rdb (p := 160) (i := 20) ch_cX1_work_160 rfl) (by decide +kernel)
theorem dX1_work_181 : decode cX1_work 181 = .ok (.aload_n 0, 1) := do_42 (rdb (p := 160) (i := 21) ch_cX1_work_160 rfl)
theorem dX1_work_182 : decode cX1_work 182 = .ok (.getfield 13, 3) := do_180 (rdb (p := 160) (i := 22) ch_cX1_work_160 rfl) (rdb (p := 160) (i := 23) ch_cX1_work_160 rfl) (rdb (p := 160) (i := 24) ch_cX1_work_160 rfl) rfl
theorem dX1_work_185 : decode cX1_work 185 = .ok (.iload_n 2, 1) := do_28 (rdb (p := 160) (i := 25) ch_cX1_work_160 rfl)
theorem dX1_work_186 : decode cX1_work 186 = .ok (.iconst 1, 1) := do_4 (rdb (p := 160) (i := 26) ch_cX1_work_160 rfl)
theorem dX1_work_187 : decode cX1_work 187 = .ok (.isub, 1) := do_100 (rdb (p := 160) (i := 27) ch_cX1_work_160 rfl)
theorem dX1_work_188 : decode cX1_work 188 = .ok (.iaload, 1) := do_46 (rdb (p := 160) (i := 28) ch_cX1_work_160 rfl)
theorem dX1_work_189 : decode cX1_work 189 = .ok (.istore 6, 2) := do_54 (rdb (p := 160) (i := 29) ch_cX1_work_160 rfl) (rdb (p := 160) (i := 30) ch_cX1_work_160 rfl)
theorem dX1_work_191 : decode cX1_work 191 = .ok (.aload_n 0, 1) := do_42 (rdb (p := 160) (i := 31) ch_cX1_work_160 rfl)
theorem ch_cX1_work_192 : (cX1_work.data.toList.drop 192).take 36 = [180, 0, 13, 28, 46, 54, 7, 3, 54, 8, 21, 4, 17, 7, 208, 100, 170, 0, 0, 0, 0, 0, 0, 200, 0, 0, 0, 42, 0, 0, 0, 62, 0, 0, 0, 171] := by decide +kernel
theorem dX1_work_192 : decode cX1_work 192 = .ok (.getfield 13, 3) := do_180 (rdb (p := 192) (i := 0) ch_cX1_work_192 rfl) (rdb (p := 192) (i := 1) ch_cX1_work_192 rfl) (rdb (p := 192) (i := 2) ch_cX1_work_192 rfl) rfl
theorem dX1_work_195 : decode cX1_work 195 = .ok (.iload_n 2, 1) := do_28 (rdb (p := 192) (i := 3) ch_cX1_work_192 rfl)
theorem dX1_work_196 : decode cX1_work 196 = .ok (.iaload, 1) := do_46 (rdb (p := 192) (i := 4) ch_cX1_work_192 rfl)
theorem dX1_work_197 : decode cX1_work 197 = .ok (.istore 7, 2) := do_54 (rdb (p := 192) (i := 5) ch_cX1_work_192 rfl) (rdb (p := 192) (i := 6) ch_cX1_work_192 rfl)
theorem dX1_work_199 : decode cX1_work 199 = .ok (.iconst 0, 1) := do_3 (rdb (p := 192) (i := 7) ch_cX1_work_192 rfl)
theorem dX1_work_200 : decode cX1_work 200 = .ok (.istore 8, 2) := do_54 (rdb (p := 192) (i := 8) ch_cX1_work_192 rfl) (rdb (p := 192) (i := 9) ch_cX1_work_192 rfl)
theorem dX1_work_202 : decode cX1_work 202 = .ok (.iload 4, 2) := do_21 (rdb (p := 192) (i := 10) ch_cX1_work_192 rfl) (rdb (p := 192) (i := 11) ch_cX1_work_192 rfl)
theorem dX1_work_204 : decode cX1_work 204 = .ok (.sipush 2000, 3) := do_17 (rdb (p := 192) (i := 12) ch_cX1_work_192 rfl) (rdb (p := 192) (i := 13) ch_cX1_work_192 rfl) (rdb (p := 192) (i := 14) ch_cX1_work_192 rfl) (by decide +kernel)
theorem dX1_work_207 : decode cX1_work 207 = .ok (.isub, 1) := do_100 (rdb (p := 192) (i := 15) ch_cX1_work_192 rfl)
theorem dX1_work_208 : decode cX1_work 208 = .ok (.tableswitch 200 42 62 #[171, 151, 200, 161, 200, 181, 200, 200, 200, 200, 200, 200, 200, 200, 200, 200, 200, 200, 100, 117, 134], 100) := by decide +kernel
theorem ch_cX1_work_288 : (cX1_work.data.toList.drop 288).take 36 = [0, 0, 0, 200, 0, 0, 0, 200, 0, 0, 0, 100, 0, 0, 0, 117, 0, 0, 0, 134, 21, 6, 21, 7, 162, 0, 7, 4, 167, 0, 4, 3, 54, 8, 167, 0] := by decide +kernel
theorem dX1_work_308 : decode cX1_work 308 = .ok (.iload 6, 2) := do_21 (rdb (p := 288) (i := 20) ch_cX1_work_288 rfl) (rdb (p := 288) (i := 21) ch_cX1_work_288 rfl)
theorem dX1_work_310 : decode cX1_work 310 = .ok (.iload 7, 2) := do_21 (rdb (p := 288) (i := 22) ch_cX1_work_288 rfl) (rdb (p := 288) (i := 23) ch_cX1_work_288 rfl)
theorem dX1_work_312 : decode cX1_work 312 = .ok (.if_icmp .ge 7, 3) := do_162 (rdb (p := 288) (i := 24) ch_cX1_work_288 rfl) (rdb (p := 288) (i := 25) ch_cX1_work_288 rfl) (rdb (p := 288) (i := 26) ch_cX1_work_288 rfl) (by decide +kernel)
theorem dX1_work_315 : decode cX1_work 315 = .ok (.iconst 1, 1) := do_4 (rdb (p := 288) (i := 27) ch_cX1_work_288 rfl)
theorem dX1_work_316 : decode cX1_work 316 = .ok (.goto 4, 3) := do_167 (rdb (p := 288) (i := 28) ch_cX1_work_288 rfl) (rdb (p := 288) (i := 29) ch_cX1_work_288 rfl) (rdb (p := 288) (i := 30) ch_cX1_work_288 rfl) (by decide +kernel)
theorem dX1_work_319 : decode cX1_work 319 = .ok (.iconst 0, 1) := do_3 (rdb (p := 288) (i := 31) ch_cX1_work_288 rfl)
theorem ch_cX1_work_320 : (cX1_work.data.toList.drop 320).take 36 = [54, 8, 167, 0, 102, 21, 6, 21, 7, 160, 0, 7, 4, 167, 0, 4, 3, 54, 8, 167, 0, 85, 21, 6, 21, 7, 164, 0, 7, 4, 167, 0, 4, 3, 54, 8] := by decide +kernel
theorem dX1_work_320 : decode cX1_work 320 = .ok (.istore 8, 2) := do_54 (rdb (p := 320) (i := 0) ch_cX1_work_320 rfl) (rdb (p := 320) (i := 1) ch_cX1_work_320 rfl)
theorem dX1_work_322 : decode cX1_work 322 = .ok (.goto 102, 3) := do_167 (rdb (p := 320) (i := 2) ch_cX1_work_320 rfl) (rdb (p := 320) (i := 3) ch_cX1_work_320 rfl) (rdb (p := 320) (i := 4) ch_cX1_work_320 rfl) (by decide +kernel)
theorem dX1_work_325 : decode cX1_work 325 = .ok (.iload 6, 2) := do_21 (rdb (p := 320) (i := 5) ch_cX1_work_320 rfl) (rdb (p := 320) (i := 6) ch_cX1_work_320 rfl)
theorem dX1_work_327 : decode cX1_work 327 = .ok (.iload 7, 2) := do_21 (rdb (p := 320) (i := 7) ch_cX1_work_320 rfl) (rdb (p := 320) (i := 8) ch_cX1_work_320 rfl)
theorem dX1_work_329 : decode cX1_work 329 = .ok (.if_icmp .ne 7, 3) := do_160 (rdb (p := 320) (i := 9) ch_cX1_work_320 rfl) (rdb (p := 320) (i := 10) ch_cX1_work_320 rfl) (rdb (p := 320) (i := 11) ch_cX1_work_320 rfl) (by decide +kernel)
theorem dX1_work_332 : decode cX1_work 332 = .ok (.iconst 1, 1) := do_4 (rdb (p := 320) (i := 12) ch_cX1_work_320 rfl)
theorem dX1_work_333 : decode cX1_work 333 = .ok (.goto 4, 3) := do_167 (rdb (p := 320) (i := 13) ch_cX1_work_320 rfl) (rdb (p := 320) (i := 14) ch_cX1_work_320 rfl) (rdb (p := 320) (i := 15) ch_cX1_work_320 rfl) (by decide +kernel)
theorem dX1_work_336 : decode cX1_work 336 = .ok (.iconst 0, 1) := do_3 (rdb (p := 320) (i := 16) ch_cX1_work_320 rfl)
theorem dX1_work_337 : decode cX1_work 337 = .ok (.istore 8, 2) := do_54 (rdb (p := 320) (i := 17) ch_cX1_work_320 rfl) (rdb (p := 320) (i := 18) ch_cX1_work_320 rfl)
theorem dX1_work_339 : decode cX1_work 339 = .ok (.goto 85, 3) := do_167 (rdb (p := 320) (i := 19) ch_cX1_work_320 rfl) (rdb (p := 320) (i := 20) ch_cX1_work_320 rfl) (rdb (p := 320) (i := 21) ch_cX1_work_320 rfl) (by decide +kernel)
theorem dX1_work_342 : decode cX1_work 342 = .ok (.iload 6, 2) := do_21 (rdb (p := 320) (i := 22) ch_cX1_work_320 rfl) (rdb (p := 320) (i := 23) ch_cX1_work_320 rfl)
theorem dX1_work_344 : decode cX1_work 344 = .ok (.iload 7, 2) := do_21 (rdb (p := 320) (i := 24) ch_cX1_work_320 rfl) (rdb (p := 320) (i := 25) ch_cX1_work_320 rfl)
theorem dX1_work_346 : decode cX1_work 346 = .ok (.if_icmp .le 7, 3) := do_164 (rdb (p := 320) (i := 26) ch_cX1_work_320 rfl) (rdb (p := 320) (i := 27) ch_cX1_work_320 rfl) (rdb (p := 320) (i := 28) ch_cX1_work_320 rfl) (by decide +kernel)
theorem dX1_work_349 : decode cX1_work 349 = .ok (.iconst 1, 1) := do_4 (rdb (p := 320) (i := 29) ch_cX1_work_320 rfl)
theorem dX1_work_350 : decode cX1_work 350 = .ok (.goto 4, 3) := do_167 (rdb (p := 320) (i := 30) ch_cX1_work_320 rfl) (rdb (p := 320) (i := 31) ch_cX1_work_320 rfl) (rdb (p := 320) (i := 32) ch_cX1_work_320 rfl) (by decide +kernel)
theorem ch_cX1_work_352 : (cX1_work.data.toList.drop 352).take 36 = [4, 3, 54, 8, 167, 0, 68, 21, 6, 21, 7, 96, 54, 8, 167, 0, 58, 21, 6, 21, 7, 100, 54, 8, 167, 0, 48, 21, 6, 21, 7, 104, 54, 8, 167, 0] := by decide +kernel
theorem dX1_work_353 : decode cX1_work 353 = .ok (.iconst 0, 1) := do_3 (rdb (p := 352) (i := 1) ch_cX1_work_352 rfl)
theorem dX1_work_354 : decode cX1_work 354 = .ok (.istore 8, 2) := do_54 (rdb (p := 352) (i := 2) ch_cX1_work_352 rfl) (rdb (p := 352) (i := 3) ch_cX1_work_352 rfl)
theorem dX1_work_356 : decode cX1_work 356 = .ok (.goto 68, 3) := do_167 (rdb (p := 352) (i := 4) ch_cX1_work_352 rfl) (rdb (p := 352) (i := 5) ch_cX1_work_352 rfl) (rdb (p := 352) (i := 6) ch_cX1_work_352 rfl) (by decide +kernel)
theorem dX1_work_359 : decode cX1_work 359 = .ok (.iload 6, 2) := do_21 (rdb (p := 352) (i := 7) ch_cX1_work_352 rfl) (rdb (p := 352) (i := 8) ch_cX1_work_352 rfl)
theorem dX1_work_361 : decode cX1_work 361 = .ok (.iload 7, 2) := do_21 (rdb (p := 352) (i := 9) ch_cX1_work_352 rfl) (rdb (p := 352) (i := 10) ch_cX1_work_352 rfl)
theorem dX1_work_363 : decode cX1_work 363 = .ok (.iadd, 1) := do_96 (rdb (p := 352) (i := 11) ch_cX1_work_352 rfl)
theorem dX1_work_364 : decode cX1_work 364 = .ok (.istore 8, 2) := do_54 (rdb (p := 352) (i := 12) ch_cX1_work_352 rfl) (rdb (p := 352) (i := 13) ch_cX1_work_352 rfl)
theorem dX1_work_366 : decode cX1_work 366 = .ok (.goto 58, 3) := do_167 (rdb (p := 352) (i := 14) ch_cX1_work_352 rfl) (rdb (p := 352) (i := 15) ch_cX1_work_352 rfl) (rdb (p := 352) (i := 16) ch_cX1_work_352 rfl) (by decide +kernel)
theorem dX1_work_369 : decode cX1_work 369 = .ok (.iload 6, 2) := do_21 (rdb (p := 352) (i := 17) ch_cX1_work_352 rfl) (rdb (p := 352) (i := 18) ch_cX1_work_352 rfl)
theorem dX1_work_371 : decode cX1_work 371 = .ok (.iload 7, 2) := do_21 (rdb (p := 352) (i := 19) ch_cX1_work_352 rfl) (rdb (p := 352) (i := 20) ch_cX1_work_352 rfl)
theorem dX1_work_373 : decode cX1_work 373 = .ok (.isub, 1) := do_100 (rdb (p := 352) (i := 21) ch_cX1_work_352 rfl)
theorem dX1_work_374 : decode cX1_work 374 = .ok (.istore 8, 2) := do_54 (rdb (p := 352) (i := 22) ch_cX1_work_352 rfl) (rdb (p := 352) (i := 23) ch_cX1_work_352 rfl)
theorem dX1_work_376 : decode cX1_work 376 = .ok (.goto 48, 3) := do_167 (rdb (p := 352) (i := 24) ch_cX1_work_352 rfl) (rdb (p := 352) (i := 25) ch_cX1_work_352 rfl) (rdb (p := 352) (i := 26) ch_cX1_work_352 rfl) (by decide +kernel)
theorem dX1_work_379 : decode cX1_work 379 = .ok (.iload 6, 2) := do_21 (rdb (p := 352) (i := 27) ch_cX1_work_352 rfl) (rdb (p := 352) (i := 28) ch_cX1_work_352 rfl)
theorem dX1_work_381 : decode cX1_work 381 = .ok (.iload 7, 2) := do_21 (rdb (p := 352) (i := 29) ch_cX1_work_352 rfl) (rdb (p := 352) (i := 30) ch_cX1_work_352 rfl)
theorem dX1_work_383 : decode cX1_work 383 = .ok (.imul, 1) := do_104 (rdb (p := 352) (i := 31) ch_cX1_work_352 rfl)
theorem ch_cX1_work_384 : (cX1_work.data.toList.drop 384).take 36 = [54, 8, 167, 0, 38, 21, 7, 154, 0, 7, 3, 167, 0, 8, 21, 6, 21, 7, 108, 54, 8, 167, 0, 19, 21, 7, 154, 0, 7, 3, 167, 0, 8, 21, 6, 21] := by decide +kernel
theorem dX1_work_384 : decode cX1_work 384 = .ok (.istore 8, 2) := do_54 (rdb (p := 384) (i := 0) ch_cX1_work_384 rfl) (rdb (p := 384) (i := 1) ch_cX1_work_384 rfl)
theorem dX1_work_386 : decode cX1_work 386 = .ok (.goto 38, 3) := do_167 (rdb (p := 384) (i := 2) ch_cX1_work_384 rfl) (rdb (p := 384) (i := 3) ch_cX1_work_384 rfl) (rdb (p := 384) (i := 4) ch_cX1_work_384 rfl) (by decide +kernel)
theorem dX1_work_389 : decode cX1_work 389 = .ok (.iload 7, 2) := do_21 (rdb (p := 384) (i := 5) ch_cX1_work_384 rfl) (rdb (p := 384) (i := 6) ch_cX1_work_384 rfl)
theorem dX1_work_391 : decode cX1_work 391 = .ok (.ifCond .ne 7, 3) := do_154 (rdb (p := 384) (i := 7) ch_cX1_work_384 rfl) (rdb (p := 384) (i := 8) ch_cX1_work_384 rfl) (rdb (p := 384) (i := 9) ch_cX1_work_384 rfl) (by decide +kernel)
theorem dX1_work_394 : decode cX1_work 394 = .ok (.iconst 0, 1) := do_3 (rdb (p := 384) (i := 10) ch_cX1_work_384 rfl)
theorem dX1_work_395 : decode cX1_work 395 = .ok (.goto 8, 3) := do_167 (rdb (p := 384) (i := 11) ch_cX1_work_384 rfl) (rdb (p := 384) (i := 12) ch_cX1_work_384 rfl) (rdb (p := 384) (i := 13) ch_cX1_work_384 rfl) (by decide +kernel)
theorem dX1_work_398 : decode cX1_work 398 = .ok (.iload 6, 2) := do_21 (rdb (p := 384) (i := 14) ch_cX1_work_384 rfl) (rdb (p := 384) (i := 15) ch_cX1_work_384 rfl)
theorem dX1_work_400 : decode cX1_work 400 = .ok (.iload 7, 2) := do_21 (rdb (p := 384) (i := 16) ch_cX1_work_384 rfl) (rdb (p := 384) (i := 17) ch_cX1_work_384 rfl)
theorem dX1_work_402 : decode cX1_work 402 = .ok (.idiv, 1) := do_108 (rdb (p := 384) (i := 18) ch_cX1_work_384 rfl)
theorem dX1_work_403 : decode cX1_work 403 = .ok (.istore 8, 2) := do_54 (rdb (p := 384) (i := 19) ch_cX1_work_384 rfl) (rdb (p := 384) (i := 20) ch_cX1_work_384 rfl)
theorem dX1_work_405 : decode cX1_work 405 = .ok (.goto 19, 3) := do_167 (rdb (p := 384) (i := 21) ch_cX1_work_384 rfl) (rdb (p := 384) (i := 22) ch_cX1_work_384 rfl) (rdb (p := 384) (i := 23) ch_cX1_work_384 rfl) (by decide +kernel)
theorem dX1_work_408 : decode cX1_work 408 = .ok (.iload 7, 2) := do_21 (rdb (p := 384) (i := 24) ch_cX1_work_384 rfl) (rdb (p := 384) (i := 25) ch_cX1_work_384 rfl)
theorem dX1_work_410 : decode cX1_work 410 = .ok (.ifCond .ne 7, 3) := do_154 (rdb (p := 384) (i := 26) ch_cX1_work_384 rfl) (rdb (p := 384) (i := 27) ch_cX1_work_384 rfl) (rdb (p := 384) (i := 28) ch_cX1_work_384 rfl) (by decide +kernel)
theorem dX1_work_413 : decode cX1_work 413 = .ok (.iconst 0, 1) := do_3 (rdb (p := 384) (i := 29) ch_cX1_work_384 rfl)
theorem dX1_work_414 : decode cX1_work 414 = .ok (.goto 8, 3) := do_167 (rdb (p := 384) (i := 30) ch_cX1_work_384 rfl) (rdb (p := 384) (i := 31) ch_cX1_work_384 rfl) (rdb (p := 384) (i := 32) ch_cX1_work_384 rfl) (by decide +kernel)
theorem ch_cX1_work_416 : (cX1_work.data.toList.drop 416).take 36 = [8, 21, 6, 21, 7, 112, 54, 8, 42, 180, 0, 13, 28, 4, 100, 21, 8, 79, 132, 3, 1, 167, 254, 79, 28, 158, 0, 12, 42, 180, 0, 13, 3, 46, 167, 0] := by decide +kernel
theorem dX1_work_417 : decode cX1_work 417 = .ok (.iload 6, 2) := do_21 (rdb (p := 416) (i := 1) ch_cX1_work_416 rfl) (rdb (p := 416) (i := 2) ch_cX1_work_416 rfl)
theorem dX1_work_419 : decode cX1_work 419 = .ok (.iload 7, 2) := do_21 (rdb (p := 416) (i := 3) ch_cX1_work_416 rfl) (rdb (p := 416) (i := 4) ch_cX1_work_416 rfl)
theorem dX1_work_421 : decode cX1_work 421 = .ok (.irem, 1) := do_112 (rdb (p := 416) (i := 5) ch_cX1_work_416 rfl)
theorem dX1_work_422 : decode cX1_work 422 = .ok (.istore 8, 2) := do_54 (rdb (p := 416) (i := 6) ch_cX1_work_416 rfl) (rdb (p := 416) (i := 7) ch_cX1_work_416 rfl)
theorem dX1_work_424 : decode cX1_work 424 = .ok (.aload_n 0, 1) := do_42 (rdb (p := 416) (i := 8) ch_cX1_work_416 rfl)
theorem dX1_work_425 : decode cX1_work 425 = .ok (.getfield 13, 3) := do_180 (rdb (p := 416) (i := 9) ch_cX1_work_416 rfl) (rdb (p := 416) (i := 10) ch_cX1_work_416 rfl) (rdb (p := 416) (i := 11) ch_cX1_work_416 rfl) rfl
theorem dX1_work_428 : decode cX1_work 428 = .ok (.iload_n 2, 1) := do_28 (rdb (p := 416) (i := 12) ch_cX1_work_416 rfl)
theorem dX1_work_429 : decode cX1_work 429 = .ok (.iconst 1, 1) := do_4 (rdb (p := 416) (i := 13) ch_cX1_work_416 rfl)
theorem dX1_work_430 : decode cX1_work 430 = .ok (.isub, 1) := do_100 (rdb (p := 416) (i := 14) ch_cX1_work_416 rfl)
theorem dX1_work_431 : decode cX1_work 431 = .ok (.iload 8, 2) := do_21 (rdb (p := 416) (i := 15) ch_cX1_work_416 rfl) (rdb (p := 416) (i := 16) ch_cX1_work_416 rfl)
theorem dX1_work_433 : decode cX1_work 433 = .ok (.iastore, 1) := do_79 (rdb (p := 416) (i := 17) ch_cX1_work_416 rfl)
theorem dX1_work_434 : decode cX1_work 434 = .ok (.iinc 3 1, 3) := do_132 (rdb (p := 416) (i := 18) ch_cX1_work_416 rfl) (rdb (p := 416) (i := 19) ch_cX1_work_416 rfl) (rdb (p := 416) (i := 20) ch_cX1_work_416 rfl) (by decide +kernel)
theorem dX1_work_437 : decode cX1_work 437 = .ok (.goto (-433), 3) := do_167 (rdb (p := 416) (i := 21) ch_cX1_work_416 rfl) (rdb (p := 416) (i := 22) ch_cX1_work_416 rfl) (rdb (p := 416) (i := 23) ch_cX1_work_416 rfl) (by decide +kernel)
theorem dX1_work_440 : decode cX1_work 440 = .ok (.iload_n 2, 1) := do_28 (rdb (p := 416) (i := 24) ch_cX1_work_416 rfl)
theorem dX1_work_441 : decode cX1_work 441 = .ok (.ifCond .le 12, 3) := do_158 (rdb (p := 416) (i := 25) ch_cX1_work_416 rfl) (rdb (p := 416) (i := 26) ch_cX1_work_416 rfl) (rdb (p := 416) (i := 27) ch_cX1_work_416 rfl) (by decide +kernel)
theorem dX1_work_444 : decode cX1_work 444 = .ok (.aload_n 0, 1) := do_42 (rdb (p := 416) (i := 28) ch_cX1_work_416 rfl)
theorem dX1_work_445 : decode cX1_work 445 = .ok (.getfield 13, 3) := do_180 (rdb (p := 416) (i := 29) ch_cX1_work_416 rfl) (rdb (p := 416) (i := 30) ch_cX1_work_416 rfl) (rdb (p := 416) (i := 31) ch_cX1_work_416 rfl) rfl
theorem ch_cX1_work_448 : (cX1_work.data.toList.drop 448).take 36 = [3, 46, 167, 0, 4, 3, 172] := by decide +kernel
theorem dX1_work_448 : decode cX1_work 448 = .ok (.iconst 0, 1) := do_3 (rdb (p := 448) (i := 0) ch_cX1_work_448 rfl)
theorem dX1_work_449 : decode cX1_work 449 = .ok (.iaload, 1) := do_46 (rdb (p := 448) (i := 1) ch_cX1_work_448 rfl)
theorem dX1_work_450 : decode cX1_work 450 = .ok (.goto 4, 3) := do_167 (rdb (p := 448) (i := 2) ch_cX1_work_448 rfl) (rdb (p := 448) (i := 3) ch_cX1_work_448 rfl) (rdb (p := 448) (i := 4) ch_cX1_work_448 rfl) (by decide +kernel)
theorem dX1_work_453 : decode cX1_work 453 = .ok (.iconst 0, 1) := do_3 (rdb (p := 448) (i := 5) ch_cX1_work_448 rfl)
theorem dX1_work_454 : decode cX1_work 454 = .ok (.ireturn, 1) := do_172 (rdb (p := 448) (i := 6) ch_cX1_work_448 rfl)
theorem dX5_add_0 : decode cX5_add 0 = .ok (.aload_n 0, 1) := by decide +kernel
theorem dX5_add_1 : decode cX5_add 1 = .ok (.getfield 7, 3) := by decide +kernel
theorem dX5_add_4 : decode cX5_add 4 = .ok (.ifCond .lt 35, 3) := by decide +kernel
theorem dX5_add_7 : decode cX5_add 7 = .ok (.aload_n 0, 1) := by decide +kernel
theorem dX5_add_8 : decode cX5_add 8 = .ok (.getfield 7, 3) := by decide +kernel
theorem dX5_add_11 : decode cX5_add 11 = .ok (.aload_n 0, 1) := by decide +kernel
theorem dX5_add_12 : decode cX5_add 12 = .ok (.getfield 19, 3) := by decide +kernel
theorem dX5_add_15 : decode cX5_add 15 = .ok (.arraylength, 1) := by decide +kernel
theorem dX5_add_16 : decode cX5_add 16 = .ok (.if_icmp .ge 23, 3) := by decide +kernel
theorem dX5_add_19 : decode cX5_add 19 = .ok (.aload_n 0, 1) := by decide +kernel
theorem dX5_add_20 : decode cX5_add 20 = .ok (.getfield 19, 3) := by decide +kernel
theorem dX5_add_23 : decode cX5_add 23 = .ok (.aload_n 0, 1) := by decide +kernel
theorem dX5_add_24 : decode cX5_add 24 = .ok (.getfield 7, 3) := by decide +kernel
theorem dX5_add_27 : decode cX5_add 27 = .ok (.iload_n 1, 1) := by decide +kernel
theorem dX5_add_28 : decode cX5_add 28 = .ok (.iastore, 1) := by decide +kernel
theorem dX5_add_29 : decode cX5_add 29 = .ok (.aload_n 0, 1) := by decide +kernel
theorem dX5_add_30 : decode cX5_add 30 = .ok (.dup, 1) := by decide +kernel
theorem dX5_add_31 : decode cX5_add 31 = .ok (.getfield 7, 3) := by decide +kernel
theorem dX5_add_34 : decode cX5_add 34 = .ok (.iconst 1, 1) := by decide +kernel
theorem dX5_add_35 : decode cX5_add 35 = .ok (.iadd, 1) := by decide +kernel
theorem dX5_add_36 : decode cX5_add 36 = .ok (.putfield 7, 3) := by decide +kernel
theorem dX5_add_39 : decode cX5_add 39 = .ok (.return_, 1) := by decide +kernel
theorem dX5_clear_0 : decode cX5_clear 0 = .ok (.aload_n 0, 1) := by decide +kernel
theorem dX5_clear_1 : decode cX5_clear 1 = .ok (.iconst 0, 1) := by decide +kernel
theorem dX5_clear_2 : decode cX5_clear 2 = .ok (.putfield 7, 3) := by decide +kernel
theorem dX5_clear_5 : decode cX5_clear 5 = .ok (.return_, 1) := by decide +kernel
theorem dX5_dropLast_0 : decode cX5_dropLast 0 = .ok (.aload_n 0, 1) := by decide +kernel
theorem dX5_dropLast_1 : decode cX5_dropLast 1 = .ok (.getfield 7, 3) := by decide +kernel
theorem dX5_dropLast_4 : decode cX5_dropLast 4 = .ok (.ifCond .le 13, 3) := by decide +kernel
theorem dX5_dropLast_7 : decode cX5_dropLast 7 = .ok (.aload_n 0, 1) := by decide +kernel
theorem dX5_dropLast_8 : decode cX5_dropLast 8 = .ok (.dup, 1) := by decide +kernel
theorem dX5_dropLast_9 : decode cX5_dropLast 9 = .ok (.getfield 7, 3) := by decide +kernel
theorem dX5_dropLast_12 : decode cX5_dropLast 12 = .ok (.iconst 1, 1) := by decide +kernel
theorem dX5_dropLast_13 : decode cX5_dropLast 13 = .ok (.isub, 1) := by decide +kernel
theorem dX5_dropLast_14 : decode cX5_dropLast 14 = .ok (.putfield 7, 3) := by decide +kernel
theorem dX5_dropLast_17 : decode cX5_dropLast 17 = .ok (.return_, 1) := by decide +kernel
theorem dX5_get_0 : decode cX5_get 0 = .ok (.iload_n 1, 1) := by decide +kernel
theorem dX5_get_1 : decode cX5_get 1 = .ok (.ifCond .lt 29, 3) := by decide +kernel
theorem dX5_get_4 : decode cX5_get 4 = .ok (.iload_n 1, 1) := by decide +kernel
theorem dX5_get_5 : decode cX5_get 5 = .ok (.aload_n 0, 1) := by decide +kernel
theorem dX5_get_6 : decode cX5_get 6 = .ok (.getfield 7, 3) := by decide +kernel
theorem dX5_get_9 : decode cX5_get 9 = .ok (.if_icmp .ge 21, 3) := by decide +kernel
theorem dX5_get_12 : decode cX5_get 12 = .ok (.iload_n 1, 1) := by decide +kernel
theorem dX5_get_13 : decode cX5_get 13 = .ok (.aload_n 0, 1) := by decide +kernel
theorem dX5_get_14 : decode cX5_get 14 = .ok (.getfield 19, 3) := by decide +kernel
theorem dX5_get_17 : decode cX5_get 17 = .ok (.arraylength, 1) := by decide +kernel
theorem dX5_get_18 : decode cX5_get 18 = .ok (.if_icmp .ge 12, 3) := by decide +kernel
theorem dX5_get_21 : decode cX5_get 21 = .ok (.aload_n 0, 1) := by decide +kernel
theorem dX5_get_22 : decode cX5_get 22 = .ok (.getfield 19, 3) := by decide +kernel
theorem dX5_get_25 : decode cX5_get 25 = .ok (.iload_n 1, 1) := by decide +kernel
theorem dX5_get_26 : decode cX5_get 26 = .ok (.iaload, 1) := by decide +kernel
theorem dX5_get_27 : decode cX5_get 27 = .ok (.goto 4, 3) := by decide +kernel
theorem dX5_get_30 : decode cX5_get 30 = .ok (.iconst 0, 1) := by decide +kernel
theorem dX5_get_31 : decode cX5_get 31 = .ok (.ireturn, 1) := by decide +kernel
theorem dX5_has_0 : decode cX5_has 0 = .ok (.iload_n 1, 1) := by decide +kernel
theorem dX5_has_1 : decode cX5_has 1 = .ok (.ifCond .lt 15, 3) := by decide +kernel
theorem dX5_has_4 : decode cX5_has 4 = .ok (.iload_n 1, 1) := by decide +kernel
theorem dX5_has_5 : decode cX5_has 5 = .ok (.aload_n 0, 1) := by decide +kernel
theorem dX5_has_6 : decode cX5_has 6 = .ok (.getfield 7, 3) := by decide +kernel
theorem dX5_has_9 : decode cX5_has 9 = .ok (.if_icmp .ge 7, 3) := by decide +kernel
theorem dX5_has_12 : decode cX5_has 12 = .ok (.iconst 1, 1) := by decide +kernel
theorem dX5_has_13 : decode cX5_has 13 = .ok (.goto 4, 3) := by decide +kernel
theorem dX5_has_16 : decode cX5_has 16 = .ok (.iconst 0, 1) := by decide +kernel
theorem dX5_has_17 : decode cX5_has 17 = .ok (.ireturn, 1) := by decide +kernel
theorem dX5_room_0 : decode cX5_room 0 = .ok (.aload_n 0, 1) := by decide +kernel
theorem dX5_room_1 : decode cX5_room 1 = .ok (.getfield 19, 3) := by decide +kernel
theorem dX5_room_4 : decode cX5_room 4 = .ok (.arraylength, 1) := by decide +kernel
theorem dX5_room_5 : decode cX5_room 5 = .ok (.aload_n 0, 1) := by decide +kernel
theorem dX5_room_6 : decode cX5_room 6 = .ok (.getfield 7, 3) := by decide +kernel
theorem dX5_room_9 : decode cX5_room 9 = .ok (.isub, 1) := by decide +kernel
theorem dX5_room_10 : decode cX5_room 10 = .ok (.ireturn, 1) := by decide +kernel
theorem ch_cX5_takeFrom_0 : (cX5_takeFrom.data.toList.drop 0).take 36 = [42, 43, 180, 0, 7, 42, 180, 0, 19, 190, 184, 0, 23, 181, 0, 7, 3, 61, 28, 42, 180, 0, 7, 162, 0, 20, 42, 180, 0, 19, 28, 43, 28, 182, 0, 26] := by decide +kernel
theorem dX5_takeFrom_0 : decode cX5_takeFrom 0 = .ok (.aload_n 0, 1) := do_42 (rdb (p := 0) (i := 0) ch_cX5_takeFrom_0 rfl)
theorem dX5_takeFrom_1 : decode cX5_takeFrom 1 = .ok (.aload_n 1, 1) := do_43 (rdb (p := 0) (i := 1) ch_cX5_takeFrom_0 rfl)
theorem dX5_takeFrom_2 : decode cX5_takeFrom 2 = .ok (.getfield 7, 3) := do_180 (rdb (p := 0) (i := 2) ch_cX5_takeFrom_0 rfl) (rdb (p := 0) (i := 3) ch_cX5_takeFrom_0 rfl) (rdb (p := 0) (i := 4) ch_cX5_takeFrom_0 rfl) rfl
theorem dX5_takeFrom_5 : decode cX5_takeFrom 5 = .ok (.aload_n 0, 1) := do_42 (rdb (p := 0) (i := 5) ch_cX5_takeFrom_0 rfl)
theorem dX5_takeFrom_6 : decode cX5_takeFrom 6 = .ok (.getfield 19, 3) := do_180 (rdb (p := 0) (i := 6) ch_cX5_takeFrom_0 rfl) (rdb (p := 0) (i := 7) ch_cX5_takeFrom_0 rfl) (rdb (p := 0) (i := 8) ch_cX5_takeFrom_0 rfl) rfl
theorem dX5_takeFrom_9 : decode cX5_takeFrom 9 = .ok (.arraylength, 1) := do_190 (rdb (p := 0) (i := 9) ch_cX5_takeFrom_0 rfl)
theorem dX5_takeFrom_10 : decode cX5_takeFrom 10 = .ok (.invokestatic 23, 3) := do_184 (rdb (p := 0) (i := 10) ch_cX5_takeFrom_0 rfl) (rdb (p := 0) (i := 11) ch_cX5_takeFrom_0 rfl) (rdb (p := 0) (i := 12) ch_cX5_takeFrom_0 rfl) rfl
theorem dX5_takeFrom_13 : decode cX5_takeFrom 13 = .ok (.putfield 7, 3) := do_181 (rdb (p := 0) (i := 13) ch_cX5_takeFrom_0 rfl) (rdb (p := 0) (i := 14) ch_cX5_takeFrom_0 rfl) (rdb (p := 0) (i := 15) ch_cX5_takeFrom_0 rfl) rfl
theorem dX5_takeFrom_16 : decode cX5_takeFrom 16 = .ok (.iconst 0, 1) := do_3 (rdb (p := 0) (i := 16) ch_cX5_takeFrom_0 rfl)
theorem dX5_takeFrom_17 : decode cX5_takeFrom 17 = .ok (.istore_n 2, 1) := do_61 (rdb (p := 0) (i := 17) ch_cX5_takeFrom_0 rfl)
theorem dX5_takeFrom_18 : decode cX5_takeFrom 18 = .ok (.iload_n 2, 1) := do_28 (rdb (p := 0) (i := 18) ch_cX5_takeFrom_0 rfl)
theorem dX5_takeFrom_19 : decode cX5_takeFrom 19 = .ok (.aload_n 0, 1) := do_42 (rdb (p := 0) (i := 19) ch_cX5_takeFrom_0 rfl)
theorem dX5_takeFrom_20 : decode cX5_takeFrom 20 = .ok (.getfield 7, 3) := do_180 (rdb (p := 0) (i := 20) ch_cX5_takeFrom_0 rfl) (rdb (p := 0) (i := 21) ch_cX5_takeFrom_0 rfl) (rdb (p := 0) (i := 22) ch_cX5_takeFrom_0 rfl) rfl
theorem dX5_takeFrom_23 : decode cX5_takeFrom 23 = .ok (.if_icmp .ge 20, 3) := do_162 (rdb (p := 0) (i := 23) ch_cX5_takeFrom_0 rfl) (rdb (p := 0) (i := 24) ch_cX5_takeFrom_0 rfl) (rdb (p := 0) (i := 25) ch_cX5_takeFrom_0 rfl) (by decide +kernel)
theorem dX5_takeFrom_26 : decode cX5_takeFrom 26 = .ok (.aload_n 0, 1) := do_42 (rdb (p := 0) (i := 26) ch_cX5_takeFrom_0 rfl)
theorem dX5_takeFrom_27 : decode cX5_takeFrom 27 = .ok (.getfield 19, 3) := do_180 (rdb (p := 0) (i := 27) ch_cX5_takeFrom_0 rfl) (rdb (p := 0) (i := 28) ch_cX5_takeFrom_0 rfl) (rdb (p := 0) (i := 29) ch_cX5_takeFrom_0 rfl) rfl
theorem dX5_takeFrom_30 : decode cX5_takeFrom 30 = .ok (.iload_n 2, 1) := do_28 (rdb (p := 0) (i := 30) ch_cX5_takeFrom_0 rfl)
theorem dX5_takeFrom_31 : decode cX5_takeFrom 31 = .ok (.aload_n 1, 1) := do_43 (rdb (p := 0) (i := 31) ch_cX5_takeFrom_0 rfl)
theorem ch_cX5_takeFrom_32 : (cX5_takeFrom.data.toList.drop 32).take 36 = [28, 182, 0, 26, 79, 132, 2, 1, 167, 255, 234, 177] := by decide +kernel
theorem dX5_takeFrom_32 : decode cX5_takeFrom 32 = .ok (.iload_n 2, 1) := do_28 (rdb (p := 32) (i := 0) ch_cX5_takeFrom_32 rfl)
theorem dX5_takeFrom_33 : decode cX5_takeFrom 33 = .ok (.invokevirtual 26, 3) := do_182 (rdb (p := 32) (i := 1) ch_cX5_takeFrom_32 rfl) (rdb (p := 32) (i := 2) ch_cX5_takeFrom_32 rfl) (rdb (p := 32) (i := 3) ch_cX5_takeFrom_32 rfl) rfl
theorem dX5_takeFrom_36 : decode cX5_takeFrom 36 = .ok (.iastore, 1) := do_79 (rdb (p := 32) (i := 4) ch_cX5_takeFrom_32 rfl)
theorem dX5_takeFrom_37 : decode cX5_takeFrom 37 = .ok (.iinc 2 1, 3) := do_132 (rdb (p := 32) (i := 5) ch_cX5_takeFrom_32 rfl) (rdb (p := 32) (i := 6) ch_cX5_takeFrom_32 rfl) (rdb (p := 32) (i := 7) ch_cX5_takeFrom_32 rfl) (by decide +kernel)
theorem dX5_takeFrom_40 : decode cX5_takeFrom 40 = .ok (.goto (-22), 3) := do_167 (rdb (p := 32) (i := 8) ch_cX5_takeFrom_32 rfl) (rdb (p := 32) (i := 9) ch_cX5_takeFrom_32 rfl) (rdb (p := 32) (i := 10) ch_cX5_takeFrom_32 rfl) (by decide +kernel)
theorem dX5_takeFrom_43 : decode cX5_takeFrom 43 = .ok (.return_, 1) := do_177 (rdb (p := 32) (i := 11) ch_cX5_takeFrom_32 rfl)
end
section
def SP_X5_room (b : Nat) (w : Nat) (Mz : mM) (r_ : Int32) : Prop := ∃ z1_ : Int32, (z1_.toInt = ((rl w : Nat) : Int) ∧ rl w ≤ 48) ∧ ∃ z3_ : Int32, (z3_ = Mz.1 (5, b, w) 1) ∧ ∃ z5_ : Int32, (z5_ = z1_ - z3_) ∧ r_ = z5_
set_option maxHeartbeats 4000000 in
set_option maxRecDepth 100000 in
theorem c_X5_room (l : Launch) (G : va_G) (cy : Nat → ClassId) (ad : rf → Nat) (d : Nat) (b : Nat) (w : Nat) (Mz : mM) (hIz : Inv Mz) (hv : vRw b w) : WP CC l G cy ad yX5_room cX5_room 1 (some .int) d 0 [(0, vR (5, b, w))] [] Mz (fun r M' => Mz = M' ∧ (True) ∧ SP_X5_room b w Mz r) := by
  refine w_aload_n dX5_room_0 rfl 0 rfl ?_
  refine w_getR (c' := (33, b, w)) fl_RX5_19 rfl rfl (ic_5 hv) dX5_room_1 rfl ?_
  refine w_alen (by decide) rfl rfl (ic_33 hv) dX5_room_4 rfl ?_
  refine w_rl (fun z1_ h2_ => ?_)
  refine w_aload_n dX5_room_5 rfl 0 rfl ?_
  refine w_getI fl_RX5_7 rfl rfl (ic_5 hv) dX5_room_6 (fun z3_ e4_ => ?_)
  refine w_isub dX5_room_9 (fun z5_ h6_ => ?_)
  exact w_iret rfl dX5_room_10 ⟨rfl, trivial, ⟨z1_, h2_, z3_, e4_, z5_, h6_, rfl⟩⟩
def SP_X5_has (b : Nat) (w : Nat) (v : Int32) (Mz : mM) (r_ : Int32) : Prop := (((v.toInt < 0) ∧ r_ = 0) ∨ ((0 ≤ v.toInt) ∧ ∃ z2_ : Int32, (z2_ = Mz.1 (5, b, w) 1) ∧ (((z2_.toInt ≤ v.toInt) ∧ r_ = 0) ∨ ((v.toInt < z2_.toInt) ∧ r_ = 1))))
set_option maxHeartbeats 4000000 in
set_option maxRecDepth 100000 in
theorem c_X5_has (l : Launch) (G : va_G) (cy : Nat → ClassId) (ad : rf → Nat) (d : Nat) (b : Nat) (w : Nat) (v : Int32) (Mz : mM) (hIz : Inv Mz) (hv : vRw b w) : WP CC l G cy ad yX5_has cX5_has 2 (some .boolean) d 0 [(0, vR (5, b, w)), (1, vI v)] [] Mz (fun r M' => Mz = M' ∧ ((0 ≤ r.toInt ∧ r.toInt ≤ 1)) ∧ SP_X5_has b w v Mz r) := by
  refine w_iload_n dX5_has_0 rfl 1 rfl ?_
  refine w_if_lt (tgt := 16) dX5_has_1 (by decide) (rfl : v.toInt = v.toInt) (fun h1_ => ?_) (fun h1_ => ?_)
  · refine w_iconst (v := 0) dX5_has_16 (by decide) ?_
    exact w_zret rfl dX5_has_17 ⟨by decide, by decide⟩ ⟨rfl, ⟨by decide, by decide⟩, (Or.inl ⟨h1_, rfl⟩)⟩
  · refine w_iload_n dX5_has_4 rfl 1 rfl ?_
    refine w_aload_n dX5_has_5 rfl 0 rfl ?_
    refine w_getI fl_RX5_7 rfl rfl (ic_5 hv) dX5_has_6 (fun z2_ e3_ => ?_)
    refine w_icmp_ge (tgt := 16) dX5_has_9 (by decide) (rfl : v.toInt = v.toInt) (rfl : z2_.toInt = z2_.toInt) (fun h4_ => ?_) (fun h4_ => ?_)
    · refine w_iconst (v := 0) dX5_has_16 (by decide) ?_
      exact w_zret rfl dX5_has_17 ⟨by decide, by decide⟩ ⟨rfl, ⟨by decide, by decide⟩, (Or.inr ⟨h1_, z2_, e3_, (Or.inl ⟨h4_, rfl⟩)⟩)⟩
    · refine w_iconst (v := 1) dX5_has_12 (by decide) ?_
      refine w_goto (tgt := 17) dX5_has_13 (by decide) ?_
      exact w_zret rfl dX5_has_17 ⟨by decide, by decide⟩ ⟨rfl, ⟨by decide, by decide⟩, (Or.inr ⟨h1_, z2_, e3_, (Or.inr ⟨h4_, rfl⟩)⟩)⟩
def SP_X5_get (b : Nat) (w : Nat) (v : Int32) (Mz : mM) (r_ : Int32) : Prop := (((v.toInt < 0) ∧ r_ = 0) ∨ ((0 ≤ v.toInt) ∧ ∃ z2_ : Int32, (z2_ = Mz.1 (5, b, w) 1) ∧ (((z2_.toInt ≤ v.toInt) ∧ r_ = 0) ∨ ((v.toInt < z2_.toInt) ∧ ∃ z5_ : Int32, (z5_.toInt = ((rl w : Nat) : Int) ∧ rl w ≤ 48) ∧ (((z5_.toInt ≤ v.toInt) ∧ r_ = 0) ∨ ((v.toInt < z5_.toInt) ∧ ∃ j10_ : Nat, ((j10_ : Int) = v.toInt) ∧ ∃ z8_ : Int32, (z8_ = Mz.1 (33, b, w) j10_) ∧ r_ = z8_))))))
theorem lf_c_X5_get_0 (Mz : mM) (b : Nat) (w : Nat) (v : Int32) (z2_ : Int32) (z5_ : Int32) (hv : vRw b w) (h1_ : 0 ≤ v.toInt) (e3_ : z2_ = Mz.1 (5, b, w) 1) (h4_ : v.toInt < z2_.toInt) (h6_ : z5_.toInt = ((rl w : Nat) : Int) ∧ rl w ≤ 48) (h7_ : v.toInt < z5_.toInt) : 0 ≤ v.toInt ∧ v.toInt < ((rl w : Nat) : Int) := by have r_v := rngI v; have r_z2_ := rngI z2_; have r_z5_ := rngI z5_; subst e3_; omega
set_option maxHeartbeats 4000000 in
set_option maxRecDepth 100000 in
theorem c_X5_get (l : Launch) (G : va_G) (cy : Nat → ClassId) (ad : rf → Nat) (d : Nat) (b : Nat) (w : Nat) (v : Int32) (Mz : mM) (hIz : Inv Mz) (hv : vRw b w) : WP CC l G cy ad yX5_get cX5_get 2 (some .int) d 0 [(0, vR (5, b, w)), (1, vI v)] [] Mz (fun r M' => Mz = M' ∧ (True) ∧ SP_X5_get b w v Mz r) := by
  refine w_iload_n dX5_get_0 rfl 1 rfl ?_
  refine w_if_lt (tgt := 30) dX5_get_1 (by decide) (rfl : v.toInt = v.toInt) (fun h1_ => ?_) (fun h1_ => ?_)
  · refine w_iconst (v := 0) dX5_get_30 (by decide) ?_
    exact w_iret rfl dX5_get_31 ⟨rfl, trivial, (Or.inl ⟨h1_, rfl⟩)⟩
  · refine w_iload_n dX5_get_4 rfl 1 rfl ?_
    refine w_aload_n dX5_get_5 rfl 0 rfl ?_
    refine w_getI fl_RX5_7 rfl rfl (ic_5 hv) dX5_get_6 (fun z2_ e3_ => ?_)
    refine w_icmp_ge (tgt := 30) dX5_get_9 (by decide) (rfl : v.toInt = v.toInt) (rfl : z2_.toInt = z2_.toInt) (fun h4_ => ?_) (fun h4_ => ?_)
    · refine w_iconst (v := 0) dX5_get_30 (by decide) ?_
      exact w_iret rfl dX5_get_31 ⟨rfl, trivial, (Or.inr ⟨h1_, z2_, e3_, (Or.inl ⟨h4_, rfl⟩)⟩)⟩
    · refine w_iload_n dX5_get_12 rfl 1 rfl ?_
      refine w_aload_n dX5_get_13 rfl 0 rfl ?_
      refine w_getR (c' := (33, b, w)) fl_RX5_19 rfl rfl (ic_5 hv) dX5_get_14 rfl ?_
      refine w_alen (by decide) rfl rfl (ic_33 hv) dX5_get_17 rfl ?_
      refine w_rl (fun z5_ h6_ => ?_)
      refine w_icmp_ge (tgt := 30) dX5_get_18 (by decide) (rfl : v.toInt = v.toInt) (rfl : z5_.toInt = z5_.toInt) (fun h7_ => ?_) (fun h7_ => ?_)
      · refine w_iconst (v := 0) dX5_get_30 (by decide) ?_
        exact w_iret rfl dX5_get_31 ⟨rfl, trivial, (Or.inr ⟨h1_, z2_, e3_, (Or.inr ⟨h4_, z5_, h6_, (Or.inl ⟨h7_, rfl⟩)⟩)⟩)⟩
      · refine w_aload_n dX5_get_21 rfl 0 rfl ?_
        refine w_getR (c' := (33, b, w)) fl_RX5_19 rfl rfl (ic_5 hv) dX5_get_22 rfl ?_
        refine w_iload_n dX5_get_25 rfl 1 rfl ?_
        refine w_iald rfl rfl (ic_33 hv) (rfl : v.toInt = v.toInt) (lf_c_X5_get_0 Mz b w v z2_ z5_ hv h1_ e3_ h4_ h6_ h7_ ) dX5_get_26 (fun j10_ h11_ z8_ e9_ => ?_)
        refine w_goto (tgt := 31) dX5_get_27 (by decide) ?_
        exact w_iret rfl dX5_get_31 ⟨rfl, trivial, (Or.inr ⟨h1_, z2_, e3_, (Or.inr ⟨h4_, z5_, h6_, (Or.inr ⟨h7_, j10_, h11_, z8_, e9_, rfl⟩)⟩)⟩)⟩
def S_c_X5_add (b : Nat) (w : Nat) : rf → Nat → Prop := fun c k => (c.1 = 33 ∧ c.2.1 = b ∧ c.2.2 = w) ∨ (c.1 = 5 ∧ c.2.1 = b ∧ c.2.2 = w ∧ k = 1) ∨ False
def SP_X5_add (b : Nat) (w : Nat) (v : Int32) (Mz : mM) (M_ : mM) : Prop := ∃ z1_ : Int32, (z1_ = Mz.1 (5, b, w) 1) ∧ (((z1_.toInt < 0) ∧ M_ = Mz) ∨ ((0 ≤ z1_.toInt) ∧ ∃ z6_ : Int32, (z6_.toInt = ((rl w : Nat) : Int) ∧ rl w ≤ 48) ∧ (((z6_.toInt ≤ z1_.toInt) ∧ M_ = Mz) ∨ ((z1_.toInt < z6_.toInt) ∧ ∃ j13_ : Nat, ((j13_ : Int) = z1_.toInt) ∧ ∃ M11_ : mM, (M11_ = up Mz (33, b, w) j13_ v) ∧ ∃ z17_ : Int32, (z17_ = M11_.1 (5, b, w) 1) ∧ ∃ z19_ : Int32, (z19_ = z17_ + (1 : Int32)) ∧ ∃ M21_ : mM, (M21_ = up M11_ (5, b, w) 1 z19_) ∧ M_ = M21_))))
theorem lf_c_X5_add_0 (Mz : mM) (b : Nat) (w : Nat) (z1_ : Int32) (z6_ : Int32) (hv : vRw b w) (e2_ : z1_ = Mz.1 (5, b, w) 1) (h3_ : 0 ≤ z1_.toInt) (h7_ : z6_.toInt = ((rl w : Nat) : Int) ∧ rl w ≤ 48) (h8_ : z1_.toInt < z6_.toInt) : 0 ≤ z1_.toInt ∧ z1_.toInt < ((rl w : Nat) : Int) := by have r_z1_ := rngI z1_; have r_z6_ := rngI z6_; subst e2_; omega
set_option maxHeartbeats 4000000 in
set_option maxRecDepth 100000 in
theorem c_X5_add (l : Launch) (G : va_G) (cy : Nat → ClassId) (ad : rf → Nat) (d : Nat) (b : Nat) (w : Nat) (v : Int32) (Mz : mM) (hIz : Inv Mz) (hv : vRw b w) : WP CC l G cy ad yX5_add cX5_add 2 none d 0 [(0, vR (5, b, w)), (1, vI v)] [] Mz (fun r M' => Inv M' ∧ FR (S_c_X5_add b w) Mz M' ∧ (True) ∧ SP_X5_add b w v Mz M') := by
  have hFz : FR (S_c_X5_add b w) Mz Mz := FR.self
  refine w_aload_n dX5_add_0 rfl 0 rfl ?_
  refine w_getI fl_RX5_7 rfl rfl (ic_5 hv) dX5_add_1 (fun z1_ e2_ => ?_)
  refine w_if_lt (tgt := 39) dX5_add_4 (by decide) (rfl : z1_.toInt = z1_.toInt) (fun h3_ => ?_) (fun h3_ => ?_)
  · exact w_vret rfl dX5_add_39 ⟨hIz, hFz, trivial, ⟨z1_, e2_, (Or.inl ⟨h3_, rfl⟩)⟩⟩
  · refine w_aload_n dX5_add_7 rfl 0 rfl ?_
    refine w_getI fl_RX5_7 rfl rfl (ic_5 hv) dX5_add_8 (fun z4_ e5_ => ?_)
    obtain rfl : z1_ = z4_ := e2_.trans e5_.symm
    refine w_aload_n dX5_add_11 rfl 0 rfl ?_
    refine w_getR (c' := (33, b, w)) fl_RX5_19 rfl rfl (ic_5 hv) dX5_add_12 rfl ?_
    refine w_alen (by decide) rfl rfl (ic_33 hv) dX5_add_15 rfl ?_
    refine w_rl (fun z6_ h7_ => ?_)
    refine w_icmp_ge (tgt := 39) dX5_add_16 (by decide) (rfl : z1_.toInt = z1_.toInt) (rfl : z6_.toInt = z6_.toInt) (fun h8_ => ?_) (fun h8_ => ?_)
    · exact w_vret rfl dX5_add_39 ⟨hIz, hFz, trivial, ⟨z1_, e2_, (Or.inr ⟨h3_, z6_, h7_, (Or.inl ⟨h8_, rfl⟩)⟩)⟩⟩
    · refine w_aload_n dX5_add_19 rfl 0 rfl ?_
      refine w_getR (c' := (33, b, w)) fl_RX5_19 rfl rfl (ic_5 hv) dX5_add_20 rfl ?_
      refine w_aload_n dX5_add_23 rfl 0 rfl ?_
      refine w_getI fl_RX5_7 rfl rfl (ic_5 hv) dX5_add_24 (fun z9_ e10_ => ?_)
      obtain rfl : z1_ = z9_ := e2_.trans e10_.symm
      refine w_iload_n dX5_add_27 rfl 1 rfl ?_
      refine w_iast CC_nd rfl rfl (ic_33 hv) (rfl : z1_.toInt = z1_.toInt) (lf_c_X5_add_0 Mz b w z1_ z6_ hv e2_ h3_ h7_ h8_ ) dX5_add_28 (fun j13_ h14_ M11_ hM12_ => ?_)
      have hI15_ := hIz.put hM12_ trivial
      have hF16_ := hFz.put hM12_ (Or.inl ⟨rfl, rfl, rfl⟩)
      refine w_aload_n dX5_add_29 rfl 0 rfl ?_
      refine w_dup dX5_add_30 rfl ?_
      refine w_getI fl_RX5_7 rfl rfl (ic_5 hv) dX5_add_31 (fun z17_ e18_ => ?_)
      refine w_iconst (v := 1) dX5_add_34 (by decide) ?_
      refine w_iadd dX5_add_35 (fun z19_ h20_ => ?_)
      refine w_putI CC_nd fl_RX5_7 rfl rfl (ic_5 hv) dX5_add_36 (fun M21_ hM22_ => ?_)
      have hI23_ := hI15_.put hM22_ trivial
      have hF24_ := hF16_.put hM22_ (Or.inr (Or.inl ⟨rfl, rfl, rfl, rfl⟩))
      exact w_vret rfl dX5_add_39 ⟨hI23_, hF24_, trivial, ⟨z1_, e2_, (Or.inr ⟨h3_, z6_, h7_, (Or.inr ⟨h8_, j13_, h14_, M11_, hM12_, z17_, e18_, z19_, h20_, M21_, hM22_, rfl⟩)⟩)⟩⟩
def S_c_X5_dropLast (b : Nat) (w : Nat) : rf → Nat → Prop := fun c k => (c.1 = 5 ∧ c.2.1 = b ∧ c.2.2 = w ∧ k = 1) ∨ False
def SP_X5_dropLast (b : Nat) (w : Nat) (Mz : mM) (M_ : mM) : Prop := ∃ z1_ : Int32, (z1_ = Mz.1 (5, b, w) 1) ∧ (((z1_.toInt ≤ 0) ∧ M_ = Mz) ∨ ((0 < z1_.toInt) ∧ ∃ z6_ : Int32, (z6_.toInt = z1_.toInt - 1) ∧ ∃ M8_ : mM, (M8_ = up Mz (5, b, w) 1 z6_) ∧ M_ = M8_))
theorem lf_c_X5_dropLast_0 (z1_ : Int32) (h3_ : 0 < z1_.toInt) : -2147483648 ≤ z1_.toInt - 1 ∧ z1_.toInt - 1 < 2147483648 := by have r_z1_ := rngI z1_; omega
set_option maxHeartbeats 4000000 in
set_option maxRecDepth 100000 in
theorem c_X5_dropLast (l : Launch) (G : va_G) (cy : Nat → ClassId) (ad : rf → Nat) (d : Nat) (b : Nat) (w : Nat) (Mz : mM) (hIz : Inv Mz) (hv : vRw b w) : WP CC l G cy ad yX5_dropLast cX5_dropLast 1 none d 0 [(0, vR (5, b, w))] [] Mz (fun r M' => Inv M' ∧ FR (S_c_X5_dropLast b w) Mz M' ∧ (True) ∧ SP_X5_dropLast b w Mz M') := by
  have hFz : FR (S_c_X5_dropLast b w) Mz Mz := FR.self
  refine w_aload_n dX5_dropLast_0 rfl 0 rfl ?_
  refine w_getI fl_RX5_7 rfl rfl (ic_5 hv) dX5_dropLast_1 (fun z1_ e2_ => ?_)
  refine w_if_le (tgt := 17) dX5_dropLast_4 (by decide) (rfl : z1_.toInt = z1_.toInt) (fun h3_ => ?_) (fun h3_ => ?_)
  · exact w_vret rfl dX5_dropLast_17 ⟨hIz, hFz, trivial, ⟨z1_, e2_, (Or.inl ⟨h3_, rfl⟩)⟩⟩
  · refine w_aload_n dX5_dropLast_7 rfl 0 rfl ?_
    refine w_dup dX5_dropLast_8 rfl ?_
    refine w_getI fl_RX5_7 rfl rfl (ic_5 hv) dX5_dropLast_9 (fun z4_ e5_ => ?_)
    obtain rfl : z1_ = z4_ := e2_.trans e5_.symm
    refine w_iconst (v := 1) dX5_dropLast_12 (by decide) ?_
    refine w_isubB dX5_dropLast_13 (rfl : z1_.toInt = z1_.toInt) li_1 (lf_c_X5_dropLast_0 z1_ h3_ ) (fun z6_ h7_ => ?_)
    refine w_putI CC_nd fl_RX5_7 rfl rfl (ic_5 hv) dX5_dropLast_14 (fun M8_ hM9_ => ?_)
    have hI10_ := hIz.put hM9_ trivial
    have hF11_ := hFz.put hM9_ (Or.inl ⟨rfl, rfl, rfl, rfl⟩)
    exact w_vret rfl dX5_dropLast_17 ⟨hI10_, hF11_, trivial, ⟨z1_, e2_, (Or.inr ⟨h3_, z6_, h7_, M8_, hM9_, rfl⟩)⟩⟩
def S_c_X5_clear (b : Nat) (w : Nat) : rf → Nat → Prop := fun c k => (c.1 = 5 ∧ c.2.1 = b ∧ c.2.2 = w ∧ k = 1) ∨ False
def SP_X5_clear (b : Nat) (w : Nat) (Mz : mM) (M_ : mM) : Prop := ∃ M1_ : mM, (M1_ = up Mz (5, b, w) 1 0) ∧ M_ = M1_
set_option maxHeartbeats 4000000 in
set_option maxRecDepth 100000 in
theorem c_X5_clear (l : Launch) (G : va_G) (cy : Nat → ClassId) (ad : rf → Nat) (d : Nat) (b : Nat) (w : Nat) (Mz : mM) (hIz : Inv Mz) (hv : vRw b w) : WP CC l G cy ad yX5_clear cX5_clear 1 none d 0 [(0, vR (5, b, w))] [] Mz (fun r M' => Inv M' ∧ FR (S_c_X5_clear b w) Mz M' ∧ (True) ∧ SP_X5_clear b w Mz M') := by
  have hFz : FR (S_c_X5_clear b w) Mz Mz := FR.self
  refine w_aload_n dX5_clear_0 rfl 0 rfl ?_
  refine w_iconst (v := 0) dX5_clear_1 (by decide) ?_
  refine w_putI CC_nd fl_RX5_7 rfl rfl (ic_5 hv) dX5_clear_2 (fun M1_ hM2_ => ?_)
  have hI3_ := hIz.put hM2_ trivial
  have hF4_ := hFz.put hM2_ (Or.inl ⟨rfl, rfl, rfl, rfl⟩)
  exact w_vret rfl dX5_clear_5 ⟨hI3_, hF4_, trivial, ⟨M1_, hM2_, rfl⟩⟩
def S_c_X5_takeFrom (b : Nat) (w : Nat) (b2 : Nat) (w2 : Nat) : rf → Nat → Prop := fun c k => (c.1 = 5 ∧ c.2.1 = b ∧ c.2.2 = w ∧ k = 1) ∨ (c.1 = 33 ∧ c.2.1 = b ∧ c.2.2 = w) ∨ False
def ST_X5_takeFrom_18 (b : Nat) (w : Nat) (b2 : Nat) (w2 : Nat) (Mz : mM) (v2_18 : Int32) (M_18 : mM) (v2_18y : Int32) (M_18y : mM) : Prop := (0 ≤ v2_18.toInt) ∧ (Inv M_18) ∧ (FR (S_c_X5_takeFrom b w b2 w2) Mz M_18) ∧ ∃ z13_ : Int32, (z13_ = M_18.1 (5, b, w) 1) ∧ (z13_.toInt ≤ ((rl w : Nat) : Int)) ∧ (v2_18.toInt < z13_.toInt) ∧ ∃ r17_ : Int32, (SP_X5_get b2 w2 v2_18 M_18 r17_) ∧ ∃ j24_ : Nat, ((j24_ : Int) = v2_18.toInt) ∧ ∃ M22_ : mM, (M22_ = up M_18 (33, b, w) j24_ r17_) ∧ ∃ z29_ : Int32, (z29_.toInt = v2_18.toInt + 1) ∧ v2_18y = z29_ ∧ M_18y = M22_
def SP_X5_takeFrom (b : Nat) (w : Nat) (b2 : Nat) (w2 : Nat) (Mz : mM) (M_ : mM) : Prop := ∃ z1_ : Int32, (z1_ = Mz.1 (5, b2, w2) 1) ∧ ∃ z3_ : Int32, (z3_.toInt = ((rl w : Nat) : Int) ∧ rl w ≤ 48) ∧ ∃ z5_ : Int32, ((z5_.toInt = z1_.toInt ∧ z1_.toInt ≤ z3_.toInt) ∨ (z5_.toInt = z3_.toInt ∧ z3_.toInt ≤ z1_.toInt)) ∧ ∃ M7_ : mM, (M7_ = up Mz (5, b, w) 1 z5_) ∧ ∃ v2_18 : Int32, (0 ≤ v2_18.toInt) ∧ ∃ M_18 : mM, (RCH (fun x_ y_ => ST_X5_takeFrom_18 b w b2 w2 Mz x_.1 x_.2 y_.1 y_.2) ((0 : Int32), M7_) (v2_18, M_18)) ∧ (Inv M_18) ∧ (FR (S_c_X5_takeFrom b w b2 w2) Mz M_18) ∧ ∃ z13_ : Int32, (z13_ = M_18.1 (5, b, w) 1) ∧ (z13_.toInt ≤ ((rl w : Nat) : Int)) ∧ (z13_.toInt ≤ v2_18.toInt) ∧ M_ = M_18
theorem lf_c_X5_takeFrom_0 (M7_ : mM) (Mz : mM) (b : Nat) (w : Nat) (b2 : Nat) (w2 : Nat) (z1_ : Int32) (z3_ : Int32) (z5_ : Int32) (hv : vRw b w) (hv2 : vRw b2 w2) (e2_ : z1_ = Mz.1 (5, b2, w2) 1) (h4_ : z3_.toInt = ((rl w : Nat) : Int) ∧ rl w ≤ 48) (h6_ : (z5_.toInt = z1_.toInt ∧ z1_.toInt ≤ z3_.toInt) ∨ (z5_.toInt = z3_.toInt ∧ z3_.toInt ≤ z1_.toInt)) (hM8_ : M7_ = up Mz (5, b, w) 1 z5_) : z5_.toInt ≤ ((rl w : Nat) : Int) := by have r_z1_ := rngI z1_; have r_z3_ := rngI z3_; have r_z5_ := rngI z5_; omega
theorem lf_c_X5_takeFrom_1 (M7_ : mM) (M_18 : mM) (Mz : mM) (b : Nat) (w : Nat) (b2 : Nat) (w2 : Nat) (z1_ : Int32) (z3_ : Int32) (z5_ : Int32) (v2_18 : Int32) (z13_ : Int32) (hv : vRw b w) (hv2 : vRw b2 w2) (e2_ : z1_ = Mz.1 (5, b2, w2) 1) (h4_ : z3_.toInt = ((rl w : Nat) : Int) ∧ rl w ≤ 48) (h6_ : (z5_.toInt = z1_.toInt ∧ z1_.toInt ≤ z3_.toInt) ∨ (z5_.toInt = z3_.toInt ∧ z3_.toInt ≤ z1_.toInt)) (hM8_ : M7_ = up Mz (5, b, w) 1 z5_) (kf11_ : (M7_.1 (5, b, w) 1).toInt ≤ ((rl w : Nat) : Int)) (hv0_18 : 0 ≤ v2_18.toInt) (kv0_18 : (M_18.1 (5, b, w) 1).toInt ≤ ((rl w : Nat) : Int)) (e14_ : z13_ = M_18.1 (5, b, w) 1) (h15_ : z13_.toInt ≤ ((rl w : Nat) : Int)) (h16_ : v2_18.toInt < z13_.toInt) : 0 ≤ v2_18.toInt ∧ v2_18.toInt < ((rl w : Nat) : Int) := by have r_z1_ := rngI z1_; have r_z3_ := rngI z3_; have r_z5_ := rngI z5_; have r_v2_18 := rngI v2_18; have r_z13_ := rngI z13_; subst e2_; subst e14_; omega
theorem lf_c_X5_takeFrom_2 (v2_18 : Int32) (z13_ : Int32) (hv0_18 : 0 ≤ v2_18.toInt) (h16_ : v2_18.toInt < z13_.toInt) : -2147483648 ≤ v2_18.toInt + 1 ∧ v2_18.toInt + 1 < 2147483648 := by have r_z13_ := rngI z13_; omega
theorem lf_c_X5_takeFrom_3 (v2_18 : Int32) (z29_ : Int32) (hv0_18 : 0 ≤ v2_18.toInt) (h30_ : z29_.toInt = v2_18.toInt + 1) : 0 ≤ z29_.toInt := by omega
theorem lf_c_X5_takeFrom_4 (v2_18 : Int32) (z29_ : Int32) (h30_ : z29_.toInt = v2_18.toInt + 1) : (2147483648 - z29_.toInt).toNat < (2147483648 - v2_18.toInt).toNat := by have r_z29_ := rngI z29_; omega
theorem lf_c_X5_takeFrom_5 : 0 ≤ (0 : Int32).toInt := by have q0 := li_0; omega
set_option maxHeartbeats 4000000 in
set_option maxRecDepth 100000 in
theorem c_X5_takeFrom (l : Launch) (G : va_G) (cy : Nat → ClassId) (ad : rf → Nat) (d : Nat) (b : Nat) (w : Nat) (b2 : Nat) (w2 : Nat) (Mz : mM) (hIz : Inv Mz) (hv : vRw b w) (hv2 : vRw b2 w2) : WP CC l G cy ad yX5_takeFrom cX5_takeFrom 3 none (d + 1) 0 [(0, vR (5, b, w)), (1, vR (5, b2, w2))] [] Mz (fun r M' => Inv M' ∧ FR (S_c_X5_takeFrom b w b2 w2) Mz M' ∧ (True) ∧ SP_X5_takeFrom b w b2 w2 Mz M') := by
  have hFz : FR (S_c_X5_takeFrom b w b2 w2) Mz Mz := FR.self
  refine w_aload_n dX5_takeFrom_0 rfl 0 rfl ?_
  refine w_aload_n dX5_takeFrom_1 rfl 1 rfl ?_
  refine w_getI fl_RX5_7 rfl rfl (ic_5 hv2) dX5_takeFrom_2 (fun z1_ e2_ => ?_)
  refine w_aload_n dX5_takeFrom_5 rfl 0 rfl ?_
  refine w_getR (c' := (33, b, w)) fl_RX5_19 rfl rfl (ic_5 hv) dX5_takeFrom_6 rfl ?_
  refine w_alen (by decide) rfl rfl (ic_33 hv) dX5_takeFrom_9 rfl ?_
  refine w_rl (fun z3_ h4_ => ?_)
  refine w_min m_1146 m_770 m_86 m_771 (rfl : z1_.toInt = z1_.toInt) (rfl : z3_.toInt = z3_.toInt) (Nat.le_of_ble_eq_true rfl) (by omega) dX5_takeFrom_10 (fun z5_ h6_ => ?_)
  refine w_putI CC_nd fl_RX5_7 rfl rfl (ic_5 hv) dX5_takeFrom_13 (fun M7_ hM8_ => ?_)
  have hI9_ := hIz.put hM8_ trivial
  have hF10_ := hFz.put hM8_ (Or.inl ⟨rfl, rfl, rfl, rfl⟩)
  have kf11_ : (M7_.1 (5, b, w) 1).toInt ≤ ((rl w : Nat) : Int) := by rw [hM8_, up_same]; exact (lf_c_X5_takeFrom_0 M7_ Mz b w b2 w2 z1_ z3_ z5_ hv hv2 e2_ h4_ h6_ hM8_ )
  refine w_iconst (v := 0) dX5_takeFrom_16 (by decide) ?_
  refine w_istore_n (ls' := [(2, vI 0), (0, vR (5, b, w)), (1, vR (5, b2, w2))]) dX5_takeFrom_17 rfl (by decide) rfl ?_
  have lp12_ : ∀ (nn_18 : Nat) (M_18 : mM) (hI_18 : Inv M_18) (hF_18 : FR (S_c_X5_takeFrom b w b2 w2) Mz M_18) (v2_18 : Int32) (hv0_18 : 0 ≤ v2_18.toInt) (kv0_18 : (M_18.1 (5, b, w) 1).toInt ≤ ((rl w : Nat) : Int)) (hL_18 : RCH (fun x_ y_ => ST_X5_takeFrom_18 b w b2 w2 Mz x_.1 x_.2 y_.1 y_.2) ((0 : Int32), M7_) (v2_18, M_18)), (2147483648 - v2_18.toInt).toNat < nn_18 → WP CC l G cy ad yX5_takeFrom cX5_takeFrom 3 none (d + 1) 18 [(2, vI v2_18), (0, vR (5, b, w)), (1, vR (5, b2, w2))] [] M_18 (fun r M' => Inv M' ∧ FR (S_c_X5_takeFrom b w b2 w2) Mz M' ∧ (True) ∧ SP_X5_takeFrom b w b2 w2 Mz M') := by
    intro nn_18
    induction nn_18 with
    | zero => intro M_18 hI_18 hF_18 v2_18 hv0_18 kv0_18 hL_18 hm_18; exact absurd hm_18 (Nat.not_lt_zero _)
    | succ nn_18 ih_18 =>
      intro M_18 hI_18 hF_18 v2_18 hv0_18 kv0_18 hL_18 hm_18
      refine w_iload_n dX5_takeFrom_18 rfl 0 rfl ?_
      refine w_aload_n dX5_takeFrom_19 rfl 1 rfl ?_
      refine w_getI fl_RX5_7 rfl rfl (ic_5 hv) dX5_takeFrom_20 (fun z13_ e14_ => ?_)
      have h15_ : z13_.toInt ≤ ((rl w : Nat) : Int) := by rw [e14_]; exact kv0_18
      refine w_icmp_ge (tgt := 43) dX5_takeFrom_23 (by decide) (rfl : v2_18.toInt = v2_18.toInt) (rfl : z13_.toInt = z13_.toInt) (fun h16_ => ?_) (fun h16_ => ?_)
      · exact w_vret rfl dX5_takeFrom_43 ⟨hI_18, hF_18, trivial, ⟨z1_, e2_, z3_, h4_, z5_, h6_, M7_, hM8_, v2_18, hv0_18, M_18, hL_18, hI_18, hF_18, z13_, e14_, h15_, h16_, rfl⟩⟩
      · refine w_aload_n dX5_takeFrom_26 rfl 1 rfl ?_
        refine w_getR (c' := (33, b, w)) fl_RX5_19 rfl rfl (ic_5 hv) dX5_takeFrom_27 rfl ?_
        refine w_iload_n dX5_takeFrom_30 rfl 0 rfl ?_
        refine w_aload_n dX5_takeFrom_31 rfl 2 rfl ?_
        refine w_iload_n dX5_takeFrom_32 rfl 0 rfl ?_
        refine w_callV (as := [vI v2_18]) (rest := [vI v2_18, vR (33, b, w)]) (c_X5_get l G cy ad d b2 w2 v2_18 M_18 hI_18 hv2) kV_X5_get pnn_2 (Nat.le_of_ble_eq_true rfl) m_1147 rfl rfl rfl (ic_5 hv2) rfl rfl (by decide) (Nat.le_of_ble_eq_true rfl) dX5_takeFrom_33 (fun r17_ M18_ q19_ => ?_)
        obtain ⟨rfl, h20_, hs21_⟩ := q19_
        refine w_iast CC_nd rfl rfl (ic_33 hv) (rfl : v2_18.toInt = v2_18.toInt) (lf_c_X5_takeFrom_1 M7_ M_18 Mz b w b2 w2 z1_ z3_ z5_ v2_18 z13_ hv hv2 e2_ h4_ h6_ hM8_ kf11_ hv0_18 kv0_18 e14_ h15_ h16_ ) dX5_takeFrom_36 (fun j24_ h25_ M22_ hM23_ => ?_)
        have hI26_ := hI_18.put hM23_ trivial
        have hF27_ := hF_18.put hM23_ (Or.inr (Or.inl ⟨rfl, rfl, rfl⟩))
        have kf28_ : (M22_.1 (5, b, w) 1).toInt ≤ ((rl w : Nat) : Int) := by rw [(show M22_.1 (5, b, w) 1 = M_18.1 (5, b, w) 1 by rw [hM23_, up_ne (by simp)])]; exact kv0_18
        refine w_iincB (j := 0) (f := fun z29_ => [(2, vI z29_), (0, vR (5, b, w)), (1, vR (5, b2, w2))]) dX5_takeFrom_37 rfl (by decide) (fun _ => rfl) (rfl : v2_18.toInt = v2_18.toInt) li_1 (lf_c_X5_takeFrom_2 v2_18 z13_ hv0_18 h16_ ) (fun z29_ h30_ => ?_)
        refine w_goto (tgt := 18) dX5_takeFrom_40 (by decide) ?_
        refine w_loc (ls' := [(2, vI z29_), (0, vR (5, b, w)), (1, vR (5, b2, w2))]) [0, 1, 2] rfl ?_
        exact ih_18 M22_ hI26_ hF27_ z29_ (lf_c_X5_takeFrom_3 v2_18 z29_ hv0_18 h30_ ) kf28_ (RCH.tail hL_18 ⟨hv0_18, hI_18, hF_18, z13_, e14_, h15_, h16_, r17_, hs21_, j24_, h25_, M22_, hM23_, z29_, h30_, rfl, rfl⟩) (Nat.lt_of_lt_of_le (lf_c_X5_takeFrom_4 v2_18 z29_ h30_ ) (Nat.le_of_lt_succ hm_18))
  exact lp12_ _ M7_ hI9_ hF10_ 0 (lf_c_X5_takeFrom_5 ) kf11_ RCH.refl (Nat.lt_succ_self _)
def SP_X1_isGiven (b : Nat) (w : Nat) (Mz : mM) (r_ : Int32) : Prop := ∃ z1_ : Int32, (z1_ = Mz.1 (1, b, w) 2) ∧ (((z1_.toInt ≤ 0) ∧ r_ = 0) ∨ ((0 < z1_.toInt) ∧ r_ = 1))
set_option maxHeartbeats 4000000 in
set_option maxRecDepth 100000 in
theorem c_X1_isGiven (l : Launch) (G : va_G) (cy : Nat → ClassId) (ad : rf → Nat) (d : Nat) (b : Nat) (w : Nat) (Mz : mM) (hIz : Inv Mz) (hv : vF b w) : WP CC l G cy ad yX1_isGiven cX1_isGiven 1 (some .boolean) d 0 [(0, vR (1, b, w))] [] Mz (fun r M' => Mz = M' ∧ ((0 ≤ r.toInt ∧ r.toInt ≤ 1)) ∧ SP_X1_isGiven b w Mz r) := by
  refine w_aload_n dX1_isGiven_0 rfl 0 rfl ?_
  refine w_getI fl_RX1_16 rfl rfl (ic_1 hv) dX1_isGiven_1 (fun z1_ e2_ => ?_)
  refine w_if_le (tgt := 11) dX1_isGiven_4 (by decide) (rfl : z1_.toInt = z1_.toInt) (fun h3_ => ?_) (fun h3_ => ?_)
  · refine w_iconst (v := 0) dX1_isGiven_11 (by decide) ?_
    exact w_zret rfl dX1_isGiven_12 ⟨by decide, by decide⟩ ⟨rfl, ⟨by decide, by decide⟩, ⟨z1_, e2_, (Or.inl ⟨h3_, rfl⟩)⟩⟩
  · refine w_iconst (v := 1) dX1_isGiven_7 (by decide) ?_
    refine w_goto (tgt := 12) dX1_isGiven_8 (by decide) ?_
    exact w_zret rfl dX1_isGiven_12 ⟨by decide, by decide⟩ ⟨rfl, ⟨by decide, by decide⟩, ⟨z1_, e2_, (Or.inr ⟨h3_, rfl⟩)⟩⟩
def S_c_X1_clear (b : Nat) (w : Nat) : rf → Nat → Prop := fun c k => (c.1 = 1 ∧ c.2.1 = b ∧ c.2.2 = w ∧ k = 2) ∨ False
def SP_X1_clear (b : Nat) (w : Nat) (Mz : mM) (M_ : mM) : Prop := ∃ M1_ : mM, (M1_ = up Mz (1, b, w) 2 0) ∧ M_ = M1_
set_option maxHeartbeats 4000000 in
set_option maxRecDepth 100000 in
theorem c_X1_clear (l : Launch) (G : va_G) (cy : Nat → ClassId) (ad : rf → Nat) (d : Nat) (b : Nat) (w : Nat) (Mz : mM) (hIz : Inv Mz) (hv : vF b w) : WP CC l G cy ad yX1_clear cX1_clear 1 none d 0 [(0, vR (1, b, w))] [] Mz (fun r M' => Inv M' ∧ FR (S_c_X1_clear b w) Mz M' ∧ (True) ∧ SP_X1_clear b w Mz M') := by
  have hFz : FR (S_c_X1_clear b w) Mz Mz := FR.self
  refine w_aload_n dX1_clear_0 rfl 0 rfl ?_
  refine w_iconst (v := 0) dX1_clear_1 (by decide) ?_
  refine w_putI CC_nd fl_RX1_16 rfl rfl (ic_1 hv) dX1_clear_2 (fun M1_ hM2_ => ?_)
  have hI3_ := hIz.put hM2_ trivial
  have hF4_ := hFz.put hM2_ (Or.inl ⟨rfl, rfl, rfl, rfl⟩)
  exact w_vret rfl dX1_clear_5 ⟨hI3_, hF4_, trivial, ⟨M1_, hM2_, rfl⟩⟩
def S_c_X1_add (b : Nat) (w : Nat) : rf → Nat → Prop := fun c k => (c.1 = 24 ∧ c.2.1 = b ∧ c.2.2 = w) ∨ (c.1 = 1 ∧ c.2.1 = b ∧ c.2.2 = w ∧ k = 2) ∨ False
def SP_X1_add (b : Nat) (w : Nat) (v : Int32) (Mz : mM) (M_ : mM) : Prop := ∃ z1_ : Int32, (z1_ = Mz.1 (1, b, w) 2) ∧ (((z1_.toInt < 0) ∧ M_ = Mz) ∨ ((0 ≤ z1_.toInt) ∧ (((48 ≤ z1_.toInt) ∧ M_ = Mz) ∨ ((z1_.toInt < 48) ∧ ∃ j11_ : Nat, ((j11_ : Int) = z1_.toInt) ∧ ∃ M9_ : mM, (M9_ = up Mz (24, b, w) j11_ v) ∧ ∃ z15_ : Int32, (z15_ = M9_.1 (1, b, w) 2) ∧ ∃ z17_ : Int32, (z17_ = z15_ + (1 : Int32)) ∧ ∃ M19_ : mM, (M19_ = up M9_ (1, b, w) 2 z17_) ∧ M_ = M19_))))
theorem lf_c_X1_add_0 (z1_ : Int32) (h3_ : 0 ≤ z1_.toInt) (h6_ : z1_.toInt < 48) : 0 ≤ z1_.toInt ∧ z1_.toInt < ((48 : Nat) : Int) := by omega
set_option maxHeartbeats 4000000 in
set_option maxRecDepth 100000 in
theorem c_X1_add (l : Launch) (G : va_G) (cy : Nat → ClassId) (ad : rf → Nat) (d : Nat) (b : Nat) (w : Nat) (v : Int32) (Mz : mM) (hIz : Inv Mz) (hv : vF b w) : WP CC l G cy ad yX1_add cX1_add 2 none d 0 [(0, vR (1, b, w)), (1, vI v)] [] Mz (fun r M' => Inv M' ∧ FR (S_c_X1_add b w) Mz M' ∧ (True) ∧ SP_X1_add b w v Mz M') := by
  have hFz : FR (S_c_X1_add b w) Mz Mz := FR.self
  refine w_aload_n dX1_add_0 rfl 0 rfl ?_
  refine w_getI fl_RX1_16 rfl rfl (ic_1 hv) dX1_add_1 (fun z1_ e2_ => ?_)
  refine w_if_lt (tgt := 36) dX1_add_4 (by decide) (rfl : z1_.toInt = z1_.toInt) (fun h3_ => ?_) (fun h3_ => ?_)
  · exact w_vret rfl dX1_add_36 ⟨hIz, hFz, trivial, ⟨z1_, e2_, (Or.inl ⟨h3_, rfl⟩)⟩⟩
  · refine w_aload_n dX1_add_7 rfl 0 rfl ?_
    refine w_getI fl_RX1_16 rfl rfl (ic_1 hv) dX1_add_8 (fun z4_ e5_ => ?_)
    obtain rfl : z1_ = z4_ := e2_.trans e5_.symm
    refine w_bipush (v := 48) dX1_add_11 (by decide) ?_
    refine w_icmp_ge (tgt := 36) dX1_add_13 (by decide) (rfl : z1_.toInt = z1_.toInt) li_48 (fun h6_ => ?_) (fun h6_ => ?_)
    · exact w_vret rfl dX1_add_36 ⟨hIz, hFz, trivial, ⟨z1_, e2_, (Or.inr ⟨h3_, (Or.inl ⟨h6_, rfl⟩)⟩)⟩⟩
    · refine w_aload_n dX1_add_16 rfl 0 rfl ?_
      refine w_getR (c' := (24, b, w)) fl_RX1_9 rfl rfl (ic_1 hv) dX1_add_17 rfl ?_
      refine w_aload_n dX1_add_20 rfl 0 rfl ?_
      refine w_getI fl_RX1_16 rfl rfl (ic_1 hv) dX1_add_21 (fun z7_ e8_ => ?_)
      obtain rfl : z1_ = z7_ := e2_.trans e8_.symm
      refine w_iload_n dX1_add_24 rfl 1 rfl ?_
      refine w_iast CC_nd rfl rfl (ic_24 hv) (rfl : z1_.toInt = z1_.toInt) (lf_c_X1_add_0 z1_ h3_ h6_ ) dX1_add_25 (fun j11_ h12_ M9_ hM10_ => ?_)
      have hI13_ := hIz.put hM10_ trivial
      have hF14_ := hFz.put hM10_ (Or.inl ⟨rfl, rfl, rfl⟩)
      refine w_aload_n dX1_add_26 rfl 0 rfl ?_
      refine w_dup dX1_add_27 rfl ?_
      refine w_getI fl_RX1_16 rfl rfl (ic_1 hv) dX1_add_28 (fun z15_ e16_ => ?_)
      refine w_iconst (v := 1) dX1_add_31 (by decide) ?_
      refine w_iadd dX1_add_32 (fun z17_ h18_ => ?_)
      refine w_putI CC_nd fl_RX1_16 rfl rfl (ic_1 hv) dX1_add_33 (fun M19_ hM20_ => ?_)
      have hI21_ := hI13_.put hM20_ trivial
      have hF22_ := hF14_.put hM20_ (Or.inr (Or.inl ⟨rfl, rfl, rfl, rfl⟩))
      exact w_vret rfl dX1_add_36 ⟨hI21_, hF22_, trivial, ⟨z1_, e2_, (Or.inr ⟨h3_, (Or.inr ⟨h6_, j11_, h12_, M9_, hM10_, z15_, e16_, z17_, h18_, M19_, hM20_, rfl⟩)⟩)⟩⟩
def S_c_X1_work (b : Nat) (w : Nat) (b2 : Nat) : rf → Nat → Prop := fun c k => (c.1 = 25 ∧ c.2.1 = b ∧ c.2.2 = w) ∨ False
def ST_X1_work_4 (b : Nat) (w : Nat) (b2 : Nat) (Mz : mM) (v3_4 : Int32) (v2_4 : Int32) (M_4 : mM) (v3_4y : Int32) (v2_4y : Int32) (M_4y : mM) : Prop := (0 ≤ v3_4.toInt) ∧ (0 ≤ v2_4.toInt) ∧ (v2_4.toInt ≤ 48) ∧ (Inv M_4) ∧ (FR (S_c_X1_work b w b2) Mz M_4) ∧ ∃ z2_ : Int32, (z2_ = M_4.1 (1, b, w) 2) ∧ (v3_4.toInt < z2_.toInt) ∧ (v3_4.toInt < 48) ∧ ∃ j14_ : Nat, ((j14_ : Int) = v3_4.toInt) ∧ ∃ z12_ : Int32, (z12_ = M_4.1 (24, b, w) j14_) ∧ ∃ z16_ : Int32, (z16_ = z12_ - (1000 : Int32)) ∧ (((2000 ≤ z12_.toInt) ∧ (((¬ z12_.toInt = 2126) ∧ (((¬ z12_.toInt = 2063) ∧ (((v2_4.toInt < 2) ∧ ∃ z22_ : Int32, (z22_.toInt = v3_4.toInt + 1) ∧ v3_4y = z22_ ∧ v2_4y = v2_4 ∧ M_4y = M_4) ∨ ((2 ≤ v2_4.toInt) ∧ ∃ z24_ : Int32, (z24_.toInt = v2_4.toInt + (-1)) ∧ ∃ z26_ : Int32, (z26_.toInt = z24_.toInt - 1) ∧ ∃ j30_ : Nat, ((j30_ : Int) = z26_.toInt) ∧ ∃ z28_ : Int32, (z28_ = M_4.1 (25, b, w) j30_) ∧ ∃ j34_ : Nat, ((j34_ : Int) = z24_.toInt) ∧ ∃ z32_ : Int32, (z32_ = M_4.1 (25, b, w) j34_) ∧ ∃ z36_ : Int32, (z36_.toInt = z12_.toInt - 2000) ∧ (((z36_.toInt = 42) ∧ ∃ z39_ : Int32, (z39_ = z28_ * z32_) ∧ ∃ z41_ : Int32, (z41_.toInt = z24_.toInt - 1) ∧ ∃ j45_ : Nat, ((j45_ : Int) = z41_.toInt) ∧ ∃ M43_ : mM, (M43_ = up M_4 (25, b, w) j45_ z39_) ∧ ∃ z49_ : Int32, (z49_.toInt = v3_4.toInt + 1) ∧ v3_4y = z49_ ∧ v2_4y = z24_ ∧ M_4y = M43_) ∨ ((z36_.toInt = 43) ∧ ∃ z51_ : Int32, (z51_ = z28_ + z32_) ∧ ∃ z53_ : Int32, (z53_.toInt = z24_.toInt - 1) ∧ ∃ j57_ : Nat, ((j57_ : Int) = z53_.toInt) ∧ ∃ M55_ : mM, (M55_ = up M_4 (25, b, w) j57_ z51_) ∧ ∃ z61_ : Int32, (z61_.toInt = v3_4.toInt + 1) ∧ v3_4y = z61_ ∧ v2_4y = z24_ ∧ M_4y = M55_) ∨ ((z36_.toInt = 44) ∧ (((¬ z32_.toInt = 0) ∧ ∃ z64_ : Int32, (z64_ = z28_ - z28_ / z32_ * z32_) ∧ ∃ z66_ : Int32, (z66_.toInt = z24_.toInt - 1) ∧ ∃ j70_ : Nat, ((j70_ : Int) = z66_.toInt) ∧ ∃ M68_ : mM, (M68_ = up M_4 (25, b, w) j70_ z64_) ∧ ∃ z74_ : Int32, (z74_.toInt = v3_4.toInt + 1) ∧ v3_4y = z74_ ∧ v2_4y = z24_ ∧ M_4y = M68_) ∨ ((z32_.toInt = 0) ∧ ∃ z76_ : Int32, (z76_.toInt = z24_.toInt - 1) ∧ ∃ j80_ : Nat, ((j80_ : Int) = z76_.toInt) ∧ ∃ M78_ : mM, (M78_ = up M_4 (25, b, w) j80_ 0) ∧ ∃ z84_ : Int32, (z84_.toInt = v3_4.toInt + 1) ∧ v3_4y = z84_ ∧ v2_4y = z24_ ∧ M_4y = M78_))) ∨ ((z36_.toInt = 45) ∧ ∃ z86_ : Int32, (z86_ = z28_ - z32_) ∧ ∃ z88_ : Int32, (z88_.toInt = z24_.toInt - 1) ∧ ∃ j92_ : Nat, ((j92_ : Int) = z88_.toInt) ∧ ∃ M90_ : mM, (M90_ = up M_4 (25, b, w) j92_ z86_) ∧ ∃ z96_ : Int32, (z96_.toInt = v3_4.toInt + 1) ∧ v3_4y = z96_ ∧ v2_4y = z24_ ∧ M_4y = M90_) ∨ ((z36_.toInt = 46) ∧ (((¬ z32_.toInt = 0) ∧ ∃ z99_ : Int32, (z99_ = z28_ - z28_ / z32_ * z32_) ∧ ∃ z101_ : Int32, (z101_.toInt = z24_.toInt - 1) ∧ ∃ j105_ : Nat, ((j105_ : Int) = z101_.toInt) ∧ ∃ M103_ : mM, (M103_ = up M_4 (25, b, w) j105_ z99_) ∧ ∃ z109_ : Int32, (z109_.toInt = v3_4.toInt + 1) ∧ v3_4y = z109_ ∧ v2_4y = z24_ ∧ M_4y = M103_) ∨ ((z32_.toInt = 0) ∧ ∃ z111_ : Int32, (z111_.toInt = z24_.toInt - 1) ∧ ∃ j115_ : Nat, ((j115_ : Int) = z111_.toInt) ∧ ∃ M113_ : mM, (M113_ = up M_4 (25, b, w) j115_ 0) ∧ ∃ z119_ : Int32, (z119_.toInt = v3_4.toInt + 1) ∧ v3_4y = z119_ ∧ v2_4y = z24_ ∧ M_4y = M113_))) ∨ ((z36_.toInt = 47) ∧ (((¬ z32_.toInt = 0) ∧ ∃ z122_ : Int32, (z122_ = z28_ / z32_) ∧ ∃ z124_ : Int32, (z124_.toInt = z24_.toInt - 1) ∧ ∃ j128_ : Nat, ((j128_ : Int) = z124_.toInt) ∧ ∃ M126_ : mM, (M126_ = up M_4 (25, b, w) j128_ z122_) ∧ ∃ z132_ : Int32, (z132_.toInt = v3_4.toInt + 1) ∧ v3_4y = z132_ ∧ v2_4y = z24_ ∧ M_4y = M126_) ∨ ((z32_.toInt = 0) ∧ ∃ z134_ : Int32, (z134_.toInt = z24_.toInt - 1) ∧ ∃ j138_ : Nat, ((j138_ : Int) = z134_.toInt) ∧ ∃ M136_ : mM, (M136_ = up M_4 (25, b, w) j138_ 0) ∧ ∃ z142_ : Int32, (z142_.toInt = v3_4.toInt + 1) ∧ v3_4y = z142_ ∧ v2_4y = z24_ ∧ M_4y = M136_))) ∨ ((z36_.toInt = 48) ∧ (((¬ z32_.toInt = 0) ∧ ∃ z145_ : Int32, (z145_ = z28_ - z28_ / z32_ * z32_) ∧ ∃ z147_ : Int32, (z147_.toInt = z24_.toInt - 1) ∧ ∃ j151_ : Nat, ((j151_ : Int) = z147_.toInt) ∧ ∃ M149_ : mM, (M149_ = up M_4 (25, b, w) j151_ z145_) ∧ ∃ z155_ : Int32, (z155_.toInt = v3_4.toInt + 1) ∧ v3_4y = z155_ ∧ v2_4y = z24_ ∧ M_4y = M149_) ∨ ((z32_.toInt = 0) ∧ ∃ z157_ : Int32, (z157_.toInt = z24_.toInt - 1) ∧ ∃ j161_ : Nat, ((j161_ : Int) = z157_.toInt) ∧ ∃ M159_ : mM, (M159_ = up M_4 (25, b, w) j161_ 0) ∧ ∃ z165_ : Int32, (z165_.toInt = v3_4.toInt + 1) ∧ v3_4y = z165_ ∧ v2_4y = z24_ ∧ M_4y = M159_))) ∨ ((z36_.toInt = 49) ∧ (((¬ z32_.toInt = 0) ∧ ∃ z168_ : Int32, (z168_ = z28_ - z28_ / z32_ * z32_) ∧ ∃ z170_ : Int32, (z170_.toInt = z24_.toInt - 1) ∧ ∃ j174_ : Nat, ((j174_ : Int) = z170_.toInt) ∧ ∃ M172_ : mM, (M172_ = up M_4 (25, b, w) j174_ z168_) ∧ ∃ z178_ : Int32, (z178_.toInt = v3_4.toInt + 1) ∧ v3_4y = z178_ ∧ v2_4y = z24_ ∧ M_4y = M172_) ∨ ((z32_.toInt = 0) ∧ ∃ z180_ : Int32, (z180_.toInt = z24_.toInt - 1) ∧ ∃ j184_ : Nat, ((j184_ : Int) = z180_.toInt) ∧ ∃ M182_ : mM, (M182_ = up M_4 (25, b, w) j184_ 0) ∧ ∃ z188_ : Int32, (z188_.toInt = v3_4.toInt + 1) ∧ v3_4y = z188_ ∧ v2_4y = z24_ ∧ M_4y = M182_))) ∨ ((z36_.toInt = 50) ∧ (((¬ z32_.toInt = 0) ∧ ∃ z191_ : Int32, (z191_ = z28_ - z28_ / z32_ * z32_) ∧ ∃ z193_ : Int32, (z193_.toInt = z24_.toInt - 1) ∧ ∃ j197_ : Nat, ((j197_ : Int) = z193_.toInt) ∧ ∃ M195_ : mM, (M195_ = up M_4 (25, b, w) j197_ z191_) ∧ ∃ z201_ : Int32, (z201_.toInt = v3_4.toInt + 1) ∧ v3_4y = z201_ ∧ v2_4y = z24_ ∧ M_4y = M195_) ∨ ((z32_.toInt = 0) ∧ ∃ z203_ : Int32, (z203_.toInt = z24_.toInt - 1) ∧ ∃ j207_ : Nat, ((j207_ : Int) = z203_.toInt) ∧ ∃ M205_ : mM, (M205_ = up M_4 (25, b, w) j207_ 0) ∧ ∃ z211_ : Int32, (z211_.toInt = v3_4.toInt + 1) ∧ v3_4y = z211_ ∧ v2_4y = z24_ ∧ M_4y = M205_))) ∨ ((z36_.toInt = 51) ∧ (((¬ z32_.toInt = 0) ∧ ∃ z214_ : Int32, (z214_ = z28_ - z28_ / z32_ * z32_) ∧ ∃ z216_ : Int32, (z216_.toInt = z24_.toInt - 1) ∧ ∃ j220_ : Nat, ((j220_ : Int) = z216_.toInt) ∧ ∃ M218_ : mM, (M218_ = up M_4 (25, b, w) j220_ z214_) ∧ ∃ z224_ : Int32, (z224_.toInt = v3_4.toInt + 1) ∧ v3_4y = z224_ ∧ v2_4y = z24_ ∧ M_4y = M218_) ∨ ((z32_.toInt = 0) ∧ ∃ z226_ : Int32, (z226_.toInt = z24_.toInt - 1) ∧ ∃ j230_ : Nat, ((j230_ : Int) = z226_.toInt) ∧ ∃ M228_ : mM, (M228_ = up M_4 (25, b, w) j230_ 0) ∧ ∃ z234_ : Int32, (z234_.toInt = v3_4.toInt + 1) ∧ v3_4y = z234_ ∧ v2_4y = z24_ ∧ M_4y = M228_))) ∨ ((z36_.toInt = 52) ∧ (((¬ z32_.toInt = 0) ∧ ∃ z237_ : Int32, (z237_ = z28_ - z28_ / z32_ * z32_) ∧ ∃ z239_ : Int32, (z239_.toInt = z24_.toInt - 1) ∧ ∃ j243_ : Nat, ((j243_ : Int) = z239_.toInt) ∧ ∃ M241_ : mM, (M241_ = up M_4 (25, b, w) j243_ z237_) ∧ ∃ z247_ : Int32, (z247_.toInt = v3_4.toInt + 1) ∧ v3_4y = z247_ ∧ v2_4y = z24_ ∧ M_4y = M241_) ∨ ((z32_.toInt = 0) ∧ ∃ z249_ : Int32, (z249_.toInt = z24_.toInt - 1) ∧ ∃ j253_ : Nat, ((j253_ : Int) = z249_.toInt) ∧ ∃ M251_ : mM, (M251_ = up M_4 (25, b, w) j253_ 0) ∧ ∃ z257_ : Int32, (z257_.toInt = v3_4.toInt + 1) ∧ v3_4y = z257_ ∧ v2_4y = z24_ ∧ M_4y = M251_))) ∨ ((z36_.toInt = 53) ∧ (((¬ z32_.toInt = 0) ∧ ∃ z260_ : Int32, (z260_ = z28_ - z28_ / z32_ * z32_) ∧ ∃ z262_ : Int32, (z262_.toInt = z24_.toInt - 1) ∧ ∃ j266_ : Nat, ((j266_ : Int) = z262_.toInt) ∧ ∃ M264_ : mM, (M264_ = up M_4 (25, b, w) j266_ z260_) ∧ ∃ z270_ : Int32, (z270_.toInt = v3_4.toInt + 1) ∧ v3_4y = z270_ ∧ v2_4y = z24_ ∧ M_4y = M264_) ∨ ((z32_.toInt = 0) ∧ ∃ z272_ : Int32, (z272_.toInt = z24_.toInt - 1) ∧ ∃ j276_ : Nat, ((j276_ : Int) = z272_.toInt) ∧ ∃ M274_ : mM, (M274_ = up M_4 (25, b, w) j276_ 0) ∧ ∃ z280_ : Int32, (z280_.toInt = v3_4.toInt + 1) ∧ v3_4y = z280_ ∧ v2_4y = z24_ ∧ M_4y = M274_))) ∨ ((z36_.toInt = 54) ∧ (((¬ z32_.toInt = 0) ∧ ∃ z283_ : Int32, (z283_ = z28_ - z28_ / z32_ * z32_) ∧ ∃ z285_ : Int32, (z285_.toInt = z24_.toInt - 1) ∧ ∃ j289_ : Nat, ((j289_ : Int) = z285_.toInt) ∧ ∃ M287_ : mM, (M287_ = up M_4 (25, b, w) j289_ z283_) ∧ ∃ z293_ : Int32, (z293_.toInt = v3_4.toInt + 1) ∧ v3_4y = z293_ ∧ v2_4y = z24_ ∧ M_4y = M287_) ∨ ((z32_.toInt = 0) ∧ ∃ z295_ : Int32, (z295_.toInt = z24_.toInt - 1) ∧ ∃ j299_ : Nat, ((j299_ : Int) = z295_.toInt) ∧ ∃ M297_ : mM, (M297_ = up M_4 (25, b, w) j299_ 0) ∧ ∃ z303_ : Int32, (z303_.toInt = v3_4.toInt + 1) ∧ v3_4y = z303_ ∧ v2_4y = z24_ ∧ M_4y = M297_))) ∨ ((z36_.toInt = 55) ∧ (((¬ z32_.toInt = 0) ∧ ∃ z306_ : Int32, (z306_ = z28_ - z28_ / z32_ * z32_) ∧ ∃ z308_ : Int32, (z308_.toInt = z24_.toInt - 1) ∧ ∃ j312_ : Nat, ((j312_ : Int) = z308_.toInt) ∧ ∃ M310_ : mM, (M310_ = up M_4 (25, b, w) j312_ z306_) ∧ ∃ z316_ : Int32, (z316_.toInt = v3_4.toInt + 1) ∧ v3_4y = z316_ ∧ v2_4y = z24_ ∧ M_4y = M310_) ∨ ((z32_.toInt = 0) ∧ ∃ z318_ : Int32, (z318_.toInt = z24_.toInt - 1) ∧ ∃ j322_ : Nat, ((j322_ : Int) = z318_.toInt) ∧ ∃ M320_ : mM, (M320_ = up M_4 (25, b, w) j322_ 0) ∧ ∃ z326_ : Int32, (z326_.toInt = v3_4.toInt + 1) ∧ v3_4y = z326_ ∧ v2_4y = z24_ ∧ M_4y = M320_))) ∨ ((z36_.toInt = 56) ∧ (((¬ z32_.toInt = 0) ∧ ∃ z329_ : Int32, (z329_ = z28_ - z28_ / z32_ * z32_) ∧ ∃ z331_ : Int32, (z331_.toInt = z24_.toInt - 1) ∧ ∃ j335_ : Nat, ((j335_ : Int) = z331_.toInt) ∧ ∃ M333_ : mM, (M333_ = up M_4 (25, b, w) j335_ z329_) ∧ ∃ z339_ : Int32, (z339_.toInt = v3_4.toInt + 1) ∧ v3_4y = z339_ ∧ v2_4y = z24_ ∧ M_4y = M333_) ∨ ((z32_.toInt = 0) ∧ ∃ z341_ : Int32, (z341_.toInt = z24_.toInt - 1) ∧ ∃ j345_ : Nat, ((j345_ : Int) = z341_.toInt) ∧ ∃ M343_ : mM, (M343_ = up M_4 (25, b, w) j345_ 0) ∧ ∃ z349_ : Int32, (z349_.toInt = v3_4.toInt + 1) ∧ v3_4y = z349_ ∧ v2_4y = z24_ ∧ M_4y = M343_))) ∨ ((z36_.toInt = 57) ∧ (((¬ z32_.toInt = 0) ∧ ∃ z352_ : Int32, (z352_ = z28_ - z28_ / z32_ * z32_) ∧ ∃ z354_ : Int32, (z354_.toInt = z24_.toInt - 1) ∧ ∃ j358_ : Nat, ((j358_ : Int) = z354_.toInt) ∧ ∃ M356_ : mM, (M356_ = up M_4 (25, b, w) j358_ z352_) ∧ ∃ z362_ : Int32, (z362_.toInt = v3_4.toInt + 1) ∧ v3_4y = z362_ ∧ v2_4y = z24_ ∧ M_4y = M356_) ∨ ((z32_.toInt = 0) ∧ ∃ z364_ : Int32, (z364_.toInt = z24_.toInt - 1) ∧ ∃ j368_ : Nat, ((j368_ : Int) = z364_.toInt) ∧ ∃ M366_ : mM, (M366_ = up M_4 (25, b, w) j368_ 0) ∧ ∃ z372_ : Int32, (z372_.toInt = v3_4.toInt + 1) ∧ v3_4y = z372_ ∧ v2_4y = z24_ ∧ M_4y = M366_))) ∨ ((z36_.toInt = 58) ∧ (((¬ z32_.toInt = 0) ∧ ∃ z375_ : Int32, (z375_ = z28_ - z28_ / z32_ * z32_) ∧ ∃ z377_ : Int32, (z377_.toInt = z24_.toInt - 1) ∧ ∃ j381_ : Nat, ((j381_ : Int) = z377_.toInt) ∧ ∃ M379_ : mM, (M379_ = up M_4 (25, b, w) j381_ z375_) ∧ ∃ z385_ : Int32, (z385_.toInt = v3_4.toInt + 1) ∧ v3_4y = z385_ ∧ v2_4y = z24_ ∧ M_4y = M379_) ∨ ((z32_.toInt = 0) ∧ ∃ z387_ : Int32, (z387_.toInt = z24_.toInt - 1) ∧ ∃ j391_ : Nat, ((j391_ : Int) = z387_.toInt) ∧ ∃ M389_ : mM, (M389_ = up M_4 (25, b, w) j391_ 0) ∧ ∃ z395_ : Int32, (z395_.toInt = v3_4.toInt + 1) ∧ v3_4y = z395_ ∧ v2_4y = z24_ ∧ M_4y = M389_))) ∨ ((z36_.toInt = 59) ∧ (((¬ z32_.toInt = 0) ∧ ∃ z398_ : Int32, (z398_ = z28_ - z28_ / z32_ * z32_) ∧ ∃ z400_ : Int32, (z400_.toInt = z24_.toInt - 1) ∧ ∃ j404_ : Nat, ((j404_ : Int) = z400_.toInt) ∧ ∃ M402_ : mM, (M402_ = up M_4 (25, b, w) j404_ z398_) ∧ ∃ z408_ : Int32, (z408_.toInt = v3_4.toInt + 1) ∧ v3_4y = z408_ ∧ v2_4y = z24_ ∧ M_4y = M402_) ∨ ((z32_.toInt = 0) ∧ ∃ z410_ : Int32, (z410_.toInt = z24_.toInt - 1) ∧ ∃ j414_ : Nat, ((j414_ : Int) = z410_.toInt) ∧ ∃ M412_ : mM, (M412_ = up M_4 (25, b, w) j414_ 0) ∧ ∃ z418_ : Int32, (z418_.toInt = v3_4.toInt + 1) ∧ v3_4y = z418_ ∧ v2_4y = z24_ ∧ M_4y = M412_))) ∨ ((z36_.toInt = 60) ∧ (((z32_.toInt ≤ z28_.toInt) ∧ ∃ z421_ : Int32, (z421_.toInt = z24_.toInt - 1) ∧ ∃ j425_ : Nat, ((j425_ : Int) = z421_.toInt) ∧ ∃ M423_ : mM, (M423_ = up M_4 (25, b, w) j425_ 0) ∧ ∃ z429_ : Int32, (z429_.toInt = v3_4.toInt + 1) ∧ v3_4y = z429_ ∧ v2_4y = z24_ ∧ M_4y = M423_) ∨ ((z28_.toInt < z32_.toInt) ∧ ∃ z431_ : Int32, (z431_.toInt = z24_.toInt - 1) ∧ ∃ j435_ : Nat, ((j435_ : Int) = z431_.toInt) ∧ ∃ M433_ : mM, (M433_ = up M_4 (25, b, w) j435_ 1) ∧ ∃ z439_ : Int32, (z439_.toInt = v3_4.toInt + 1) ∧ v3_4y = z439_ ∧ v2_4y = z24_ ∧ M_4y = M433_))) ∨ ((z36_.toInt = 61) ∧ (((¬ z28_.toInt = z32_.toInt) ∧ ∃ z442_ : Int32, (z442_.toInt = z24_.toInt - 1) ∧ ∃ j446_ : Nat, ((j446_ : Int) = z442_.toInt) ∧ ∃ M444_ : mM, (M444_ = up M_4 (25, b, w) j446_ 0) ∧ ∃ z450_ : Int32, (z450_.toInt = v3_4.toInt + 1) ∧ v3_4y = z450_ ∧ v2_4y = z24_ ∧ M_4y = M444_) ∨ ((z28_.toInt = z32_.toInt) ∧ ∃ z452_ : Int32, (z452_.toInt = z24_.toInt - 1) ∧ ∃ j456_ : Nat, ((j456_ : Int) = z452_.toInt) ∧ ∃ M454_ : mM, (M454_ = up M_4 (25, b, w) j456_ 1) ∧ ∃ z460_ : Int32, (z460_.toInt = v3_4.toInt + 1) ∧ v3_4y = z460_ ∧ v2_4y = z24_ ∧ M_4y = M454_))) ∨ ((z36_.toInt = 62) ∧ (((z28_.toInt ≤ z32_.toInt) ∧ ∃ z463_ : Int32, (z463_.toInt = z24_.toInt - 1) ∧ ∃ j467_ : Nat, ((j467_ : Int) = z463_.toInt) ∧ ∃ M465_ : mM, (M465_ = up M_4 (25, b, w) j467_ 0) ∧ ∃ z471_ : Int32, (z471_.toInt = v3_4.toInt + 1) ∧ v3_4y = z471_ ∧ v2_4y = z24_ ∧ M_4y = M465_) ∨ ((z32_.toInt < z28_.toInt) ∧ ∃ z473_ : Int32, (z473_.toInt = z24_.toInt - 1) ∧ ∃ j477_ : Nat, ((j477_ : Int) = z473_.toInt) ∧ ∃ M475_ : mM, (M475_ = up M_4 (25, b, w) j477_ 1) ∧ ∃ z481_ : Int32, (z481_.toInt = v3_4.toInt + 1) ∧ v3_4y = z481_ ∧ v2_4y = z24_ ∧ M_4y = M475_))) ∨ (((¬ z36_.toInt = 42 ∧ ¬ z36_.toInt = 43 ∧ ¬ z36_.toInt = 44 ∧ ¬ z36_.toInt = 45 ∧ ¬ z36_.toInt = 46 ∧ ¬ z36_.toInt = 47 ∧ ¬ z36_.toInt = 48 ∧ ¬ z36_.toInt = 49 ∧ ¬ z36_.toInt = 50 ∧ ¬ z36_.toInt = 51 ∧ ¬ z36_.toInt = 52 ∧ ¬ z36_.toInt = 53 ∧ ¬ z36_.toInt = 54 ∧ ¬ z36_.toInt = 55 ∧ ¬ z36_.toInt = 56 ∧ ¬ z36_.toInt = 57 ∧ ¬ z36_.toInt = 58 ∧ ¬ z36_.toInt = 59 ∧ ¬ z36_.toInt = 60 ∧ ¬ z36_.toInt = 61 ∧ ¬ z36_.toInt = 62)) ∧ (((¬ z32_.toInt = 0) ∧ ∃ z484_ : Int32, (z484_ = z28_ - z28_ / z32_ * z32_) ∧ ∃ z486_ : Int32, (z486_.toInt = z24_.toInt - 1) ∧ ∃ j490_ : Nat, ((j490_ : Int) = z486_.toInt) ∧ ∃ M488_ : mM, (M488_ = up M_4 (25, b, w) j490_ z484_) ∧ ∃ z494_ : Int32, (z494_.toInt = v3_4.toInt + 1) ∧ v3_4y = z494_ ∧ v2_4y = z24_ ∧ M_4y = M488_) ∨ ((z32_.toInt = 0) ∧ ∃ z496_ : Int32, (z496_.toInt = z24_.toInt - 1) ∧ ∃ j500_ : Nat, ((j500_ : Int) = z496_.toInt) ∧ ∃ M498_ : mM, (M498_ = up M_4 (25, b, w) j500_ 0) ∧ ∃ z504_ : Int32, (z504_.toInt = v3_4.toInt + 1) ∧ v3_4y = z504_ ∧ v2_4y = z24_ ∧ M_4y = M498_))))))) ∨ ((z12_.toInt = 2063) ∧ (((v2_4.toInt < 3) ∧ (((v2_4.toInt < 2) ∧ ∃ z508_ : Int32, (z508_.toInt = v3_4.toInt + 1) ∧ v3_4y = z508_ ∧ v2_4y = v2_4 ∧ M_4y = M_4) ∨ ((2 ≤ v2_4.toInt) ∧ ∃ z510_ : Int32, (z510_.toInt = v2_4.toInt + (-1)) ∧ ∃ z512_ : Int32, (z512_.toInt = z510_.toInt - 1) ∧ ∃ j516_ : Nat, ((j516_ : Int) = z512_.toInt) ∧ ∃ z514_ : Int32, (z514_ = M_4.1 (25, b, w) j516_) ∧ ∃ j520_ : Nat, ((j520_ : Int) = z510_.toInt) ∧ ∃ z518_ : Int32, (z518_ = M_4.1 (25, b, w) j520_) ∧ ∃ z522_ : Int32, (z522_.toInt = z12_.toInt - 2000) ∧ (((¬ z518_.toInt = 0) ∧ ∃ z525_ : Int32, (z525_ = z514_ - z514_ / z518_ * z518_) ∧ ∃ z527_ : Int32, (z527_.toInt = z510_.toInt - 1) ∧ ∃ j531_ : Nat, ((j531_ : Int) = z527_.toInt) ∧ ∃ M529_ : mM, (M529_ = up M_4 (25, b, w) j531_ z525_) ∧ ∃ z535_ : Int32, (z535_.toInt = v3_4.toInt + 1) ∧ v3_4y = z535_ ∧ v2_4y = z510_ ∧ M_4y = M529_) ∨ ((z518_.toInt = 0) ∧ ∃ z537_ : Int32, (z537_.toInt = z510_.toInt - 1) ∧ ∃ j541_ : Nat, ((j541_ : Int) = z537_.toInt) ∧ ∃ M539_ : mM, (M539_ = up M_4 (25, b, w) j541_ 0) ∧ ∃ z545_ : Int32, (z545_.toInt = v3_4.toInt + 1) ∧ v3_4y = z545_ ∧ v2_4y = z510_ ∧ M_4y = M539_))))) ∨ ((3 ≤ v2_4.toInt) ∧ ∃ z547_ : Int32, (z547_.toInt = v2_4.toInt + (-2)) ∧ ∃ z549_ : Int32, (z549_.toInt = z547_.toInt - 1) ∧ ∃ z551_ : Int32, (z551_.toInt = z547_.toInt - 1) ∧ ∃ j555_ : Nat, ((j555_ : Int) = z551_.toInt) ∧ ∃ z553_ : Int32, (z553_ = M_4.1 (25, b, w) j555_) ∧ (((z553_.toInt = 0) ∧ ∃ z558_ : Int32, (z558_.toInt = z547_.toInt + 1) ∧ ∃ j562_ : Nat, ((j562_ : Int) = z558_.toInt) ∧ ∃ z560_ : Int32, (z560_ = M_4.1 (25, b, w) j562_) ∧ ∃ j566_ : Nat, ((j566_ : Int) = z549_.toInt) ∧ ∃ M564_ : mM, (M564_ = up M_4 (25, b, w) j566_ z560_) ∧ ∃ z570_ : Int32, (z570_.toInt = v3_4.toInt + 1) ∧ v3_4y = z570_ ∧ v2_4y = z547_ ∧ M_4y = M564_) ∨ ((¬ z553_.toInt = 0) ∧ ∃ j574_ : Nat, ((j574_ : Int) = z547_.toInt) ∧ ∃ z572_ : Int32, (z572_ = M_4.1 (25, b, w) j574_) ∧ ∃ j578_ : Nat, ((j578_ : Int) = z549_.toInt) ∧ ∃ M576_ : mM, (M576_ = up M_4 (25, b, w) j578_ z572_) ∧ ∃ z582_ : Int32, (z582_.toInt = v3_4.toInt + 1) ∧ v3_4y = z582_ ∧ v2_4y = z547_ ∧ M_4y = M576_))))))) ∨ ((z12_.toInt = 2126) ∧ (((v2_4.toInt < 1) ∧ (¬ z12_.toInt = 2063) ∧ (v2_4.toInt < 2) ∧ ∃ z587_ : Int32, (z587_.toInt = v3_4.toInt + 1) ∧ v3_4y = z587_ ∧ v2_4y = v2_4 ∧ M_4y = M_4) ∨ ((1 ≤ v2_4.toInt) ∧ ∃ z589_ : Int32, (z589_.toInt = v2_4.toInt - 1) ∧ ∃ z591_ : Int32, (z591_.toInt = v2_4.toInt - 1) ∧ ∃ j595_ : Nat, ((j595_ : Int) = z591_.toInt) ∧ ∃ z593_ : Int32, (z593_ = M_4.1 (25, b, w) j595_) ∧ ∃ z597_ : Int32, (z597_ = -z593_) ∧ ∃ j601_ : Nat, ((j601_ : Int) = z589_.toInt) ∧ ∃ M599_ : mM, (M599_ = up M_4 (25, b, w) j601_ z597_) ∧ ∃ z605_ : Int32, (z605_.toInt = v3_4.toInt + 1) ∧ v3_4y = z605_ ∧ v2_4y = v2_4 ∧ M_4y = M599_))))) ∨ ((z12_.toInt < 2000) ∧ (((48 ≤ v2_4.toInt) ∧ (¬ z12_.toInt = 2126) ∧ (¬ z12_.toInt = 2063) ∧ (2 ≤ v2_4.toInt) ∧ ∃ z611_ : Int32, (z611_.toInt = v2_4.toInt + (-1)) ∧ ∃ z613_ : Int32, (z613_.toInt = z611_.toInt - 1) ∧ ∃ j617_ : Nat, ((j617_ : Int) = z613_.toInt) ∧ ∃ z615_ : Int32, (z615_ = M_4.1 (25, b, w) j617_) ∧ ∃ j621_ : Nat, ((j621_ : Int) = z611_.toInt) ∧ ∃ z619_ : Int32, (z619_ = M_4.1 (25, b, w) j621_) ∧ ∃ z623_ : Int32, (z623_ = z12_ - (2000 : Int32)) ∧ (((z623_.toInt = 42) ∧ ∃ z626_ : Int32, (z626_ = z615_ * z619_) ∧ ∃ z628_ : Int32, (z628_.toInt = z611_.toInt - 1) ∧ ∃ j632_ : Nat, ((j632_ : Int) = z628_.toInt) ∧ ∃ M630_ : mM, (M630_ = up M_4 (25, b, w) j632_ z626_) ∧ ∃ z636_ : Int32, (z636_.toInt = v3_4.toInt + 1) ∧ v3_4y = z636_ ∧ v2_4y = z611_ ∧ M_4y = M630_) ∨ ((z623_.toInt = 43) ∧ ∃ z638_ : Int32, (z638_ = z615_ + z619_) ∧ ∃ z640_ : Int32, (z640_.toInt = z611_.toInt - 1) ∧ ∃ j644_ : Nat, ((j644_ : Int) = z640_.toInt) ∧ ∃ M642_ : mM, (M642_ = up M_4 (25, b, w) j644_ z638_) ∧ ∃ z648_ : Int32, (z648_.toInt = v3_4.toInt + 1) ∧ v3_4y = z648_ ∧ v2_4y = z611_ ∧ M_4y = M642_) ∨ ((z623_.toInt = 44) ∧ (((¬ z619_.toInt = 0) ∧ ∃ z651_ : Int32, (z651_ = z615_ - z615_ / z619_ * z619_) ∧ ∃ z653_ : Int32, (z653_.toInt = z611_.toInt - 1) ∧ ∃ j657_ : Nat, ((j657_ : Int) = z653_.toInt) ∧ ∃ M655_ : mM, (M655_ = up M_4 (25, b, w) j657_ z651_) ∧ ∃ z661_ : Int32, (z661_.toInt = v3_4.toInt + 1) ∧ v3_4y = z661_ ∧ v2_4y = z611_ ∧ M_4y = M655_) ∨ ((z619_.toInt = 0) ∧ ∃ z663_ : Int32, (z663_.toInt = z611_.toInt - 1) ∧ ∃ j667_ : Nat, ((j667_ : Int) = z663_.toInt) ∧ ∃ M665_ : mM, (M665_ = up M_4 (25, b, w) j667_ 0) ∧ ∃ z671_ : Int32, (z671_.toInt = v3_4.toInt + 1) ∧ v3_4y = z671_ ∧ v2_4y = z611_ ∧ M_4y = M665_))) ∨ ((z623_.toInt = 45) ∧ ∃ z673_ : Int32, (z673_ = z615_ - z619_) ∧ ∃ z675_ : Int32, (z675_.toInt = z611_.toInt - 1) ∧ ∃ j679_ : Nat, ((j679_ : Int) = z675_.toInt) ∧ ∃ M677_ : mM, (M677_ = up M_4 (25, b, w) j679_ z673_) ∧ ∃ z683_ : Int32, (z683_.toInt = v3_4.toInt + 1) ∧ v3_4y = z683_ ∧ v2_4y = z611_ ∧ M_4y = M677_) ∨ ((z623_.toInt = 46) ∧ (((¬ z619_.toInt = 0) ∧ ∃ z686_ : Int32, (z686_ = z615_ - z615_ / z619_ * z619_) ∧ ∃ z688_ : Int32, (z688_.toInt = z611_.toInt - 1) ∧ ∃ j692_ : Nat, ((j692_ : Int) = z688_.toInt) ∧ ∃ M690_ : mM, (M690_ = up M_4 (25, b, w) j692_ z686_) ∧ ∃ z696_ : Int32, (z696_.toInt = v3_4.toInt + 1) ∧ v3_4y = z696_ ∧ v2_4y = z611_ ∧ M_4y = M690_) ∨ ((z619_.toInt = 0) ∧ ∃ z698_ : Int32, (z698_.toInt = z611_.toInt - 1) ∧ ∃ j702_ : Nat, ((j702_ : Int) = z698_.toInt) ∧ ∃ M700_ : mM, (M700_ = up M_4 (25, b, w) j702_ 0) ∧ ∃ z706_ : Int32, (z706_.toInt = v3_4.toInt + 1) ∧ v3_4y = z706_ ∧ v2_4y = z611_ ∧ M_4y = M700_))) ∨ ((z623_.toInt = 47) ∧ (((¬ z619_.toInt = 0) ∧ ∃ z709_ : Int32, (z709_ = z615_ / z619_) ∧ ∃ z711_ : Int32, (z711_.toInt = z611_.toInt - 1) ∧ ∃ j715_ : Nat, ((j715_ : Int) = z711_.toInt) ∧ ∃ M713_ : mM, (M713_ = up M_4 (25, b, w) j715_ z709_) ∧ ∃ z719_ : Int32, (z719_.toInt = v3_4.toInt + 1) ∧ v3_4y = z719_ ∧ v2_4y = z611_ ∧ M_4y = M713_) ∨ ((z619_.toInt = 0) ∧ ∃ z721_ : Int32, (z721_.toInt = z611_.toInt - 1) ∧ ∃ j725_ : Nat, ((j725_ : Int) = z721_.toInt) ∧ ∃ M723_ : mM, (M723_ = up M_4 (25, b, w) j725_ 0) ∧ ∃ z729_ : Int32, (z729_.toInt = v3_4.toInt + 1) ∧ v3_4y = z729_ ∧ v2_4y = z611_ ∧ M_4y = M723_))) ∨ ((z623_.toInt = 48) ∧ (((¬ z619_.toInt = 0) ∧ ∃ z732_ : Int32, (z732_ = z615_ - z615_ / z619_ * z619_) ∧ ∃ z734_ : Int32, (z734_.toInt = z611_.toInt - 1) ∧ ∃ j738_ : Nat, ((j738_ : Int) = z734_.toInt) ∧ ∃ M736_ : mM, (M736_ = up M_4 (25, b, w) j738_ z732_) ∧ ∃ z742_ : Int32, (z742_.toInt = v3_4.toInt + 1) ∧ v3_4y = z742_ ∧ v2_4y = z611_ ∧ M_4y = M736_) ∨ ((z619_.toInt = 0) ∧ ∃ z744_ : Int32, (z744_.toInt = z611_.toInt - 1) ∧ ∃ j748_ : Nat, ((j748_ : Int) = z744_.toInt) ∧ ∃ M746_ : mM, (M746_ = up M_4 (25, b, w) j748_ 0) ∧ ∃ z752_ : Int32, (z752_.toInt = v3_4.toInt + 1) ∧ v3_4y = z752_ ∧ v2_4y = z611_ ∧ M_4y = M746_))) ∨ ((z623_.toInt = 49) ∧ (((¬ z619_.toInt = 0) ∧ ∃ z755_ : Int32, (z755_ = z615_ - z615_ / z619_ * z619_) ∧ ∃ z757_ : Int32, (z757_.toInt = z611_.toInt - 1) ∧ ∃ j761_ : Nat, ((j761_ : Int) = z757_.toInt) ∧ ∃ M759_ : mM, (M759_ = up M_4 (25, b, w) j761_ z755_) ∧ ∃ z765_ : Int32, (z765_.toInt = v3_4.toInt + 1) ∧ v3_4y = z765_ ∧ v2_4y = z611_ ∧ M_4y = M759_) ∨ ((z619_.toInt = 0) ∧ ∃ z767_ : Int32, (z767_.toInt = z611_.toInt - 1) ∧ ∃ j771_ : Nat, ((j771_ : Int) = z767_.toInt) ∧ ∃ M769_ : mM, (M769_ = up M_4 (25, b, w) j771_ 0) ∧ ∃ z775_ : Int32, (z775_.toInt = v3_4.toInt + 1) ∧ v3_4y = z775_ ∧ v2_4y = z611_ ∧ M_4y = M769_))) ∨ ((z623_.toInt = 50) ∧ (((¬ z619_.toInt = 0) ∧ ∃ z778_ : Int32, (z778_ = z615_ - z615_ / z619_ * z619_) ∧ ∃ z780_ : Int32, (z780_.toInt = z611_.toInt - 1) ∧ ∃ j784_ : Nat, ((j784_ : Int) = z780_.toInt) ∧ ∃ M782_ : mM, (M782_ = up M_4 (25, b, w) j784_ z778_) ∧ ∃ z788_ : Int32, (z788_.toInt = v3_4.toInt + 1) ∧ v3_4y = z788_ ∧ v2_4y = z611_ ∧ M_4y = M782_) ∨ ((z619_.toInt = 0) ∧ ∃ z790_ : Int32, (z790_.toInt = z611_.toInt - 1) ∧ ∃ j794_ : Nat, ((j794_ : Int) = z790_.toInt) ∧ ∃ M792_ : mM, (M792_ = up M_4 (25, b, w) j794_ 0) ∧ ∃ z798_ : Int32, (z798_.toInt = v3_4.toInt + 1) ∧ v3_4y = z798_ ∧ v2_4y = z611_ ∧ M_4y = M792_))) ∨ ((z623_.toInt = 51) ∧ (((¬ z619_.toInt = 0) ∧ ∃ z801_ : Int32, (z801_ = z615_ - z615_ / z619_ * z619_) ∧ ∃ z803_ : Int32, (z803_.toInt = z611_.toInt - 1) ∧ ∃ j807_ : Nat, ((j807_ : Int) = z803_.toInt) ∧ ∃ M805_ : mM, (M805_ = up M_4 (25, b, w) j807_ z801_) ∧ ∃ z811_ : Int32, (z811_.toInt = v3_4.toInt + 1) ∧ v3_4y = z811_ ∧ v2_4y = z611_ ∧ M_4y = M805_) ∨ ((z619_.toInt = 0) ∧ ∃ z813_ : Int32, (z813_.toInt = z611_.toInt - 1) ∧ ∃ j817_ : Nat, ((j817_ : Int) = z813_.toInt) ∧ ∃ M815_ : mM, (M815_ = up M_4 (25, b, w) j817_ 0) ∧ ∃ z821_ : Int32, (z821_.toInt = v3_4.toInt + 1) ∧ v3_4y = z821_ ∧ v2_4y = z611_ ∧ M_4y = M815_))) ∨ ((z623_.toInt = 52) ∧ (((¬ z619_.toInt = 0) ∧ ∃ z824_ : Int32, (z824_ = z615_ - z615_ / z619_ * z619_) ∧ ∃ z826_ : Int32, (z826_.toInt = z611_.toInt - 1) ∧ ∃ j830_ : Nat, ((j830_ : Int) = z826_.toInt) ∧ ∃ M828_ : mM, (M828_ = up M_4 (25, b, w) j830_ z824_) ∧ ∃ z834_ : Int32, (z834_.toInt = v3_4.toInt + 1) ∧ v3_4y = z834_ ∧ v2_4y = z611_ ∧ M_4y = M828_) ∨ ((z619_.toInt = 0) ∧ ∃ z836_ : Int32, (z836_.toInt = z611_.toInt - 1) ∧ ∃ j840_ : Nat, ((j840_ : Int) = z836_.toInt) ∧ ∃ M838_ : mM, (M838_ = up M_4 (25, b, w) j840_ 0) ∧ ∃ z844_ : Int32, (z844_.toInt = v3_4.toInt + 1) ∧ v3_4y = z844_ ∧ v2_4y = z611_ ∧ M_4y = M838_))) ∨ ((z623_.toInt = 53) ∧ (((¬ z619_.toInt = 0) ∧ ∃ z847_ : Int32, (z847_ = z615_ - z615_ / z619_ * z619_) ∧ ∃ z849_ : Int32, (z849_.toInt = z611_.toInt - 1) ∧ ∃ j853_ : Nat, ((j853_ : Int) = z849_.toInt) ∧ ∃ M851_ : mM, (M851_ = up M_4 (25, b, w) j853_ z847_) ∧ ∃ z857_ : Int32, (z857_.toInt = v3_4.toInt + 1) ∧ v3_4y = z857_ ∧ v2_4y = z611_ ∧ M_4y = M851_) ∨ ((z619_.toInt = 0) ∧ ∃ z859_ : Int32, (z859_.toInt = z611_.toInt - 1) ∧ ∃ j863_ : Nat, ((j863_ : Int) = z859_.toInt) ∧ ∃ M861_ : mM, (M861_ = up M_4 (25, b, w) j863_ 0) ∧ ∃ z867_ : Int32, (z867_.toInt = v3_4.toInt + 1) ∧ v3_4y = z867_ ∧ v2_4y = z611_ ∧ M_4y = M861_))) ∨ ((z623_.toInt = 54) ∧ (((¬ z619_.toInt = 0) ∧ ∃ z870_ : Int32, (z870_ = z615_ - z615_ / z619_ * z619_) ∧ ∃ z872_ : Int32, (z872_.toInt = z611_.toInt - 1) ∧ ∃ j876_ : Nat, ((j876_ : Int) = z872_.toInt) ∧ ∃ M874_ : mM, (M874_ = up M_4 (25, b, w) j876_ z870_) ∧ ∃ z880_ : Int32, (z880_.toInt = v3_4.toInt + 1) ∧ v3_4y = z880_ ∧ v2_4y = z611_ ∧ M_4y = M874_) ∨ ((z619_.toInt = 0) ∧ ∃ z882_ : Int32, (z882_.toInt = z611_.toInt - 1) ∧ ∃ j886_ : Nat, ((j886_ : Int) = z882_.toInt) ∧ ∃ M884_ : mM, (M884_ = up M_4 (25, b, w) j886_ 0) ∧ ∃ z890_ : Int32, (z890_.toInt = v3_4.toInt + 1) ∧ v3_4y = z890_ ∧ v2_4y = z611_ ∧ M_4y = M884_))) ∨ ((z623_.toInt = 55) ∧ (((¬ z619_.toInt = 0) ∧ ∃ z893_ : Int32, (z893_ = z615_ - z615_ / z619_ * z619_) ∧ ∃ z895_ : Int32, (z895_.toInt = z611_.toInt - 1) ∧ ∃ j899_ : Nat, ((j899_ : Int) = z895_.toInt) ∧ ∃ M897_ : mM, (M897_ = up M_4 (25, b, w) j899_ z893_) ∧ ∃ z903_ : Int32, (z903_.toInt = v3_4.toInt + 1) ∧ v3_4y = z903_ ∧ v2_4y = z611_ ∧ M_4y = M897_) ∨ ((z619_.toInt = 0) ∧ ∃ z905_ : Int32, (z905_.toInt = z611_.toInt - 1) ∧ ∃ j909_ : Nat, ((j909_ : Int) = z905_.toInt) ∧ ∃ M907_ : mM, (M907_ = up M_4 (25, b, w) j909_ 0) ∧ ∃ z913_ : Int32, (z913_.toInt = v3_4.toInt + 1) ∧ v3_4y = z913_ ∧ v2_4y = z611_ ∧ M_4y = M907_))) ∨ ((z623_.toInt = 56) ∧ (((¬ z619_.toInt = 0) ∧ ∃ z916_ : Int32, (z916_ = z615_ - z615_ / z619_ * z619_) ∧ ∃ z918_ : Int32, (z918_.toInt = z611_.toInt - 1) ∧ ∃ j922_ : Nat, ((j922_ : Int) = z918_.toInt) ∧ ∃ M920_ : mM, (M920_ = up M_4 (25, b, w) j922_ z916_) ∧ ∃ z926_ : Int32, (z926_.toInt = v3_4.toInt + 1) ∧ v3_4y = z926_ ∧ v2_4y = z611_ ∧ M_4y = M920_) ∨ ((z619_.toInt = 0) ∧ ∃ z928_ : Int32, (z928_.toInt = z611_.toInt - 1) ∧ ∃ j932_ : Nat, ((j932_ : Int) = z928_.toInt) ∧ ∃ M930_ : mM, (M930_ = up M_4 (25, b, w) j932_ 0) ∧ ∃ z936_ : Int32, (z936_.toInt = v3_4.toInt + 1) ∧ v3_4y = z936_ ∧ v2_4y = z611_ ∧ M_4y = M930_))) ∨ ((z623_.toInt = 57) ∧ (((¬ z619_.toInt = 0) ∧ ∃ z939_ : Int32, (z939_ = z615_ - z615_ / z619_ * z619_) ∧ ∃ z941_ : Int32, (z941_.toInt = z611_.toInt - 1) ∧ ∃ j945_ : Nat, ((j945_ : Int) = z941_.toInt) ∧ ∃ M943_ : mM, (M943_ = up M_4 (25, b, w) j945_ z939_) ∧ ∃ z949_ : Int32, (z949_.toInt = v3_4.toInt + 1) ∧ v3_4y = z949_ ∧ v2_4y = z611_ ∧ M_4y = M943_) ∨ ((z619_.toInt = 0) ∧ ∃ z951_ : Int32, (z951_.toInt = z611_.toInt - 1) ∧ ∃ j955_ : Nat, ((j955_ : Int) = z951_.toInt) ∧ ∃ M953_ : mM, (M953_ = up M_4 (25, b, w) j955_ 0) ∧ ∃ z959_ : Int32, (z959_.toInt = v3_4.toInt + 1) ∧ v3_4y = z959_ ∧ v2_4y = z611_ ∧ M_4y = M953_))) ∨ ((z623_.toInt = 58) ∧ (((¬ z619_.toInt = 0) ∧ ∃ z962_ : Int32, (z962_ = z615_ - z615_ / z619_ * z619_) ∧ ∃ z964_ : Int32, (z964_.toInt = z611_.toInt - 1) ∧ ∃ j968_ : Nat, ((j968_ : Int) = z964_.toInt) ∧ ∃ M966_ : mM, (M966_ = up M_4 (25, b, w) j968_ z962_) ∧ ∃ z972_ : Int32, (z972_.toInt = v3_4.toInt + 1) ∧ v3_4y = z972_ ∧ v2_4y = z611_ ∧ M_4y = M966_) ∨ ((z619_.toInt = 0) ∧ ∃ z974_ : Int32, (z974_.toInt = z611_.toInt - 1) ∧ ∃ j978_ : Nat, ((j978_ : Int) = z974_.toInt) ∧ ∃ M976_ : mM, (M976_ = up M_4 (25, b, w) j978_ 0) ∧ ∃ z982_ : Int32, (z982_.toInt = v3_4.toInt + 1) ∧ v3_4y = z982_ ∧ v2_4y = z611_ ∧ M_4y = M976_))) ∨ ((z623_.toInt = 59) ∧ (((¬ z619_.toInt = 0) ∧ ∃ z985_ : Int32, (z985_ = z615_ - z615_ / z619_ * z619_) ∧ ∃ z987_ : Int32, (z987_.toInt = z611_.toInt - 1) ∧ ∃ j991_ : Nat, ((j991_ : Int) = z987_.toInt) ∧ ∃ M989_ : mM, (M989_ = up M_4 (25, b, w) j991_ z985_) ∧ ∃ z995_ : Int32, (z995_.toInt = v3_4.toInt + 1) ∧ v3_4y = z995_ ∧ v2_4y = z611_ ∧ M_4y = M989_) ∨ ((z619_.toInt = 0) ∧ ∃ z997_ : Int32, (z997_.toInt = z611_.toInt - 1) ∧ ∃ j1001_ : Nat, ((j1001_ : Int) = z997_.toInt) ∧ ∃ M999_ : mM, (M999_ = up M_4 (25, b, w) j1001_ 0) ∧ ∃ z1005_ : Int32, (z1005_.toInt = v3_4.toInt + 1) ∧ v3_4y = z1005_ ∧ v2_4y = z611_ ∧ M_4y = M999_))) ∨ ((z623_.toInt = 60) ∧ (((z619_.toInt ≤ z615_.toInt) ∧ ∃ z1008_ : Int32, (z1008_.toInt = z611_.toInt - 1) ∧ ∃ j1012_ : Nat, ((j1012_ : Int) = z1008_.toInt) ∧ ∃ M1010_ : mM, (M1010_ = up M_4 (25, b, w) j1012_ 0) ∧ ∃ z1016_ : Int32, (z1016_.toInt = v3_4.toInt + 1) ∧ v3_4y = z1016_ ∧ v2_4y = z611_ ∧ M_4y = M1010_) ∨ ((z615_.toInt < z619_.toInt) ∧ ∃ z1018_ : Int32, (z1018_.toInt = z611_.toInt - 1) ∧ ∃ j1022_ : Nat, ((j1022_ : Int) = z1018_.toInt) ∧ ∃ M1020_ : mM, (M1020_ = up M_4 (25, b, w) j1022_ 1) ∧ ∃ z1026_ : Int32, (z1026_.toInt = v3_4.toInt + 1) ∧ v3_4y = z1026_ ∧ v2_4y = z611_ ∧ M_4y = M1020_))) ∨ ((z623_.toInt = 61) ∧ (((¬ z615_.toInt = z619_.toInt) ∧ ∃ z1029_ : Int32, (z1029_.toInt = z611_.toInt - 1) ∧ ∃ j1033_ : Nat, ((j1033_ : Int) = z1029_.toInt) ∧ ∃ M1031_ : mM, (M1031_ = up M_4 (25, b, w) j1033_ 0) ∧ ∃ z1037_ : Int32, (z1037_.toInt = v3_4.toInt + 1) ∧ v3_4y = z1037_ ∧ v2_4y = z611_ ∧ M_4y = M1031_) ∨ ((z615_.toInt = z619_.toInt) ∧ ∃ z1039_ : Int32, (z1039_.toInt = z611_.toInt - 1) ∧ ∃ j1043_ : Nat, ((j1043_ : Int) = z1039_.toInt) ∧ ∃ M1041_ : mM, (M1041_ = up M_4 (25, b, w) j1043_ 1) ∧ ∃ z1047_ : Int32, (z1047_.toInt = v3_4.toInt + 1) ∧ v3_4y = z1047_ ∧ v2_4y = z611_ ∧ M_4y = M1041_))) ∨ ((z623_.toInt = 62) ∧ (((z615_.toInt ≤ z619_.toInt) ∧ ∃ z1050_ : Int32, (z1050_.toInt = z611_.toInt - 1) ∧ ∃ j1054_ : Nat, ((j1054_ : Int) = z1050_.toInt) ∧ ∃ M1052_ : mM, (M1052_ = up M_4 (25, b, w) j1054_ 0) ∧ ∃ z1058_ : Int32, (z1058_.toInt = v3_4.toInt + 1) ∧ v3_4y = z1058_ ∧ v2_4y = z611_ ∧ M_4y = M1052_) ∨ ((z619_.toInt < z615_.toInt) ∧ ∃ z1060_ : Int32, (z1060_.toInt = z611_.toInt - 1) ∧ ∃ j1064_ : Nat, ((j1064_ : Int) = z1060_.toInt) ∧ ∃ M1062_ : mM, (M1062_ = up M_4 (25, b, w) j1064_ 1) ∧ ∃ z1068_ : Int32, (z1068_.toInt = v3_4.toInt + 1) ∧ v3_4y = z1068_ ∧ v2_4y = z611_ ∧ M_4y = M1062_))) ∨ (((¬ z623_.toInt = 42 ∧ ¬ z623_.toInt = 43 ∧ ¬ z623_.toInt = 44 ∧ ¬ z623_.toInt = 45 ∧ ¬ z623_.toInt = 46 ∧ ¬ z623_.toInt = 47 ∧ ¬ z623_.toInt = 48 ∧ ¬ z623_.toInt = 49 ∧ ¬ z623_.toInt = 50 ∧ ¬ z623_.toInt = 51 ∧ ¬ z623_.toInt = 52 ∧ ¬ z623_.toInt = 53 ∧ ¬ z623_.toInt = 54 ∧ ¬ z623_.toInt = 55 ∧ ¬ z623_.toInt = 56 ∧ ¬ z623_.toInt = 57 ∧ ¬ z623_.toInt = 58 ∧ ¬ z623_.toInt = 59 ∧ ¬ z623_.toInt = 60 ∧ ¬ z623_.toInt = 61 ∧ ¬ z623_.toInt = 62)) ∧ (((¬ z619_.toInt = 0) ∧ ∃ z1071_ : Int32, (z1071_ = z615_ - z615_ / z619_ * z619_) ∧ ∃ z1073_ : Int32, (z1073_.toInt = z611_.toInt - 1) ∧ ∃ j1077_ : Nat, ((j1077_ : Int) = z1073_.toInt) ∧ ∃ M1075_ : mM, (M1075_ = up M_4 (25, b, w) j1077_ z1071_) ∧ ∃ z1081_ : Int32, (z1081_.toInt = v3_4.toInt + 1) ∧ v3_4y = z1081_ ∧ v2_4y = z611_ ∧ M_4y = M1075_) ∨ ((z619_.toInt = 0) ∧ ∃ z1083_ : Int32, (z1083_.toInt = z611_.toInt - 1) ∧ ∃ j1087_ : Nat, ((j1087_ : Int) = z1083_.toInt) ∧ ∃ M1085_ : mM, (M1085_ = up M_4 (25, b, w) j1087_ 0) ∧ ∃ z1091_ : Int32, (z1091_.toInt = v3_4.toInt + 1) ∧ v3_4y = z1091_ ∧ v2_4y = z611_ ∧ M_4y = M1085_))))) ∨ ((v2_4.toInt < 48) ∧ (((0 ≤ z16_.toInt) ∧ (((5 ≤ z16_.toInt) ∧ ∃ j1097_ : Nat, ((j1097_ : Int) = v2_4.toInt) ∧ ∃ M1095_ : mM, (M1095_ = up M_4 (25, b, w) j1097_ 0) ∧ ∃ z1101_ : Int32, (z1101_.toInt = v2_4.toInt + 1) ∧ ∃ z1103_ : Int32, (z1103_.toInt = v3_4.toInt + 1) ∧ v3_4y = z1103_ ∧ v2_4y = z1101_ ∧ M_4y = M1095_) ∨ ((z16_.toInt < 5) ∧ ∃ j1107_ : Nat, ((j1107_ : Int) = z16_.toInt) ∧ ∃ z1105_ : Int32, (z1105_ = M_4.1 (29, b2, 0) j1107_) ∧ ∃ j1111_ : Nat, ((j1111_ : Int) = v2_4.toInt) ∧ ∃ M1109_ : mM, (M1109_ = up M_4 (25, b, w) j1111_ z1105_) ∧ ∃ z1115_ : Int32, (z1115_.toInt = v2_4.toInt + 1) ∧ ∃ z1117_ : Int32, (z1117_.toInt = v3_4.toInt + 1) ∧ v3_4y = z1117_ ∧ v2_4y = z1115_ ∧ M_4y = M1109_))) ∨ ((z16_.toInt < 0) ∧ ∃ j1121_ : Nat, ((j1121_ : Int) = v2_4.toInt) ∧ ∃ M1119_ : mM, (M1119_ = up M_4 (25, b, w) j1121_ z12_) ∧ ∃ z1125_ : Int32, (z1125_.toInt = v2_4.toInt + 1) ∧ ∃ z1127_ : Int32, (z1127_.toInt = v3_4.toInt + 1) ∧ v3_4y = z1127_ ∧ v2_4y = z1125_ ∧ M_4y = M1119_))))))
def SP_X1_work (b : Nat) (w : Nat) (b2 : Nat) (Mz : mM) (r_ : Int32) (M_ : mM) : Prop := ∃ v3_4 : Int32, (0 ≤ v3_4.toInt) ∧ ∃ v2_4 : Int32, (0 ≤ v2_4.toInt) ∧ (v2_4.toInt ≤ 48) ∧ ∃ M_4 : mM, (RCH (fun x_ y_ => ST_X1_work_4 b w b2 Mz x_.1 x_.2.1 x_.2.2 y_.1 y_.2.1 y_.2.2) ((0 : Int32), (0 : Int32), Mz) (v3_4, v2_4, M_4)) ∧ (Inv M_4) ∧ (FR (S_c_X1_work b w b2) Mz M_4) ∧ ∃ z2_ : Int32, (z2_ = M_4.1 (1, b, w) 2) ∧ (((z2_.toInt ≤ v3_4.toInt) ∧ (((v2_4.toInt ≤ 0) ∧ r_ = 0 ∧ M_ = M_4) ∨ ((0 < v2_4.toInt) ∧ ∃ z6_ : Int32, (z6_ = M_4.1 (25, b, w) 0) ∧ r_ = z6_ ∧ M_ = M_4))) ∨ ((v3_4.toInt < z2_.toInt) ∧ (48 ≤ v3_4.toInt) ∧ (((v2_4.toInt ≤ 0) ∧ r_ = 0 ∧ M_ = M_4) ∨ ((0 < v2_4.toInt) ∧ ∃ z10_ : Int32, (z10_ = M_4.1 (25, b, w) 0) ∧ r_ = z10_ ∧ M_ = M_4))))
theorem lf_c_X1_work_1 (v3_4 : Int32) (hv0_4 : 0 ≤ v3_4.toInt) (h8_ : v3_4.toInt < 48) : -2147483648 ≤ v3_4.toInt + 1 ∧ v3_4.toInt + 1 < 2147483648 := by omega
theorem lf_c_X1_work_3 (v3_4 : Int32) (z22_ : Int32) (h8_ : v3_4.toInt < 48) (h23_ : z22_.toInt = v3_4.toInt + 1) : (2147483648 - z22_.toInt).toNat < (2147483648 - v3_4.toInt).toNat := by omega
theorem lf_c_X1_work_4 (v2_4 : Int32) (hv2_4 : v2_4.toInt ≤ 48) (h21_ : 2 ≤ v2_4.toInt) : -2147483648 ≤ v2_4.toInt + (-1) ∧ v2_4.toInt + (-1) < 2147483648 := by omega
theorem lf_c_X1_work_5 (v2_4 : Int32) (z24_ : Int32) (hv2_4 : v2_4.toInt ≤ 48) (h21_ : 2 ≤ v2_4.toInt) (h25_ : z24_.toInt = v2_4.toInt + (-1)) : -2147483648 ≤ z24_.toInt - 1 ∧ z24_.toInt - 1 < 2147483648 := by omega
theorem lf_c_X1_work_6 (v2_4 : Int32) (z24_ : Int32) (z26_ : Int32) (hv2_4 : v2_4.toInt ≤ 48) (h21_ : 2 ≤ v2_4.toInt) (h25_ : z24_.toInt = v2_4.toInt + (-1)) (h27_ : z26_.toInt = z24_.toInt - 1) : 0 ≤ z26_.toInt ∧ z26_.toInt < ((48 : Nat) : Int) := by omega
theorem lf_c_X1_work_7 (v2_4 : Int32) (z24_ : Int32) (hv2_4 : v2_4.toInt ≤ 48) (h21_ : 2 ≤ v2_4.toInt) (h25_ : z24_.toInt = v2_4.toInt + (-1)) : 0 ≤ z24_.toInt ∧ z24_.toInt < ((48 : Nat) : Int) := by omega
theorem lf_c_X1_work_8 (z12_ : Int32) (h18_ : 2000 ≤ z12_.toInt) : -2147483648 ≤ z12_.toInt - 2000 ∧ z12_.toInt - 2000 < 2147483648 := by have r_z12_ := rngI z12_; omega
theorem lf_c_X1_work_9 (M_4 : mM) (b : Nat) (w : Nat) (v3_4 : Int32) (v2_4 : Int32) (z2_ : Int32) (j14_ : Nat) (z12_ : Int32) (z24_ : Int32) (z26_ : Int32) (j30_ : Nat) (z28_ : Int32) (j34_ : Nat) (z32_ : Int32) (z36_ : Int32) (hv : vF b w) (hv0_4 : 0 ≤ v3_4.toInt) (hv1_4 : 0 ≤ v2_4.toInt) (hv2_4 : v2_4.toInt ≤ 48) (e3_ : z2_ = M_4.1 (1, b, w) 2) (h4_ : v3_4.toInt < z2_.toInt) (h8_ : v3_4.toInt < 48) (h15_ : (j14_ : Int) = v3_4.toInt) (e13_ : z12_ = M_4.1 (24, b, w) j14_) (h18_ : 2000 ≤ z12_.toInt) (h19_ : ¬ z12_.toInt = 2126) (h20_ : ¬ z12_.toInt = 2063) (h21_ : 2 ≤ v2_4.toInt) (h25_ : z24_.toInt = v2_4.toInt + (-1)) (h27_ : z26_.toInt = z24_.toInt - 1) (h31_ : (j30_ : Int) = z26_.toInt) (e29_ : z28_ = M_4.1 (25, b, w) j30_) (h35_ : (j34_ : Int) = z24_.toInt) (e33_ : z32_ = M_4.1 (25, b, w) j34_) (h37_ : z36_.toInt = z12_.toInt - 2000) : z36_.toInt = 42 ∨ z36_.toInt = 43 ∨ z36_.toInt = 44 ∨ z36_.toInt = 45 ∨ z36_.toInt = 46 ∨ z36_.toInt = 47 ∨ z36_.toInt = 48 ∨ z36_.toInt = 49 ∨ z36_.toInt = 50 ∨ z36_.toInt = 51 ∨ z36_.toInt = 52 ∨ z36_.toInt = 53 ∨ z36_.toInt = 54 ∨ z36_.toInt = 55 ∨ z36_.toInt = 56 ∨ z36_.toInt = 57 ∨ z36_.toInt = 58 ∨ z36_.toInt = 59 ∨ z36_.toInt = 60 ∨ z36_.toInt = 61 ∨ z36_.toInt = 62 ∨ (¬ z36_.toInt = 42 ∧ ¬ z36_.toInt = 43 ∧ ¬ z36_.toInt = 44 ∧ ¬ z36_.toInt = 45 ∧ ¬ z36_.toInt = 46 ∧ ¬ z36_.toInt = 47 ∧ ¬ z36_.toInt = 48 ∧ ¬ z36_.toInt = 49 ∧ ¬ z36_.toInt = 50 ∧ ¬ z36_.toInt = 51 ∧ ¬ z36_.toInt = 52 ∧ ¬ z36_.toInt = 53 ∧ ¬ z36_.toInt = 54 ∧ ¬ z36_.toInt = 55 ∧ ¬ z36_.toInt = 56 ∧ ¬ z36_.toInt = 57 ∧ ¬ z36_.toInt = 58 ∧ ¬ z36_.toInt = 59 ∧ ¬ z36_.toInt = 60 ∧ ¬ z36_.toInt = 61 ∧ ¬ z36_.toInt = 62) := by have r_v3_4 := rngI v3_4; have r_v2_4 := rngI v2_4; have r_z2_ := rngI z2_; have r_z12_ := rngI z12_; have r_z24_ := rngI z24_; have r_z26_ := rngI z26_; have r_z28_ := rngI z28_; have r_z32_ := rngI z32_; have r_z36_ := rngI z36_; subst e3_; subst e13_; subst e29_; subst e33_; omega
theorem lf_c_X1_work_14 (v2_4 : Int32) (z24_ : Int32) (h21_ : 2 ≤ v2_4.toInt) (h25_ : z24_.toInt = v2_4.toInt + (-1)) : 0 ≤ z24_.toInt := by omega
theorem lf_c_X1_work_15 (v2_4 : Int32) (z24_ : Int32) (hv2_4 : v2_4.toInt ≤ 48) (h25_ : z24_.toInt = v2_4.toInt + (-1)) : z24_.toInt ≤ 48 := by omega
theorem lf_c_X1_work_24 (M_4 : mM) (b : Nat) (w : Nat) (v3_4 : Int32) (v2_4 : Int32) (z2_ : Int32) (j14_ : Nat) (z12_ : Int32) (z24_ : Int32) (z26_ : Int32) (j30_ : Nat) (z28_ : Int32) (j34_ : Nat) (z32_ : Int32) (z36_ : Int32) (hv : vF b w) (hv0_4 : 0 ≤ v3_4.toInt) (hv1_4 : 0 ≤ v2_4.toInt) (hv2_4 : v2_4.toInt ≤ 48) (e3_ : z2_ = M_4.1 (1, b, w) 2) (h4_ : v3_4.toInt < z2_.toInt) (h8_ : v3_4.toInt < 48) (h15_ : (j14_ : Int) = v3_4.toInt) (e13_ : z12_ = M_4.1 (24, b, w) j14_) (h18_ : 2000 ≤ z12_.toInt) (h19_ : ¬ z12_.toInt = 2126) (h20_ : ¬ z12_.toInt = 2063) (h21_ : 2 ≤ v2_4.toInt) (h25_ : z24_.toInt = v2_4.toInt + (-1)) (h27_ : z26_.toInt = z24_.toInt - 1) (h31_ : (j30_ : Int) = z26_.toInt) (e29_ : z28_ = M_4.1 (25, b, w) j30_) (h35_ : (j34_ : Int) = z24_.toInt) (e33_ : z32_ = M_4.1 (25, b, w) j34_) (h37_ : z36_.toInt = z12_.toInt - 2000) (e38_ : z36_.toInt = 44) (h63_ : ¬ z32_.toInt = 0) : ¬ z32_ = 0 := by have r_v3_4 := rngI v3_4; have r_v2_4 := rngI v2_4; have r_z2_ := rngI z2_; have r_z12_ := rngI z12_; have r_z24_ := rngI z24_; have r_z26_ := rngI z26_; have r_z28_ := rngI z28_; have r_z32_ := rngI z32_; have r_z36_ := rngI z36_; intro h9; subst h9; simp at *; try omega
theorem lf_c_X1_work_46 (M_4 : mM) (b : Nat) (w : Nat) (v3_4 : Int32) (v2_4 : Int32) (z2_ : Int32) (j14_ : Nat) (z12_ : Int32) (z24_ : Int32) (z26_ : Int32) (j30_ : Nat) (z28_ : Int32) (j34_ : Nat) (z32_ : Int32) (z36_ : Int32) (hv : vF b w) (hv0_4 : 0 ≤ v3_4.toInt) (hv1_4 : 0 ≤ v2_4.toInt) (hv2_4 : v2_4.toInt ≤ 48) (e3_ : z2_ = M_4.1 (1, b, w) 2) (h4_ : v3_4.toInt < z2_.toInt) (h8_ : v3_4.toInt < 48) (h15_ : (j14_ : Int) = v3_4.toInt) (e13_ : z12_ = M_4.1 (24, b, w) j14_) (h18_ : 2000 ≤ z12_.toInt) (h19_ : ¬ z12_.toInt = 2126) (h20_ : ¬ z12_.toInt = 2063) (h21_ : 2 ≤ v2_4.toInt) (h25_ : z24_.toInt = v2_4.toInt + (-1)) (h27_ : z26_.toInt = z24_.toInt - 1) (h31_ : (j30_ : Int) = z26_.toInt) (e29_ : z28_ = M_4.1 (25, b, w) j30_) (h35_ : (j34_ : Int) = z24_.toInt) (e33_ : z32_ = M_4.1 (25, b, w) j34_) (h37_ : z36_.toInt = z12_.toInt - 2000) (e38_ : z36_.toInt = 46) (h98_ : ¬ z32_.toInt = 0) : ¬ z32_ = 0 := by have r_v3_4 := rngI v3_4; have r_v2_4 := rngI v2_4; have r_z2_ := rngI z2_; have r_z12_ := rngI z12_; have r_z24_ := rngI z24_; have r_z26_ := rngI z26_; have r_z28_ := rngI z28_; have r_z32_ := rngI z32_; have r_z36_ := rngI z36_; intro h9; subst h9; simp at *; try omega
theorem lf_c_X1_work_61 (M_4 : mM) (b : Nat) (w : Nat) (v3_4 : Int32) (v2_4 : Int32) (z2_ : Int32) (j14_ : Nat) (z12_ : Int32) (z24_ : Int32) (z26_ : Int32) (j30_ : Nat) (z28_ : Int32) (j34_ : Nat) (z32_ : Int32) (z36_ : Int32) (hv : vF b w) (hv0_4 : 0 ≤ v3_4.toInt) (hv1_4 : 0 ≤ v2_4.toInt) (hv2_4 : v2_4.toInt ≤ 48) (e3_ : z2_ = M_4.1 (1, b, w) 2) (h4_ : v3_4.toInt < z2_.toInt) (h8_ : v3_4.toInt < 48) (h15_ : (j14_ : Int) = v3_4.toInt) (e13_ : z12_ = M_4.1 (24, b, w) j14_) (h18_ : 2000 ≤ z12_.toInt) (h19_ : ¬ z12_.toInt = 2126) (h20_ : ¬ z12_.toInt = 2063) (h21_ : 2 ≤ v2_4.toInt) (h25_ : z24_.toInt = v2_4.toInt + (-1)) (h27_ : z26_.toInt = z24_.toInt - 1) (h31_ : (j30_ : Int) = z26_.toInt) (e29_ : z28_ = M_4.1 (25, b, w) j30_) (h35_ : (j34_ : Int) = z24_.toInt) (e33_ : z32_ = M_4.1 (25, b, w) j34_) (h37_ : z36_.toInt = z12_.toInt - 2000) (e38_ : z36_.toInt = 47) (h121_ : ¬ z32_.toInt = 0) : ¬ z32_ = 0 := by have r_v3_4 := rngI v3_4; have r_v2_4 := rngI v2_4; have r_z2_ := rngI z2_; have r_z12_ := rngI z12_; have r_z24_ := rngI z24_; have r_z26_ := rngI z26_; have r_z28_ := rngI z28_; have r_z32_ := rngI z32_; have r_z36_ := rngI z36_; intro h9; subst h9; simp at *; try omega
theorem lf_c_X1_work_76 (M_4 : mM) (b : Nat) (w : Nat) (v3_4 : Int32) (v2_4 : Int32) (z2_ : Int32) (j14_ : Nat) (z12_ : Int32) (z24_ : Int32) (z26_ : Int32) (j30_ : Nat) (z28_ : Int32) (j34_ : Nat) (z32_ : Int32) (z36_ : Int32) (hv : vF b w) (hv0_4 : 0 ≤ v3_4.toInt) (hv1_4 : 0 ≤ v2_4.toInt) (hv2_4 : v2_4.toInt ≤ 48) (e3_ : z2_ = M_4.1 (1, b, w) 2) (h4_ : v3_4.toInt < z2_.toInt) (h8_ : v3_4.toInt < 48) (h15_ : (j14_ : Int) = v3_4.toInt) (e13_ : z12_ = M_4.1 (24, b, w) j14_) (h18_ : 2000 ≤ z12_.toInt) (h19_ : ¬ z12_.toInt = 2126) (h20_ : ¬ z12_.toInt = 2063) (h21_ : 2 ≤ v2_4.toInt) (h25_ : z24_.toInt = v2_4.toInt + (-1)) (h27_ : z26_.toInt = z24_.toInt - 1) (h31_ : (j30_ : Int) = z26_.toInt) (e29_ : z28_ = M_4.1 (25, b, w) j30_) (h35_ : (j34_ : Int) = z24_.toInt) (e33_ : z32_ = M_4.1 (25, b, w) j34_) (h37_ : z36_.toInt = z12_.toInt - 2000) (e38_ : z36_.toInt = 48) (h144_ : ¬ z32_.toInt = 0) : ¬ z32_ = 0 := by have r_v3_4 := rngI v3_4; have r_v2_4 := rngI v2_4; have r_z2_ := rngI z2_; have r_z12_ := rngI z12_; have r_z24_ := rngI z24_; have r_z26_ := rngI z26_; have r_z28_ := rngI z28_; have r_z32_ := rngI z32_; have r_z36_ := rngI z36_; intro h9; subst h9; simp at *; try omega
theorem lf_c_X1_work_91 (M_4 : mM) (b : Nat) (w : Nat) (v3_4 : Int32) (v2_4 : Int32) (z2_ : Int32) (j14_ : Nat) (z12_ : Int32) (z24_ : Int32) (z26_ : Int32) (j30_ : Nat) (z28_ : Int32) (j34_ : Nat) (z32_ : Int32) (z36_ : Int32) (hv : vF b w) (hv0_4 : 0 ≤ v3_4.toInt) (hv1_4 : 0 ≤ v2_4.toInt) (hv2_4 : v2_4.toInt ≤ 48) (e3_ : z2_ = M_4.1 (1, b, w) 2) (h4_ : v3_4.toInt < z2_.toInt) (h8_ : v3_4.toInt < 48) (h15_ : (j14_ : Int) = v3_4.toInt) (e13_ : z12_ = M_4.1 (24, b, w) j14_) (h18_ : 2000 ≤ z12_.toInt) (h19_ : ¬ z12_.toInt = 2126) (h20_ : ¬ z12_.toInt = 2063) (h21_ : 2 ≤ v2_4.toInt) (h25_ : z24_.toInt = v2_4.toInt + (-1)) (h27_ : z26_.toInt = z24_.toInt - 1) (h31_ : (j30_ : Int) = z26_.toInt) (e29_ : z28_ = M_4.1 (25, b, w) j30_) (h35_ : (j34_ : Int) = z24_.toInt) (e33_ : z32_ = M_4.1 (25, b, w) j34_) (h37_ : z36_.toInt = z12_.toInt - 2000) (e38_ : z36_.toInt = 49) (h167_ : ¬ z32_.toInt = 0) : ¬ z32_ = 0 := by have r_v3_4 := rngI v3_4; have r_v2_4 := rngI v2_4; have r_z2_ := rngI z2_; have r_z12_ := rngI z12_; have r_z24_ := rngI z24_; have r_z26_ := rngI z26_; have r_z28_ := rngI z28_; have r_z32_ := rngI z32_; have r_z36_ := rngI z36_; intro h9; subst h9; simp at *; try omega
theorem lf_c_X1_work_106 (M_4 : mM) (b : Nat) (w : Nat) (v3_4 : Int32) (v2_4 : Int32) (z2_ : Int32) (j14_ : Nat) (z12_ : Int32) (z24_ : Int32) (z26_ : Int32) (j30_ : Nat) (z28_ : Int32) (j34_ : Nat) (z32_ : Int32) (z36_ : Int32) (hv : vF b w) (hv0_4 : 0 ≤ v3_4.toInt) (hv1_4 : 0 ≤ v2_4.toInt) (hv2_4 : v2_4.toInt ≤ 48) (e3_ : z2_ = M_4.1 (1, b, w) 2) (h4_ : v3_4.toInt < z2_.toInt) (h8_ : v3_4.toInt < 48) (h15_ : (j14_ : Int) = v3_4.toInt) (e13_ : z12_ = M_4.1 (24, b, w) j14_) (h18_ : 2000 ≤ z12_.toInt) (h19_ : ¬ z12_.toInt = 2126) (h20_ : ¬ z12_.toInt = 2063) (h21_ : 2 ≤ v2_4.toInt) (h25_ : z24_.toInt = v2_4.toInt + (-1)) (h27_ : z26_.toInt = z24_.toInt - 1) (h31_ : (j30_ : Int) = z26_.toInt) (e29_ : z28_ = M_4.1 (25, b, w) j30_) (h35_ : (j34_ : Int) = z24_.toInt) (e33_ : z32_ = M_4.1 (25, b, w) j34_) (h37_ : z36_.toInt = z12_.toInt - 2000) (e38_ : z36_.toInt = 50) (h190_ : ¬ z32_.toInt = 0) : ¬ z32_ = 0 := by have r_v3_4 := rngI v3_4; have r_v2_4 := rngI v2_4; have r_z2_ := rngI z2_; have r_z12_ := rngI z12_; have r_z24_ := rngI z24_; have r_z26_ := rngI z26_; have r_z28_ := rngI z28_; have r_z32_ := rngI z32_; have r_z36_ := rngI z36_; intro h9; subst h9; simp at *; try omega
theorem lf_c_X1_work_121 (M_4 : mM) (b : Nat) (w : Nat) (v3_4 : Int32) (v2_4 : Int32) (z2_ : Int32) (j14_ : Nat) (z12_ : Int32) (z24_ : Int32) (z26_ : Int32) (j30_ : Nat) (z28_ : Int32) (j34_ : Nat) (z32_ : Int32) (z36_ : Int32) (hv : vF b w) (hv0_4 : 0 ≤ v3_4.toInt) (hv1_4 : 0 ≤ v2_4.toInt) (hv2_4 : v2_4.toInt ≤ 48) (e3_ : z2_ = M_4.1 (1, b, w) 2) (h4_ : v3_4.toInt < z2_.toInt) (h8_ : v3_4.toInt < 48) (h15_ : (j14_ : Int) = v3_4.toInt) (e13_ : z12_ = M_4.1 (24, b, w) j14_) (h18_ : 2000 ≤ z12_.toInt) (h19_ : ¬ z12_.toInt = 2126) (h20_ : ¬ z12_.toInt = 2063) (h21_ : 2 ≤ v2_4.toInt) (h25_ : z24_.toInt = v2_4.toInt + (-1)) (h27_ : z26_.toInt = z24_.toInt - 1) (h31_ : (j30_ : Int) = z26_.toInt) (e29_ : z28_ = M_4.1 (25, b, w) j30_) (h35_ : (j34_ : Int) = z24_.toInt) (e33_ : z32_ = M_4.1 (25, b, w) j34_) (h37_ : z36_.toInt = z12_.toInt - 2000) (e38_ : z36_.toInt = 51) (h213_ : ¬ z32_.toInt = 0) : ¬ z32_ = 0 := by have r_v3_4 := rngI v3_4; have r_v2_4 := rngI v2_4; have r_z2_ := rngI z2_; have r_z12_ := rngI z12_; have r_z24_ := rngI z24_; have r_z26_ := rngI z26_; have r_z28_ := rngI z28_; have r_z32_ := rngI z32_; have r_z36_ := rngI z36_; intro h9; subst h9; simp at *; try omega
theorem lf_c_X1_work_136 (M_4 : mM) (b : Nat) (w : Nat) (v3_4 : Int32) (v2_4 : Int32) (z2_ : Int32) (j14_ : Nat) (z12_ : Int32) (z24_ : Int32) (z26_ : Int32) (j30_ : Nat) (z28_ : Int32) (j34_ : Nat) (z32_ : Int32) (z36_ : Int32) (hv : vF b w) (hv0_4 : 0 ≤ v3_4.toInt) (hv1_4 : 0 ≤ v2_4.toInt) (hv2_4 : v2_4.toInt ≤ 48) (e3_ : z2_ = M_4.1 (1, b, w) 2) (h4_ : v3_4.toInt < z2_.toInt) (h8_ : v3_4.toInt < 48) (h15_ : (j14_ : Int) = v3_4.toInt) (e13_ : z12_ = M_4.1 (24, b, w) j14_) (h18_ : 2000 ≤ z12_.toInt) (h19_ : ¬ z12_.toInt = 2126) (h20_ : ¬ z12_.toInt = 2063) (h21_ : 2 ≤ v2_4.toInt) (h25_ : z24_.toInt = v2_4.toInt + (-1)) (h27_ : z26_.toInt = z24_.toInt - 1) (h31_ : (j30_ : Int) = z26_.toInt) (e29_ : z28_ = M_4.1 (25, b, w) j30_) (h35_ : (j34_ : Int) = z24_.toInt) (e33_ : z32_ = M_4.1 (25, b, w) j34_) (h37_ : z36_.toInt = z12_.toInt - 2000) (e38_ : z36_.toInt = 52) (h236_ : ¬ z32_.toInt = 0) : ¬ z32_ = 0 := by have r_v3_4 := rngI v3_4; have r_v2_4 := rngI v2_4; have r_z2_ := rngI z2_; have r_z12_ := rngI z12_; have r_z24_ := rngI z24_; have r_z26_ := rngI z26_; have r_z28_ := rngI z28_; have r_z32_ := rngI z32_; have r_z36_ := rngI z36_; intro h9; subst h9; simp at *; try omega
theorem lf_c_X1_work_151 (M_4 : mM) (b : Nat) (w : Nat) (v3_4 : Int32) (v2_4 : Int32) (z2_ : Int32) (j14_ : Nat) (z12_ : Int32) (z24_ : Int32) (z26_ : Int32) (j30_ : Nat) (z28_ : Int32) (j34_ : Nat) (z32_ : Int32) (z36_ : Int32) (hv : vF b w) (hv0_4 : 0 ≤ v3_4.toInt) (hv1_4 : 0 ≤ v2_4.toInt) (hv2_4 : v2_4.toInt ≤ 48) (e3_ : z2_ = M_4.1 (1, b, w) 2) (h4_ : v3_4.toInt < z2_.toInt) (h8_ : v3_4.toInt < 48) (h15_ : (j14_ : Int) = v3_4.toInt) (e13_ : z12_ = M_4.1 (24, b, w) j14_) (h18_ : 2000 ≤ z12_.toInt) (h19_ : ¬ z12_.toInt = 2126) (h20_ : ¬ z12_.toInt = 2063) (h21_ : 2 ≤ v2_4.toInt) (h25_ : z24_.toInt = v2_4.toInt + (-1)) (h27_ : z26_.toInt = z24_.toInt - 1) (h31_ : (j30_ : Int) = z26_.toInt) (e29_ : z28_ = M_4.1 (25, b, w) j30_) (h35_ : (j34_ : Int) = z24_.toInt) (e33_ : z32_ = M_4.1 (25, b, w) j34_) (h37_ : z36_.toInt = z12_.toInt - 2000) (e38_ : z36_.toInt = 53) (h259_ : ¬ z32_.toInt = 0) : ¬ z32_ = 0 := by have r_v3_4 := rngI v3_4; have r_v2_4 := rngI v2_4; have r_z2_ := rngI z2_; have r_z12_ := rngI z12_; have r_z24_ := rngI z24_; have r_z26_ := rngI z26_; have r_z28_ := rngI z28_; have r_z32_ := rngI z32_; have r_z36_ := rngI z36_; intro h9; subst h9; simp at *; try omega
theorem lf_c_X1_work_166 (M_4 : mM) (b : Nat) (w : Nat) (v3_4 : Int32) (v2_4 : Int32) (z2_ : Int32) (j14_ : Nat) (z12_ : Int32) (z24_ : Int32) (z26_ : Int32) (j30_ : Nat) (z28_ : Int32) (j34_ : Nat) (z32_ : Int32) (z36_ : Int32) (hv : vF b w) (hv0_4 : 0 ≤ v3_4.toInt) (hv1_4 : 0 ≤ v2_4.toInt) (hv2_4 : v2_4.toInt ≤ 48) (e3_ : z2_ = M_4.1 (1, b, w) 2) (h4_ : v3_4.toInt < z2_.toInt) (h8_ : v3_4.toInt < 48) (h15_ : (j14_ : Int) = v3_4.toInt) (e13_ : z12_ = M_4.1 (24, b, w) j14_) (h18_ : 2000 ≤ z12_.toInt) (h19_ : ¬ z12_.toInt = 2126) (h20_ : ¬ z12_.toInt = 2063) (h21_ : 2 ≤ v2_4.toInt) (h25_ : z24_.toInt = v2_4.toInt + (-1)) (h27_ : z26_.toInt = z24_.toInt - 1) (h31_ : (j30_ : Int) = z26_.toInt) (e29_ : z28_ = M_4.1 (25, b, w) j30_) (h35_ : (j34_ : Int) = z24_.toInt) (e33_ : z32_ = M_4.1 (25, b, w) j34_) (h37_ : z36_.toInt = z12_.toInt - 2000) (e38_ : z36_.toInt = 54) (h282_ : ¬ z32_.toInt = 0) : ¬ z32_ = 0 := by have r_v3_4 := rngI v3_4; have r_v2_4 := rngI v2_4; have r_z2_ := rngI z2_; have r_z12_ := rngI z12_; have r_z24_ := rngI z24_; have r_z26_ := rngI z26_; have r_z28_ := rngI z28_; have r_z32_ := rngI z32_; have r_z36_ := rngI z36_; intro h9; subst h9; simp at *; try omega
theorem lf_c_X1_work_181 (M_4 : mM) (b : Nat) (w : Nat) (v3_4 : Int32) (v2_4 : Int32) (z2_ : Int32) (j14_ : Nat) (z12_ : Int32) (z24_ : Int32) (z26_ : Int32) (j30_ : Nat) (z28_ : Int32) (j34_ : Nat) (z32_ : Int32) (z36_ : Int32) (hv : vF b w) (hv0_4 : 0 ≤ v3_4.toInt) (hv1_4 : 0 ≤ v2_4.toInt) (hv2_4 : v2_4.toInt ≤ 48) (e3_ : z2_ = M_4.1 (1, b, w) 2) (h4_ : v3_4.toInt < z2_.toInt) (h8_ : v3_4.toInt < 48) (h15_ : (j14_ : Int) = v3_4.toInt) (e13_ : z12_ = M_4.1 (24, b, w) j14_) (h18_ : 2000 ≤ z12_.toInt) (h19_ : ¬ z12_.toInt = 2126) (h20_ : ¬ z12_.toInt = 2063) (h21_ : 2 ≤ v2_4.toInt) (h25_ : z24_.toInt = v2_4.toInt + (-1)) (h27_ : z26_.toInt = z24_.toInt - 1) (h31_ : (j30_ : Int) = z26_.toInt) (e29_ : z28_ = M_4.1 (25, b, w) j30_) (h35_ : (j34_ : Int) = z24_.toInt) (e33_ : z32_ = M_4.1 (25, b, w) j34_) (h37_ : z36_.toInt = z12_.toInt - 2000) (e38_ : z36_.toInt = 55) (h305_ : ¬ z32_.toInt = 0) : ¬ z32_ = 0 := by have r_v3_4 := rngI v3_4; have r_v2_4 := rngI v2_4; have r_z2_ := rngI z2_; have r_z12_ := rngI z12_; have r_z24_ := rngI z24_; have r_z26_ := rngI z26_; have r_z28_ := rngI z28_; have r_z32_ := rngI z32_; have r_z36_ := rngI z36_; intro h9; subst h9; simp at *; try omega
theorem lf_c_X1_work_196 (M_4 : mM) (b : Nat) (w : Nat) (v3_4 : Int32) (v2_4 : Int32) (z2_ : Int32) (j14_ : Nat) (z12_ : Int32) (z24_ : Int32) (z26_ : Int32) (j30_ : Nat) (z28_ : Int32) (j34_ : Nat) (z32_ : Int32) (z36_ : Int32) (hv : vF b w) (hv0_4 : 0 ≤ v3_4.toInt) (hv1_4 : 0 ≤ v2_4.toInt) (hv2_4 : v2_4.toInt ≤ 48) (e3_ : z2_ = M_4.1 (1, b, w) 2) (h4_ : v3_4.toInt < z2_.toInt) (h8_ : v3_4.toInt < 48) (h15_ : (j14_ : Int) = v3_4.toInt) (e13_ : z12_ = M_4.1 (24, b, w) j14_) (h18_ : 2000 ≤ z12_.toInt) (h19_ : ¬ z12_.toInt = 2126) (h20_ : ¬ z12_.toInt = 2063) (h21_ : 2 ≤ v2_4.toInt) (h25_ : z24_.toInt = v2_4.toInt + (-1)) (h27_ : z26_.toInt = z24_.toInt - 1) (h31_ : (j30_ : Int) = z26_.toInt) (e29_ : z28_ = M_4.1 (25, b, w) j30_) (h35_ : (j34_ : Int) = z24_.toInt) (e33_ : z32_ = M_4.1 (25, b, w) j34_) (h37_ : z36_.toInt = z12_.toInt - 2000) (e38_ : z36_.toInt = 56) (h328_ : ¬ z32_.toInt = 0) : ¬ z32_ = 0 := by have r_v3_4 := rngI v3_4; have r_v2_4 := rngI v2_4; have r_z2_ := rngI z2_; have r_z12_ := rngI z12_; have r_z24_ := rngI z24_; have r_z26_ := rngI z26_; have r_z28_ := rngI z28_; have r_z32_ := rngI z32_; have r_z36_ := rngI z36_; intro h9; subst h9; simp at *; try omega
theorem lf_c_X1_work_211 (M_4 : mM) (b : Nat) (w : Nat) (v3_4 : Int32) (v2_4 : Int32) (z2_ : Int32) (j14_ : Nat) (z12_ : Int32) (z24_ : Int32) (z26_ : Int32) (j30_ : Nat) (z28_ : Int32) (j34_ : Nat) (z32_ : Int32) (z36_ : Int32) (hv : vF b w) (hv0_4 : 0 ≤ v3_4.toInt) (hv1_4 : 0 ≤ v2_4.toInt) (hv2_4 : v2_4.toInt ≤ 48) (e3_ : z2_ = M_4.1 (1, b, w) 2) (h4_ : v3_4.toInt < z2_.toInt) (h8_ : v3_4.toInt < 48) (h15_ : (j14_ : Int) = v3_4.toInt) (e13_ : z12_ = M_4.1 (24, b, w) j14_) (h18_ : 2000 ≤ z12_.toInt) (h19_ : ¬ z12_.toInt = 2126) (h20_ : ¬ z12_.toInt = 2063) (h21_ : 2 ≤ v2_4.toInt) (h25_ : z24_.toInt = v2_4.toInt + (-1)) (h27_ : z26_.toInt = z24_.toInt - 1) (h31_ : (j30_ : Int) = z26_.toInt) (e29_ : z28_ = M_4.1 (25, b, w) j30_) (h35_ : (j34_ : Int) = z24_.toInt) (e33_ : z32_ = M_4.1 (25, b, w) j34_) (h37_ : z36_.toInt = z12_.toInt - 2000) (e38_ : z36_.toInt = 57) (h351_ : ¬ z32_.toInt = 0) : ¬ z32_ = 0 := by have r_v3_4 := rngI v3_4; have r_v2_4 := rngI v2_4; have r_z2_ := rngI z2_; have r_z12_ := rngI z12_; have r_z24_ := rngI z24_; have r_z26_ := rngI z26_; have r_z28_ := rngI z28_; have r_z32_ := rngI z32_; have r_z36_ := rngI z36_; intro h9; subst h9; simp at *; try omega
theorem lf_c_X1_work_226 (M_4 : mM) (b : Nat) (w : Nat) (v3_4 : Int32) (v2_4 : Int32) (z2_ : Int32) (j14_ : Nat) (z12_ : Int32) (z24_ : Int32) (z26_ : Int32) (j30_ : Nat) (z28_ : Int32) (j34_ : Nat) (z32_ : Int32) (z36_ : Int32) (hv : vF b w) (hv0_4 : 0 ≤ v3_4.toInt) (hv1_4 : 0 ≤ v2_4.toInt) (hv2_4 : v2_4.toInt ≤ 48) (e3_ : z2_ = M_4.1 (1, b, w) 2) (h4_ : v3_4.toInt < z2_.toInt) (h8_ : v3_4.toInt < 48) (h15_ : (j14_ : Int) = v3_4.toInt) (e13_ : z12_ = M_4.1 (24, b, w) j14_) (h18_ : 2000 ≤ z12_.toInt) (h19_ : ¬ z12_.toInt = 2126) (h20_ : ¬ z12_.toInt = 2063) (h21_ : 2 ≤ v2_4.toInt) (h25_ : z24_.toInt = v2_4.toInt + (-1)) (h27_ : z26_.toInt = z24_.toInt - 1) (h31_ : (j30_ : Int) = z26_.toInt) (e29_ : z28_ = M_4.1 (25, b, w) j30_) (h35_ : (j34_ : Int) = z24_.toInt) (e33_ : z32_ = M_4.1 (25, b, w) j34_) (h37_ : z36_.toInt = z12_.toInt - 2000) (e38_ : z36_.toInt = 58) (h374_ : ¬ z32_.toInt = 0) : ¬ z32_ = 0 := by have r_v3_4 := rngI v3_4; have r_v2_4 := rngI v2_4; have r_z2_ := rngI z2_; have r_z12_ := rngI z12_; have r_z24_ := rngI z24_; have r_z26_ := rngI z26_; have r_z28_ := rngI z28_; have r_z32_ := rngI z32_; have r_z36_ := rngI z36_; intro h9; subst h9; simp at *; try omega
theorem lf_c_X1_work_241 (M_4 : mM) (b : Nat) (w : Nat) (v3_4 : Int32) (v2_4 : Int32) (z2_ : Int32) (j14_ : Nat) (z12_ : Int32) (z24_ : Int32) (z26_ : Int32) (j30_ : Nat) (z28_ : Int32) (j34_ : Nat) (z32_ : Int32) (z36_ : Int32) (hv : vF b w) (hv0_4 : 0 ≤ v3_4.toInt) (hv1_4 : 0 ≤ v2_4.toInt) (hv2_4 : v2_4.toInt ≤ 48) (e3_ : z2_ = M_4.1 (1, b, w) 2) (h4_ : v3_4.toInt < z2_.toInt) (h8_ : v3_4.toInt < 48) (h15_ : (j14_ : Int) = v3_4.toInt) (e13_ : z12_ = M_4.1 (24, b, w) j14_) (h18_ : 2000 ≤ z12_.toInt) (h19_ : ¬ z12_.toInt = 2126) (h20_ : ¬ z12_.toInt = 2063) (h21_ : 2 ≤ v2_4.toInt) (h25_ : z24_.toInt = v2_4.toInt + (-1)) (h27_ : z26_.toInt = z24_.toInt - 1) (h31_ : (j30_ : Int) = z26_.toInt) (e29_ : z28_ = M_4.1 (25, b, w) j30_) (h35_ : (j34_ : Int) = z24_.toInt) (e33_ : z32_ = M_4.1 (25, b, w) j34_) (h37_ : z36_.toInt = z12_.toInt - 2000) (e38_ : z36_.toInt = 59) (h397_ : ¬ z32_.toInt = 0) : ¬ z32_ = 0 := by have r_v3_4 := rngI v3_4; have r_v2_4 := rngI v2_4; have r_z2_ := rngI z2_; have r_z12_ := rngI z12_; have r_z24_ := rngI z24_; have r_z26_ := rngI z26_; have r_z28_ := rngI z28_; have r_z32_ := rngI z32_; have r_z36_ := rngI z36_; intro h9; subst h9; simp at *; try omega
theorem lf_c_X1_work_298 (M_4 : mM) (b : Nat) (w : Nat) (v3_4 : Int32) (v2_4 : Int32) (z2_ : Int32) (j14_ : Nat) (z12_ : Int32) (z24_ : Int32) (z26_ : Int32) (j30_ : Nat) (z28_ : Int32) (j34_ : Nat) (z32_ : Int32) (z36_ : Int32) (hv : vF b w) (hv0_4 : 0 ≤ v3_4.toInt) (hv1_4 : 0 ≤ v2_4.toInt) (hv2_4 : v2_4.toInt ≤ 48) (e3_ : z2_ = M_4.1 (1, b, w) 2) (h4_ : v3_4.toInt < z2_.toInt) (h8_ : v3_4.toInt < 48) (h15_ : (j14_ : Int) = v3_4.toInt) (e13_ : z12_ = M_4.1 (24, b, w) j14_) (h18_ : 2000 ≤ z12_.toInt) (h19_ : ¬ z12_.toInt = 2126) (h20_ : ¬ z12_.toInt = 2063) (h21_ : 2 ≤ v2_4.toInt) (h25_ : z24_.toInt = v2_4.toInt + (-1)) (h27_ : z26_.toInt = z24_.toInt - 1) (h31_ : (j30_ : Int) = z26_.toInt) (e29_ : z28_ = M_4.1 (25, b, w) j30_) (h35_ : (j34_ : Int) = z24_.toInt) (e33_ : z32_ = M_4.1 (25, b, w) j34_) (h37_ : z36_.toInt = z12_.toInt - 2000) (e38_ : (¬ z36_.toInt = 42 ∧ ¬ z36_.toInt = 43 ∧ ¬ z36_.toInt = 44 ∧ ¬ z36_.toInt = 45 ∧ ¬ z36_.toInt = 46 ∧ ¬ z36_.toInt = 47 ∧ ¬ z36_.toInt = 48 ∧ ¬ z36_.toInt = 49 ∧ ¬ z36_.toInt = 50 ∧ ¬ z36_.toInt = 51 ∧ ¬ z36_.toInt = 52 ∧ ¬ z36_.toInt = 53 ∧ ¬ z36_.toInt = 54 ∧ ¬ z36_.toInt = 55 ∧ ¬ z36_.toInt = 56 ∧ ¬ z36_.toInt = 57 ∧ ¬ z36_.toInt = 58 ∧ ¬ z36_.toInt = 59 ∧ ¬ z36_.toInt = 60 ∧ ¬ z36_.toInt = 61 ∧ ¬ z36_.toInt = 62)) : z36_.toInt < 42 ∨ 62 < z36_.toInt := by have r_v3_4 := rngI v3_4; have r_v2_4 := rngI v2_4; have r_z2_ := rngI z2_; have r_z12_ := rngI z12_; have r_z24_ := rngI z24_; have r_z26_ := rngI z26_; have r_z28_ := rngI z28_; have r_z32_ := rngI z32_; have r_z36_ := rngI z36_; subst e3_; subst e13_; subst e29_; subst e33_; omega
theorem lf_c_X1_work_299 (M_4 : mM) (b : Nat) (w : Nat) (v3_4 : Int32) (v2_4 : Int32) (z2_ : Int32) (j14_ : Nat) (z12_ : Int32) (z24_ : Int32) (z26_ : Int32) (j30_ : Nat) (z28_ : Int32) (j34_ : Nat) (z32_ : Int32) (z36_ : Int32) (hv : vF b w) (hv0_4 : 0 ≤ v3_4.toInt) (hv1_4 : 0 ≤ v2_4.toInt) (hv2_4 : v2_4.toInt ≤ 48) (e3_ : z2_ = M_4.1 (1, b, w) 2) (h4_ : v3_4.toInt < z2_.toInt) (h8_ : v3_4.toInt < 48) (h15_ : (j14_ : Int) = v3_4.toInt) (e13_ : z12_ = M_4.1 (24, b, w) j14_) (h18_ : 2000 ≤ z12_.toInt) (h19_ : ¬ z12_.toInt = 2126) (h20_ : ¬ z12_.toInt = 2063) (h21_ : 2 ≤ v2_4.toInt) (h25_ : z24_.toInt = v2_4.toInt + (-1)) (h27_ : z26_.toInt = z24_.toInt - 1) (h31_ : (j30_ : Int) = z26_.toInt) (e29_ : z28_ = M_4.1 (25, b, w) j30_) (h35_ : (j34_ : Int) = z24_.toInt) (e33_ : z32_ = M_4.1 (25, b, w) j34_) (h37_ : z36_.toInt = z12_.toInt - 2000) (e38_ : (¬ z36_.toInt = 42 ∧ ¬ z36_.toInt = 43 ∧ ¬ z36_.toInt = 44 ∧ ¬ z36_.toInt = 45 ∧ ¬ z36_.toInt = 46 ∧ ¬ z36_.toInt = 47 ∧ ¬ z36_.toInt = 48 ∧ ¬ z36_.toInt = 49 ∧ ¬ z36_.toInt = 50 ∧ ¬ z36_.toInt = 51 ∧ ¬ z36_.toInt = 52 ∧ ¬ z36_.toInt = 53 ∧ ¬ z36_.toInt = 54 ∧ ¬ z36_.toInt = 55 ∧ ¬ z36_.toInt = 56 ∧ ¬ z36_.toInt = 57 ∧ ¬ z36_.toInt = 58 ∧ ¬ z36_.toInt = 59 ∧ ¬ z36_.toInt = 60 ∧ ¬ z36_.toInt = 61 ∧ ¬ z36_.toInt = 62)) (h483_ : ¬ z32_.toInt = 0) : ¬ z32_ = 0 := by have r_v3_4 := rngI v3_4; have r_v2_4 := rngI v2_4; have r_z2_ := rngI z2_; have r_z12_ := rngI z12_; have r_z24_ := rngI z24_; have r_z26_ := rngI z26_; have r_z28_ := rngI z28_; have r_z32_ := rngI z32_; have r_z36_ := rngI z36_; intro h9; subst h9; simp at *; try omega
theorem lf_c_X1_work_317 (v2_4 : Int32) (h506_ : v2_4.toInt < 3) (h507_ : 2 ≤ v2_4.toInt) : -2147483648 ≤ v2_4.toInt + (-1) ∧ v2_4.toInt + (-1) < 2147483648 := by omega
theorem lf_c_X1_work_318 (v2_4 : Int32) (z510_ : Int32) (h506_ : v2_4.toInt < 3) (h507_ : 2 ≤ v2_4.toInt) (h511_ : z510_.toInt = v2_4.toInt + (-1)) : -2147483648 ≤ z510_.toInt - 1 ∧ z510_.toInt - 1 < 2147483648 := by omega
theorem lf_c_X1_work_319 (v2_4 : Int32) (z510_ : Int32) (z512_ : Int32) (h506_ : v2_4.toInt < 3) (h507_ : 2 ≤ v2_4.toInt) (h511_ : z510_.toInt = v2_4.toInt + (-1)) (h513_ : z512_.toInt = z510_.toInt - 1) : 0 ≤ z512_.toInt ∧ z512_.toInt < ((48 : Nat) : Int) := by omega
theorem lf_c_X1_work_320 (v2_4 : Int32) (z510_ : Int32) (h506_ : v2_4.toInt < 3) (h507_ : 2 ≤ v2_4.toInt) (h511_ : z510_.toInt = v2_4.toInt + (-1)) : 0 ≤ z510_.toInt ∧ z510_.toInt < ((48 : Nat) : Int) := by omega
theorem lf_c_X1_work_321 (z12_ : Int32) (h20_ : z12_.toInt = 2063) : -2147483648 ≤ z12_.toInt - 2000 ∧ z12_.toInt - 2000 < 2147483648 := by omega
theorem lf_c_X1_work_322 (z12_ : Int32) (z522_ : Int32) (h20_ : z12_.toInt = 2063) (h523_ : z522_.toInt = z12_.toInt - 2000) : z522_.toInt < 42 ∨ 62 < z522_.toInt := by omega
theorem lf_c_X1_work_323 (M_4 : mM) (b : Nat) (w : Nat) (v3_4 : Int32) (v2_4 : Int32) (z2_ : Int32) (j14_ : Nat) (z12_ : Int32) (z510_ : Int32) (z512_ : Int32) (j516_ : Nat) (z514_ : Int32) (j520_ : Nat) (z518_ : Int32) (z522_ : Int32) (hv : vF b w) (hv0_4 : 0 ≤ v3_4.toInt) (hv1_4 : 0 ≤ v2_4.toInt) (hv2_4 : v2_4.toInt ≤ 48) (e3_ : z2_ = M_4.1 (1, b, w) 2) (h4_ : v3_4.toInt < z2_.toInt) (h8_ : v3_4.toInt < 48) (h15_ : (j14_ : Int) = v3_4.toInt) (e13_ : z12_ = M_4.1 (24, b, w) j14_) (h18_ : 2000 ≤ z12_.toInt) (h19_ : ¬ z12_.toInt = 2126) (h20_ : z12_.toInt = 2063) (h506_ : v2_4.toInt < 3) (h507_ : 2 ≤ v2_4.toInt) (h511_ : z510_.toInt = v2_4.toInt + (-1)) (h513_ : z512_.toInt = z510_.toInt - 1) (h517_ : (j516_ : Int) = z512_.toInt) (e515_ : z514_ = M_4.1 (25, b, w) j516_) (h521_ : (j520_ : Int) = z510_.toInt) (e519_ : z518_ = M_4.1 (25, b, w) j520_) (h523_ : z522_.toInt = z12_.toInt - 2000) (h524_ : ¬ z518_.toInt = 0) : ¬ z518_ = 0 := by have r_v3_4 := rngI v3_4; have r_v2_4 := rngI v2_4; have r_z2_ := rngI z2_; have r_z12_ := rngI z12_; have r_z510_ := rngI z510_; have r_z512_ := rngI z512_; have r_z514_ := rngI z514_; have r_z518_ := rngI z518_; have r_z522_ := rngI z522_; intro h9; subst h9; simp at *; try omega
theorem lf_c_X1_work_329 (v2_4 : Int32) (z510_ : Int32) (h506_ : v2_4.toInt < 3) (h511_ : z510_.toInt = v2_4.toInt + (-1)) : z510_.toInt ≤ 48 := by omega
theorem lf_c_X1_work_338 (v2_4 : Int32) (hv2_4 : v2_4.toInt ≤ 48) (h506_ : 3 ≤ v2_4.toInt) : -2147483648 ≤ v2_4.toInt + (-2) ∧ v2_4.toInt + (-2) < 2147483648 := by omega
theorem lf_c_X1_work_339 (v2_4 : Int32) (z547_ : Int32) (hv2_4 : v2_4.toInt ≤ 48) (h506_ : 3 ≤ v2_4.toInt) (h548_ : z547_.toInt = v2_4.toInt + (-2)) : -2147483648 ≤ z547_.toInt - 1 ∧ z547_.toInt - 1 < 2147483648 := by omega
theorem lf_c_X1_work_341 (v2_4 : Int32) (z547_ : Int32) (z551_ : Int32) (hv2_4 : v2_4.toInt ≤ 48) (h506_ : 3 ≤ v2_4.toInt) (h548_ : z547_.toInt = v2_4.toInt + (-2)) (h552_ : z551_.toInt = z547_.toInt - 1) : 0 ≤ z551_.toInt ∧ z551_.toInt < ((48 : Nat) : Int) := by omega
theorem lf_c_X1_work_342 (v2_4 : Int32) (z547_ : Int32) (hv2_4 : v2_4.toInt ≤ 48) (h506_ : 3 ≤ v2_4.toInt) (h548_ : z547_.toInt = v2_4.toInt + (-2)) : -2147483648 ≤ z547_.toInt + 1 ∧ z547_.toInt + 1 < 2147483648 := by omega
theorem lf_c_X1_work_343 (v2_4 : Int32) (z547_ : Int32) (z558_ : Int32) (hv2_4 : v2_4.toInt ≤ 48) (h506_ : 3 ≤ v2_4.toInt) (h548_ : z547_.toInt = v2_4.toInt + (-2)) (h559_ : z558_.toInt = z547_.toInt + 1) : 0 ≤ z558_.toInt ∧ z558_.toInt < ((48 : Nat) : Int) := by omega
theorem lf_c_X1_work_347 (v2_4 : Int32) (z547_ : Int32) (h506_ : 3 ≤ v2_4.toInt) (h548_ : z547_.toInt = v2_4.toInt + (-2)) : 0 ≤ z547_.toInt := by omega
theorem lf_c_X1_work_348 (v2_4 : Int32) (z547_ : Int32) (hv2_4 : v2_4.toInt ≤ 48) (h548_ : z547_.toInt = v2_4.toInt + (-2)) : z547_.toInt ≤ 48 := by omega
theorem lf_c_X1_work_350 (v2_4 : Int32) (z547_ : Int32) (hv2_4 : v2_4.toInt ≤ 48) (h506_ : 3 ≤ v2_4.toInt) (h548_ : z547_.toInt = v2_4.toInt + (-2)) : 0 ≤ z547_.toInt ∧ z547_.toInt < ((48 : Nat) : Int) := by omega
theorem lf_c_X1_work_357 (z12_ : Int32) (h19_ : z12_.toInt = 2126) (h9 : z12_.toInt = 2063) : False := by omega
theorem lf_c_X1_work_358 (v2_4 : Int32) (h584_ : v2_4.toInt < 1) (h9 : 2 ≤ v2_4.toInt) : False := by omega
theorem lf_c_X1_work_362 (v2_4 : Int32) (hv2_4 : v2_4.toInt ≤ 48) (h584_ : 1 ≤ v2_4.toInt) : -2147483648 ≤ v2_4.toInt - 1 ∧ v2_4.toInt - 1 < 2147483648 := by omega
theorem lf_c_X1_work_364 (v2_4 : Int32) (z591_ : Int32) (hv2_4 : v2_4.toInt ≤ 48) (h584_ : 1 ≤ v2_4.toInt) (h592_ : z591_.toInt = v2_4.toInt - 1) : 0 ≤ z591_.toInt ∧ z591_.toInt < ((48 : Nat) : Int) := by omega
theorem lf_c_X1_work_369 (z12_ : Int32) (h18_ : z12_.toInt < 2000) (h9 : z12_.toInt = 2126) : False := by omega
theorem lf_c_X1_work_370 (z12_ : Int32) (h18_ : z12_.toInt < 2000) (h9 : z12_.toInt = 2063) : False := by omega
theorem lf_c_X1_work_371 (v2_4 : Int32) (h607_ : 48 ≤ v2_4.toInt) (h9 : v2_4.toInt < 2) : False := by omega
theorem lf_c_X1_work_372 (v2_4 : Int32) (hv2_4 : v2_4.toInt ≤ 48) (h607_ : 48 ≤ v2_4.toInt) : -2147483648 ≤ v2_4.toInt + (-1) ∧ v2_4.toInt + (-1) < 2147483648 := by omega
theorem lf_c_X1_work_373 (v2_4 : Int32) (z611_ : Int32) (hv2_4 : v2_4.toInt ≤ 48) (h607_ : 48 ≤ v2_4.toInt) (h612_ : z611_.toInt = v2_4.toInt + (-1)) : -2147483648 ≤ z611_.toInt - 1 ∧ z611_.toInt - 1 < 2147483648 := by omega
theorem lf_c_X1_work_374 (v2_4 : Int32) (z611_ : Int32) (z613_ : Int32) (hv2_4 : v2_4.toInt ≤ 48) (h607_ : 48 ≤ v2_4.toInt) (h612_ : z611_.toInt = v2_4.toInt + (-1)) (h614_ : z613_.toInt = z611_.toInt - 1) : 0 ≤ z613_.toInt ∧ z613_.toInt < ((48 : Nat) : Int) := by omega
theorem lf_c_X1_work_375 (v2_4 : Int32) (z611_ : Int32) (hv2_4 : v2_4.toInt ≤ 48) (h607_ : 48 ≤ v2_4.toInt) (h612_ : z611_.toInt = v2_4.toInt + (-1)) : 0 ≤ z611_.toInt ∧ z611_.toInt < ((48 : Nat) : Int) := by omega
theorem lf_c_X1_work_376 (z623_ : Int32) : z623_.toInt = 42 ∨ z623_.toInt = 43 ∨ z623_.toInt = 44 ∨ z623_.toInt = 45 ∨ z623_.toInt = 46 ∨ z623_.toInt = 47 ∨ z623_.toInt = 48 ∨ z623_.toInt = 49 ∨ z623_.toInt = 50 ∨ z623_.toInt = 51 ∨ z623_.toInt = 52 ∨ z623_.toInt = 53 ∨ z623_.toInt = 54 ∨ z623_.toInt = 55 ∨ z623_.toInt = 56 ∨ z623_.toInt = 57 ∨ z623_.toInt = 58 ∨ z623_.toInt = 59 ∨ z623_.toInt = 60 ∨ z623_.toInt = 61 ∨ z623_.toInt = 62 ∨ (¬ z623_.toInt = 42 ∧ ¬ z623_.toInt = 43 ∧ ¬ z623_.toInt = 44 ∧ ¬ z623_.toInt = 45 ∧ ¬ z623_.toInt = 46 ∧ ¬ z623_.toInt = 47 ∧ ¬ z623_.toInt = 48 ∧ ¬ z623_.toInt = 49 ∧ ¬ z623_.toInt = 50 ∧ ¬ z623_.toInt = 51 ∧ ¬ z623_.toInt = 52 ∧ ¬ z623_.toInt = 53 ∧ ¬ z623_.toInt = 54 ∧ ¬ z623_.toInt = 55 ∧ ¬ z623_.toInt = 56 ∧ ¬ z623_.toInt = 57 ∧ ¬ z623_.toInt = 58 ∧ ¬ z623_.toInt = 59 ∧ ¬ z623_.toInt = 60 ∧ ¬ z623_.toInt = 61 ∧ ¬ z623_.toInt = 62) := by have r_z623_ := rngI z623_; omega
theorem lf_c_X1_work_381 (v2_4 : Int32) (z611_ : Int32) (h607_ : 48 ≤ v2_4.toInt) (h612_ : z611_.toInt = v2_4.toInt + (-1)) : 0 ≤ z611_.toInt := by omega
theorem lf_c_X1_work_391 (M_4 : mM) (b : Nat) (w : Nat) (v3_4 : Int32) (v2_4 : Int32) (z2_ : Int32) (j14_ : Nat) (z12_ : Int32) (z611_ : Int32) (z613_ : Int32) (j617_ : Nat) (z615_ : Int32) (j621_ : Nat) (z619_ : Int32) (hv : vF b w) (hv0_4 : 0 ≤ v3_4.toInt) (hv1_4 : 0 ≤ v2_4.toInt) (hv2_4 : v2_4.toInt ≤ 48) (e3_ : z2_ = M_4.1 (1, b, w) 2) (h4_ : v3_4.toInt < z2_.toInt) (h8_ : v3_4.toInt < 48) (h15_ : (j14_ : Int) = v3_4.toInt) (e13_ : z12_ = M_4.1 (24, b, w) j14_) (h18_ : z12_.toInt < 2000) (h607_ : 48 ≤ v2_4.toInt) (h608_ : ¬ z12_.toInt = 2126) (h609_ : ¬ z12_.toInt = 2063) (h610_ : 2 ≤ v2_4.toInt) (h612_ : z611_.toInt = v2_4.toInt + (-1)) (h614_ : z613_.toInt = z611_.toInt - 1) (h618_ : (j617_ : Int) = z613_.toInt) (e616_ : z615_ = M_4.1 (25, b, w) j617_) (h622_ : (j621_ : Int) = z611_.toInt) (e620_ : z619_ = M_4.1 (25, b, w) j621_) (h650_ : ¬ z619_.toInt = 0) : ¬ z619_ = 0 := by have r_v3_4 := rngI v3_4; have r_v2_4 := rngI v2_4; have r_z2_ := rngI z2_; have r_z12_ := rngI z12_; have r_z611_ := rngI z611_; have r_z613_ := rngI z613_; have r_z615_ := rngI z615_; have r_z619_ := rngI z619_; intro h9; subst h9; simp at *; try omega
theorem lf_c_X1_work_665 (z623_ : Int32) (e625_ : (¬ z623_.toInt = 42 ∧ ¬ z623_.toInt = 43 ∧ ¬ z623_.toInt = 44 ∧ ¬ z623_.toInt = 45 ∧ ¬ z623_.toInt = 46 ∧ ¬ z623_.toInt = 47 ∧ ¬ z623_.toInt = 48 ∧ ¬ z623_.toInt = 49 ∧ ¬ z623_.toInt = 50 ∧ ¬ z623_.toInt = 51 ∧ ¬ z623_.toInt = 52 ∧ ¬ z623_.toInt = 53 ∧ ¬ z623_.toInt = 54 ∧ ¬ z623_.toInt = 55 ∧ ¬ z623_.toInt = 56 ∧ ¬ z623_.toInt = 57 ∧ ¬ z623_.toInt = 58 ∧ ¬ z623_.toInt = 59 ∧ ¬ z623_.toInt = 60 ∧ ¬ z623_.toInt = 61 ∧ ¬ z623_.toInt = 62)) : z623_.toInt < 42 ∨ 62 < z623_.toInt := by have r_z623_ := rngI z623_; omega
theorem lf_c_X1_work_686 (v2_4 : Int32) (z1101_ : Int32) (h607_ : v2_4.toInt < 48) (h1102_ : z1101_.toInt = v2_4.toInt + 1) : z1101_.toInt ≤ 48 := by omega
theorem lf_c_X1_work_688 (z16_ : Int32) (h1093_ : 0 ≤ z16_.toInt) (h1094_ : z16_.toInt < 5) : 0 ≤ z16_.toInt ∧ z16_.toInt < ((5 : Nat) : Int) := by omega
theorem lf_c_X1_work_705 : (0 : Int32).toInt ≤ 48 := by have q0 := li_0; omega
set_option maxHeartbeats 4000000 in
set_option maxRecDepth 100000 in
theorem c_X1_work (l : Launch) (G : va_G) (cy : Nat → ClassId) (ad : rf → Nat) (d : Nat) (b : Nat) (w : Nat) (b2 : Nat) (Mz : mM) (hIz : Inv Mz) (hv : vF b w) (hb2 : b2 < 3) : WP CC l G cy ad yX1_work cX1_work 9 (some .int) d 0 [(0, vR (1, b, w)), (1, vR (29, b2, 0))] [] Mz (fun r M' => Inv M' ∧ FR (S_c_X1_work b w b2) Mz M' ∧ (True) ∧ SP_X1_work b w b2 Mz r M') := by
  have hFz : FR (S_c_X1_work b w b2) Mz Mz := FR.self
  refine w_iconst (v := 0) dX1_work_0 (by decide) ?_
  refine w_istore_n (ls' := [(2, vI 0), (0, vR (1, b, w)), (1, vR (29, b2, 0))]) dX1_work_1 rfl (by decide) rfl ?_
  refine w_iconst (v := 0) dX1_work_2 (by decide) ?_
  refine w_istore_n (ls' := [(3, vI 0), (2, vI 0), (0, vR (1, b, w)), (1, vR (29, b2, 0))]) dX1_work_3 rfl (by decide) rfl ?_
  have lp1_ : ∀ (nn_4 : Nat) (M_4 : mM) (hI_4 : Inv M_4) (hF_4 : FR (S_c_X1_work b w b2) Mz M_4) (v3_4 : Int32) (v2_4 : Int32) (hv0_4 : 0 ≤ v3_4.toInt) (hv1_4 : 0 ≤ v2_4.toInt) (hv2_4 : v2_4.toInt ≤ 48) (hL_4 : RCH (fun x_ y_ => ST_X1_work_4 b w b2 Mz x_.1 x_.2.1 x_.2.2 y_.1 y_.2.1 y_.2.2) ((0 : Int32), (0 : Int32), Mz) (v3_4, v2_4, M_4)), (2147483648 - v3_4.toInt).toNat < nn_4 → WP CC l G cy ad yX1_work cX1_work 9 (some .int) d 4 [(3, vI v3_4), (2, vI v2_4), (0, vR (1, b, w)), (1, vR (29, b2, 0))] [] M_4 (fun r M' => Inv M' ∧ FR (S_c_X1_work b w b2) Mz M' ∧ (True) ∧ SP_X1_work b w b2 Mz r M') := by
    intro nn_4
    induction nn_4 with
    | zero => intro M_4 hI_4 hF_4 v3_4 v2_4 hv0_4 hv1_4 hv2_4 hL_4 hm_4; exact absurd hm_4 (Nat.not_lt_zero _)
    | succ nn_4 ih_4 =>
      intro M_4 hI_4 hF_4 v3_4 v2_4 hv0_4 hv1_4 hv2_4 hL_4 hm_4
      refine w_iload_n dX1_work_4 rfl 0 rfl ?_
      refine w_aload_n dX1_work_5 rfl 2 rfl ?_
      refine w_getI fl_RX1_16 rfl rfl (ic_1 hv) dX1_work_6 (fun z2_ e3_ => ?_)
      refine w_icmp_ge (tgt := 440) dX1_work_9 (by decide) (rfl : v3_4.toInt = v3_4.toInt) (rfl : z2_.toInt = z2_.toInt) (fun h4_ => ?_) (fun h4_ => ?_)
      · refine w_iload_n dX1_work_440 rfl 1 rfl ?_
        refine w_if_le (tgt := 453) dX1_work_441 (by decide) (rfl : v2_4.toInt = v2_4.toInt) (fun h5_ => ?_) (fun h5_ => ?_)
        · refine w_iconst (v := 0) dX1_work_453 (by decide) ?_
          exact w_iret rfl dX1_work_454 ⟨hI_4, hF_4, trivial, ⟨v3_4, hv0_4, v2_4, hv1_4, hv2_4, M_4, hL_4, hI_4, hF_4, z2_, e3_, (Or.inl ⟨h4_, (Or.inl ⟨h5_, rfl, rfl⟩)⟩)⟩⟩
        · refine w_aload_n dX1_work_444 rfl 2 rfl ?_
          refine w_getR (c' := (25, b, w)) fl_RX1_13 rfl rfl (ic_1 hv) dX1_work_445 rfl ?_
          refine w_iconst (v := 0) dX1_work_448 (by decide) ?_
          refine w_ialdL 0 rfl rfl (ic_25 hv) li_0 (by decide) dX1_work_449 (fun z6_ e7_ => ?_)
          refine w_goto (tgt := 454) dX1_work_450 (by decide) ?_
          exact w_iret rfl dX1_work_454 ⟨hI_4, hF_4, trivial, ⟨v3_4, hv0_4, v2_4, hv1_4, hv2_4, M_4, hL_4, hI_4, hF_4, z2_, e3_, (Or.inl ⟨h4_, (Or.inr ⟨h5_, z6_, e7_, rfl, rfl⟩)⟩)⟩⟩
      · refine w_iload_n dX1_work_12 rfl 0 rfl ?_
        refine w_bipush (v := 48) dX1_work_13 (by decide) ?_
        refine w_icmp_ge (tgt := 440) dX1_work_15 (by decide) (rfl : v3_4.toInt = v3_4.toInt) li_48 (fun h8_ => ?_) (fun h8_ => ?_)
        · refine w_iload_n dX1_work_440 rfl 1 rfl ?_
          refine w_if_le (tgt := 453) dX1_work_441 (by decide) (rfl : v2_4.toInt = v2_4.toInt) (fun h9_ => ?_) (fun h9_ => ?_)
          · refine w_iconst (v := 0) dX1_work_453 (by decide) ?_
            exact w_iret rfl dX1_work_454 ⟨hI_4, hF_4, trivial, ⟨v3_4, hv0_4, v2_4, hv1_4, hv2_4, M_4, hL_4, hI_4, hF_4, z2_, e3_, (Or.inr ⟨h4_, h8_, (Or.inl ⟨h9_, rfl, rfl⟩)⟩)⟩⟩
          · refine w_aload_n dX1_work_444 rfl 2 rfl ?_
            refine w_getR (c' := (25, b, w)) fl_RX1_13 rfl rfl (ic_1 hv) dX1_work_445 rfl ?_
            refine w_iconst (v := 0) dX1_work_448 (by decide) ?_
            refine w_ialdL 0 rfl rfl (ic_25 hv) li_0 (by decide) dX1_work_449 (fun z10_ e11_ => ?_)
            refine w_goto (tgt := 454) dX1_work_450 (by decide) ?_
            exact w_iret rfl dX1_work_454 ⟨hI_4, hF_4, trivial, ⟨v3_4, hv0_4, v2_4, hv1_4, hv2_4, M_4, hL_4, hI_4, hF_4, z2_, e3_, (Or.inr ⟨h4_, h8_, (Or.inr ⟨h9_, z10_, e11_, rfl, rfl⟩)⟩)⟩⟩
        · refine w_aload_n dX1_work_18 rfl 2 rfl ?_
          refine w_getR (c' := (24, b, w)) fl_RX1_9 rfl rfl (ic_1 hv) dX1_work_19 rfl ?_
          refine w_iload_n dX1_work_22 rfl 0 rfl ?_
          refine w_iald rfl rfl (ic_24 hv) (rfl : v3_4.toInt = v3_4.toInt) (lf_c_X1_add_0 v3_4 hv0_4 h8_ ) dX1_work_23 (fun j14_ h15_ z12_ e13_ => ?_)
          refine w_istore (ls' := [(4, vI z12_), (3, vI v3_4), (2, vI v2_4), (0, vR (1, b, w)), (1, vR (29, b2, 0))]) dX1_work_24 (by decide) rfl ?_
          refine w_iload dX1_work_26 0 rfl ?_
          refine w_sipush (v := 1000) dX1_work_28 (by decide) ?_
          refine w_isub dX1_work_31 (fun z16_ h17_ => ?_)
          refine w_istore (ls' := [(5, vI z16_), (4, vI z12_), (3, vI v3_4), (2, vI v2_4), (0, vR (1, b, w)), (1, vR (29, b2, 0))]) dX1_work_32 (by decide) rfl ?_
          refine w_iload dX1_work_34 1 rfl ?_
          refine w_sipush (v := 2000) dX1_work_36 (by decide) ?_
          refine w_icmp_ge (tgt := 85) dX1_work_39 (by decide) (rfl : z12_.toInt = z12_.toInt) li_2000 (fun h18_ => ?_) (fun h18_ => ?_)
          · refine w_iload dX1_work_85 1 rfl ?_
            refine w_sipush (v := 2126) dX1_work_87 (by decide) ?_
            refine w_icmp_ne (tgt := 118) dX1_work_90 (by decide) (rfl : z12_.toInt = z12_.toInt) li_2126 (fun h19_ => ?_) (fun h19_ => ?_)
            · refine w_iload dX1_work_118 1 rfl ?_
              refine w_sipush (v := 2063) dX1_work_120 (by decide) ?_
              refine w_icmp_ne (tgt := 173) dX1_work_123 (by decide) (rfl : z12_.toInt = z12_.toInt) li_2063 (fun h20_ => ?_) (fun h20_ => ?_)
              · refine w_iload_n dX1_work_173 rfl 3 rfl ?_
                refine w_iconst (v := 2) dX1_work_174 (by decide) ?_
                refine w_icmp_lt (tgt := 434) dX1_work_175 (by decide) (rfl : v2_4.toInt = v2_4.toInt) li_2 (fun h21_ => ?_) (fun h21_ => ?_)
                · refine w_iincB (j := 2) (f := fun z22_ => [(3, vI z22_), (5, vI z16_), (4, vI z12_), (2, vI v2_4), (0, vR (1, b, w)), (1, vR (29, b2, 0))]) dX1_work_434 rfl (by decide) (fun _ => rfl) (rfl : v3_4.toInt = v3_4.toInt) li_1 (lf_c_X1_work_1 v3_4 hv0_4 h8_ ) (fun z22_ h23_ => ?_)
                  refine w_goto (tgt := 4) dX1_work_437 (by decide) ?_
                  refine w_loc (ls' := [(3, vI z22_), (2, vI v2_4), (0, vR (1, b, w)), (1, vR (29, b2, 0))]) [0, 3, 4, 5] rfl ?_
                  exact ih_4 M_4 hI_4 hF_4 z22_ v2_4 (lf_c_X5_takeFrom_3 v3_4 z22_ hv0_4 h23_ ) hv1_4 hv2_4 (RCH.tail hL_4 ⟨hv0_4, hv1_4, hv2_4, hI_4, hF_4, z2_, e3_, h4_, h8_, j14_, h15_, z12_, e13_, z16_, h17_, (Or.inl ⟨h18_, (Or.inl ⟨h19_, (Or.inl ⟨h20_, (Or.inl ⟨h21_, z22_, h23_, rfl, rfl, rfl⟩)⟩)⟩)⟩)⟩) (Nat.lt_of_lt_of_le (lf_c_X1_work_3 v3_4 z22_ h8_ h23_ ) (Nat.le_of_lt_succ hm_4))
                · refine w_iincB (j := 3) (f := fun z24_ => [(2, vI z24_), (5, vI z16_), (4, vI z12_), (3, vI v3_4), (0, vR (1, b, w)), (1, vR (29, b2, 0))]) dX1_work_178 rfl (by decide) (fun _ => rfl) (rfl : v2_4.toInt = v2_4.toInt) li_m1 (lf_c_X1_work_4 v2_4 hv2_4 h21_ ) (fun z24_ h25_ => ?_)
                  refine w_aload_n dX1_work_181 rfl 4 rfl ?_
                  refine w_getR (c' := (25, b, w)) fl_RX1_13 rfl rfl (ic_1 hv) dX1_work_182 rfl ?_
                  refine w_iload_n dX1_work_185 rfl 0 rfl ?_
                  refine w_iconst (v := 1) dX1_work_186 (by decide) ?_
                  refine w_isubB dX1_work_187 (rfl : z24_.toInt = z24_.toInt) li_1 (lf_c_X1_work_5 v2_4 z24_ hv2_4 h21_ h25_ ) (fun z26_ h27_ => ?_)
                  refine w_iald rfl rfl (ic_25 hv) (rfl : z26_.toInt = z26_.toInt) (lf_c_X1_work_6 v2_4 z24_ z26_ hv2_4 h21_ h25_ h27_ ) dX1_work_188 (fun j30_ h31_ z28_ e29_ => ?_)
                  refine w_istore (ls' := [(6, vI z28_), (2, vI z24_), (5, vI z16_), (4, vI z12_), (3, vI v3_4), (0, vR (1, b, w)), (1, vR (29, b2, 0))]) dX1_work_189 (by decide) rfl ?_
                  refine w_aload_n dX1_work_191 rfl 5 rfl ?_
                  refine w_getR (c' := (25, b, w)) fl_RX1_13 rfl rfl (ic_1 hv) dX1_work_192 rfl ?_
                  refine w_iload_n dX1_work_195 rfl 1 rfl ?_
                  refine w_iald rfl rfl (ic_25 hv) (rfl : z24_.toInt = z24_.toInt) (lf_c_X1_work_7 v2_4 z24_ hv2_4 h21_ h25_ ) dX1_work_196 (fun j34_ h35_ z32_ e33_ => ?_)
                  refine w_istore (ls' := [(7, vI z32_), (6, vI z28_), (2, vI z24_), (5, vI z16_), (4, vI z12_), (3, vI v3_4), (0, vR (1, b, w)), (1, vR (29, b2, 0))]) dX1_work_197 (by decide) rfl ?_
                  refine w_iconst (v := 0) dX1_work_199 (by decide) ?_
                  refine w_istore (ls' := [(8, vI 0), (7, vI z32_), (6, vI z28_), (2, vI z24_), (5, vI z16_), (4, vI z12_), (3, vI v3_4), (0, vR (1, b, w)), (1, vR (29, b2, 0))]) dX1_work_200 (by decide) rfl ?_
                  refine w_iload dX1_work_202 5 rfl ?_
                  refine w_sipush (v := 2000) dX1_work_204 (by decide) ?_
                  refine w_isubB dX1_work_207 (rfl : z12_.toInt = z12_.toInt) li_2000 (lf_c_X1_work_8 z12_ h18_ ) (fun z36_ h37_ => ?_)
                  rcases (lf_c_X1_work_9 M_4 b w v3_4 v2_4 z2_ j14_ z12_ z24_ z26_ j30_ z28_ j34_ z32_ z36_ hv hv0_4 hv1_4 hv2_4 e3_ h4_ h8_ h15_ e13_ h18_ h19_ h20_ h21_ h25_ h27_ h31_ e29_ h35_ e33_ h37_ ) with e38_ | e38_ | e38_ | e38_ | e38_ | e38_ | e38_ | e38_ | e38_ | e38_ | e38_ | e38_ | e38_ | e38_ | e38_ | e38_ | e38_ | e38_ | e38_ | e38_ | e38_ | e38_
                  · refine w_tsIn (tgt := 379) (off := 171) dX1_work_208 e38_ (by decide) (by decide) rfl (by decide) ?_
                    refine w_iload dX1_work_379 2 rfl ?_
                    refine w_iload dX1_work_381 1 rfl ?_
                    refine w_imul dX1_work_383 (fun z39_ h40_ => ?_)
                    refine w_istore (ls' := [(8, vI z39_), (7, vI z32_), (6, vI z28_), (2, vI z24_), (5, vI z16_), (4, vI z12_), (3, vI v3_4), (0, vR (1, b, w)), (1, vR (29, b2, 0))]) dX1_work_384 (by decide) rfl ?_
                    refine w_goto (tgt := 424) dX1_work_386 (by decide) ?_
                    refine w_aload_n dX1_work_424 rfl 7 rfl ?_
                    refine w_getR (c' := (25, b, w)) fl_RX1_13 rfl rfl (ic_1 hv) dX1_work_425 rfl ?_
                    refine w_iload_n dX1_work_428 rfl 3 rfl ?_
                    refine w_iconst (v := 1) dX1_work_429 (by decide) ?_
                    refine w_isubB dX1_work_430 (rfl : z24_.toInt = z24_.toInt) li_1 (lf_c_X1_work_5 v2_4 z24_ hv2_4 h21_ h25_ ) (fun z41_ h42_ => ?_)
                    refine w_iload dX1_work_431 0 rfl ?_
                    refine w_iast CC_nd rfl rfl (ic_25 hv) (rfl : z41_.toInt = z41_.toInt) (lf_c_X1_work_6 v2_4 z24_ z41_ hv2_4 h21_ h25_ h42_ ) dX1_work_433 (fun j45_ h46_ M43_ hM44_ => ?_)
                    have hI47_ := hI_4.put hM44_ trivial
                    have hF48_ := hF_4.put hM44_ (Or.inl ⟨rfl, rfl, rfl⟩)
                    refine w_iincB (j := 6) (f := fun z49_ => [(3, vI z49_), (8, vI z39_), (7, vI z32_), (6, vI z28_), (2, vI z24_), (5, vI z16_), (4, vI z12_), (0, vR (1, b, w)), (1, vR (29, b2, 0))]) dX1_work_434 rfl (by decide) (fun _ => rfl) (rfl : v3_4.toInt = v3_4.toInt) li_1 (lf_c_X1_work_1 v3_4 hv0_4 h8_ ) (fun z49_ h50_ => ?_)
                    refine w_goto (tgt := 4) dX1_work_437 (by decide) ?_
                    refine w_loc (ls' := [(3, vI z49_), (2, vI z24_), (0, vR (1, b, w)), (1, vR (29, b2, 0))]) [0, 4, 7, 8] rfl ?_
                    exact ih_4 M43_ hI47_ hF48_ z49_ z24_ (lf_c_X5_takeFrom_3 v3_4 z49_ hv0_4 h50_ ) (lf_c_X1_work_14 v2_4 z24_ h21_ h25_ ) (lf_c_X1_work_15 v2_4 z24_ hv2_4 h25_ ) (RCH.tail hL_4 ⟨hv0_4, hv1_4, hv2_4, hI_4, hF_4, z2_, e3_, h4_, h8_, j14_, h15_, z12_, e13_, z16_, h17_, (Or.inl ⟨h18_, (Or.inl ⟨h19_, (Or.inl ⟨h20_, (Or.inr ⟨h21_, z24_, h25_, z26_, h27_, j30_, h31_, z28_, e29_, j34_, h35_, z32_, e33_, z36_, h37_, (Or.inl ⟨e38_, z39_, h40_, z41_, h42_, j45_, h46_, M43_, hM44_, z49_, h50_, rfl, rfl, rfl⟩)⟩)⟩)⟩)⟩)⟩) (Nat.lt_of_lt_of_le (lf_c_X1_work_3 v3_4 z49_ h8_ h50_ ) (Nat.le_of_lt_succ hm_4))
                  · refine w_tsIn (tgt := 359) (off := 151) dX1_work_208 e38_ (by decide) (by decide) rfl (by decide) ?_
                    refine w_iload dX1_work_359 2 rfl ?_
                    refine w_iload dX1_work_361 1 rfl ?_
                    refine w_iadd dX1_work_363 (fun z51_ h52_ => ?_)
                    refine w_istore (ls' := [(8, vI z51_), (7, vI z32_), (6, vI z28_), (2, vI z24_), (5, vI z16_), (4, vI z12_), (3, vI v3_4), (0, vR (1, b, w)), (1, vR (29, b2, 0))]) dX1_work_364 (by decide) rfl ?_
                    refine w_goto (tgt := 424) dX1_work_366 (by decide) ?_
                    refine w_aload_n dX1_work_424 rfl 7 rfl ?_
                    refine w_getR (c' := (25, b, w)) fl_RX1_13 rfl rfl (ic_1 hv) dX1_work_425 rfl ?_
                    refine w_iload_n dX1_work_428 rfl 3 rfl ?_
                    refine w_iconst (v := 1) dX1_work_429 (by decide) ?_
                    refine w_isubB dX1_work_430 (rfl : z24_.toInt = z24_.toInt) li_1 (lf_c_X1_work_5 v2_4 z24_ hv2_4 h21_ h25_ ) (fun z53_ h54_ => ?_)
                    refine w_iload dX1_work_431 0 rfl ?_
                    refine w_iast CC_nd rfl rfl (ic_25 hv) (rfl : z53_.toInt = z53_.toInt) (lf_c_X1_work_6 v2_4 z24_ z53_ hv2_4 h21_ h25_ h54_ ) dX1_work_433 (fun j57_ h58_ M55_ hM56_ => ?_)
                    have hI59_ := hI_4.put hM56_ trivial
                    have hF60_ := hF_4.put hM56_ (Or.inl ⟨rfl, rfl, rfl⟩)
                    refine w_iincB (j := 6) (f := fun z61_ => [(3, vI z61_), (8, vI z51_), (7, vI z32_), (6, vI z28_), (2, vI z24_), (5, vI z16_), (4, vI z12_), (0, vR (1, b, w)), (1, vR (29, b2, 0))]) dX1_work_434 rfl (by decide) (fun _ => rfl) (rfl : v3_4.toInt = v3_4.toInt) li_1 (lf_c_X1_work_1 v3_4 hv0_4 h8_ ) (fun z61_ h62_ => ?_)
                    refine w_goto (tgt := 4) dX1_work_437 (by decide) ?_
                    refine w_loc (ls' := [(3, vI z61_), (2, vI z24_), (0, vR (1, b, w)), (1, vR (29, b2, 0))]) [0, 4, 7, 8] rfl ?_
                    exact ih_4 M55_ hI59_ hF60_ z61_ z24_ (lf_c_X5_takeFrom_3 v3_4 z61_ hv0_4 h62_ ) (lf_c_X1_work_14 v2_4 z24_ h21_ h25_ ) (lf_c_X1_work_15 v2_4 z24_ hv2_4 h25_ ) (RCH.tail hL_4 ⟨hv0_4, hv1_4, hv2_4, hI_4, hF_4, z2_, e3_, h4_, h8_, j14_, h15_, z12_, e13_, z16_, h17_, (Or.inl ⟨h18_, (Or.inl ⟨h19_, (Or.inl ⟨h20_, (Or.inr ⟨h21_, z24_, h25_, z26_, h27_, j30_, h31_, z28_, e29_, j34_, h35_, z32_, e33_, z36_, h37_, (Or.inr (Or.inl ⟨e38_, z51_, h52_, z53_, h54_, j57_, h58_, M55_, hM56_, z61_, h62_, rfl, rfl, rfl⟩))⟩)⟩)⟩)⟩)⟩) (Nat.lt_of_lt_of_le (lf_c_X1_work_3 v3_4 z61_ h8_ h62_ ) (Nat.le_of_lt_succ hm_4))
                  · refine w_tsIn (tgt := 408) (off := 200) dX1_work_208 e38_ (by decide) (by decide) rfl (by decide) ?_
                    refine w_iload dX1_work_408 1 rfl ?_
                    refine w_if_ne (tgt := 417) dX1_work_410 (by decide) (rfl : z32_.toInt = z32_.toInt) (fun h63_ => ?_) (fun h63_ => ?_)
                    · refine w_iload dX1_work_417 2 rfl ?_
                      refine w_iload dX1_work_419 1 rfl ?_
                      refine w_irem dX1_work_421 (lf_c_X1_work_24 M_4 b w v3_4 v2_4 z2_ j14_ z12_ z24_ z26_ j30_ z28_ j34_ z32_ z36_ hv hv0_4 hv1_4 hv2_4 e3_ h4_ h8_ h15_ e13_ h18_ h19_ h20_ h21_ h25_ h27_ h31_ e29_ h35_ e33_ h37_ e38_ h63_ ) (fun z64_ h65_ => ?_)
                      refine w_istore (ls' := [(8, vI z64_), (7, vI z32_), (6, vI z28_), (2, vI z24_), (5, vI z16_), (4, vI z12_), (3, vI v3_4), (0, vR (1, b, w)), (1, vR (29, b2, 0))]) dX1_work_422 (by decide) rfl ?_
                      refine w_aload_n dX1_work_424 rfl 7 rfl ?_
                      refine w_getR (c' := (25, b, w)) fl_RX1_13 rfl rfl (ic_1 hv) dX1_work_425 rfl ?_
                      refine w_iload_n dX1_work_428 rfl 3 rfl ?_
                      refine w_iconst (v := 1) dX1_work_429 (by decide) ?_
                      refine w_isubB dX1_work_430 (rfl : z24_.toInt = z24_.toInt) li_1 (lf_c_X1_work_5 v2_4 z24_ hv2_4 h21_ h25_ ) (fun z66_ h67_ => ?_)
                      refine w_iload dX1_work_431 0 rfl ?_
                      refine w_iast CC_nd rfl rfl (ic_25 hv) (rfl : z66_.toInt = z66_.toInt) (lf_c_X1_work_6 v2_4 z24_ z66_ hv2_4 h21_ h25_ h67_ ) dX1_work_433 (fun j70_ h71_ M68_ hM69_ => ?_)
                      have hI72_ := hI_4.put hM69_ trivial
                      have hF73_ := hF_4.put hM69_ (Or.inl ⟨rfl, rfl, rfl⟩)
                      refine w_iincB (j := 6) (f := fun z74_ => [(3, vI z74_), (8, vI z64_), (7, vI z32_), (6, vI z28_), (2, vI z24_), (5, vI z16_), (4, vI z12_), (0, vR (1, b, w)), (1, vR (29, b2, 0))]) dX1_work_434 rfl (by decide) (fun _ => rfl) (rfl : v3_4.toInt = v3_4.toInt) li_1 (lf_c_X1_work_1 v3_4 hv0_4 h8_ ) (fun z74_ h75_ => ?_)
                      refine w_goto (tgt := 4) dX1_work_437 (by decide) ?_
                      refine w_loc (ls' := [(3, vI z74_), (2, vI z24_), (0, vR (1, b, w)), (1, vR (29, b2, 0))]) [0, 4, 7, 8] rfl ?_
                      exact ih_4 M68_ hI72_ hF73_ z74_ z24_ (lf_c_X5_takeFrom_3 v3_4 z74_ hv0_4 h75_ ) (lf_c_X1_work_14 v2_4 z24_ h21_ h25_ ) (lf_c_X1_work_15 v2_4 z24_ hv2_4 h25_ ) (RCH.tail hL_4 ⟨hv0_4, hv1_4, hv2_4, hI_4, hF_4, z2_, e3_, h4_, h8_, j14_, h15_, z12_, e13_, z16_, h17_, (Or.inl ⟨h18_, (Or.inl ⟨h19_, (Or.inl ⟨h20_, (Or.inr ⟨h21_, z24_, h25_, z26_, h27_, j30_, h31_, z28_, e29_, j34_, h35_, z32_, e33_, z36_, h37_, (Or.inr (Or.inr (Or.inl ⟨e38_, (Or.inl ⟨h63_, z64_, h65_, z66_, h67_, j70_, h71_, M68_, hM69_, z74_, h75_, rfl, rfl, rfl⟩)⟩)))⟩)⟩)⟩)⟩)⟩) (Nat.lt_of_lt_of_le (lf_c_X1_work_3 v3_4 z74_ h8_ h75_ ) (Nat.le_of_lt_succ hm_4))
                    · refine w_iconst (v := 0) dX1_work_413 (by decide) ?_
                      refine w_goto (tgt := 422) dX1_work_414 (by decide) ?_
                      refine w_istore (ls' := [(8, vI 0), (7, vI z32_), (6, vI z28_), (2, vI z24_), (5, vI z16_), (4, vI z12_), (3, vI v3_4), (0, vR (1, b, w)), (1, vR (29, b2, 0))]) dX1_work_422 (by decide) rfl ?_
                      refine w_aload_n dX1_work_424 rfl 7 rfl ?_
                      refine w_getR (c' := (25, b, w)) fl_RX1_13 rfl rfl (ic_1 hv) dX1_work_425 rfl ?_
                      refine w_iload_n dX1_work_428 rfl 3 rfl ?_
                      refine w_iconst (v := 1) dX1_work_429 (by decide) ?_
                      refine w_isubB dX1_work_430 (rfl : z24_.toInt = z24_.toInt) li_1 (lf_c_X1_work_5 v2_4 z24_ hv2_4 h21_ h25_ ) (fun z76_ h77_ => ?_)
                      refine w_iload dX1_work_431 0 rfl ?_
                      refine w_iast CC_nd rfl rfl (ic_25 hv) (rfl : z76_.toInt = z76_.toInt) (lf_c_X1_work_6 v2_4 z24_ z76_ hv2_4 h21_ h25_ h77_ ) dX1_work_433 (fun j80_ h81_ M78_ hM79_ => ?_)
                      have hI82_ := hI_4.put hM79_ trivial
                      have hF83_ := hF_4.put hM79_ (Or.inl ⟨rfl, rfl, rfl⟩)
                      refine w_iincB (j := 6) (f := fun z84_ => [(3, vI z84_), (8, vI 0), (7, vI z32_), (6, vI z28_), (2, vI z24_), (5, vI z16_), (4, vI z12_), (0, vR (1, b, w)), (1, vR (29, b2, 0))]) dX1_work_434 rfl (by decide) (fun _ => rfl) (rfl : v3_4.toInt = v3_4.toInt) li_1 (lf_c_X1_work_1 v3_4 hv0_4 h8_ ) (fun z84_ h85_ => ?_)
                      refine w_goto (tgt := 4) dX1_work_437 (by decide) ?_
                      refine w_loc (ls' := [(3, vI z84_), (2, vI z24_), (0, vR (1, b, w)), (1, vR (29, b2, 0))]) [0, 4, 7, 8] rfl ?_
                      exact ih_4 M78_ hI82_ hF83_ z84_ z24_ (lf_c_X5_takeFrom_3 v3_4 z84_ hv0_4 h85_ ) (lf_c_X1_work_14 v2_4 z24_ h21_ h25_ ) (lf_c_X1_work_15 v2_4 z24_ hv2_4 h25_ ) (RCH.tail hL_4 ⟨hv0_4, hv1_4, hv2_4, hI_4, hF_4, z2_, e3_, h4_, h8_, j14_, h15_, z12_, e13_, z16_, h17_, (Or.inl ⟨h18_, (Or.inl ⟨h19_, (Or.inl ⟨h20_, (Or.inr ⟨h21_, z24_, h25_, z26_, h27_, j30_, h31_, z28_, e29_, j34_, h35_, z32_, e33_, z36_, h37_, (Or.inr (Or.inr (Or.inl ⟨e38_, (Or.inr ⟨h63_, z76_, h77_, j80_, h81_, M78_, hM79_, z84_, h85_, rfl, rfl, rfl⟩)⟩)))⟩)⟩)⟩)⟩)⟩) (Nat.lt_of_lt_of_le (lf_c_X1_work_3 v3_4 z84_ h8_ h85_ ) (Nat.le_of_lt_succ hm_4))
                  · refine w_tsIn (tgt := 369) (off := 161) dX1_work_208 e38_ (by decide) (by decide) rfl (by decide) ?_
                    refine w_iload dX1_work_369 2 rfl ?_
                    refine w_iload dX1_work_371 1 rfl ?_
                    refine w_isub dX1_work_373 (fun z86_ h87_ => ?_)
                    refine w_istore (ls' := [(8, vI z86_), (7, vI z32_), (6, vI z28_), (2, vI z24_), (5, vI z16_), (4, vI z12_), (3, vI v3_4), (0, vR (1, b, w)), (1, vR (29, b2, 0))]) dX1_work_374 (by decide) rfl ?_
                    refine w_goto (tgt := 424) dX1_work_376 (by decide) ?_
                    refine w_aload_n dX1_work_424 rfl 7 rfl ?_
                    refine w_getR (c' := (25, b, w)) fl_RX1_13 rfl rfl (ic_1 hv) dX1_work_425 rfl ?_
                    refine w_iload_n dX1_work_428 rfl 3 rfl ?_
                    refine w_iconst (v := 1) dX1_work_429 (by decide) ?_
                    refine w_isubB dX1_work_430 (rfl : z24_.toInt = z24_.toInt) li_1 (lf_c_X1_work_5 v2_4 z24_ hv2_4 h21_ h25_ ) (fun z88_ h89_ => ?_)
                    refine w_iload dX1_work_431 0 rfl ?_
                    refine w_iast CC_nd rfl rfl (ic_25 hv) (rfl : z88_.toInt = z88_.toInt) (lf_c_X1_work_6 v2_4 z24_ z88_ hv2_4 h21_ h25_ h89_ ) dX1_work_433 (fun j92_ h93_ M90_ hM91_ => ?_)
                    have hI94_ := hI_4.put hM91_ trivial
                    have hF95_ := hF_4.put hM91_ (Or.inl ⟨rfl, rfl, rfl⟩)
                    refine w_iincB (j := 6) (f := fun z96_ => [(3, vI z96_), (8, vI z86_), (7, vI z32_), (6, vI z28_), (2, vI z24_), (5, vI z16_), (4, vI z12_), (0, vR (1, b, w)), (1, vR (29, b2, 0))]) dX1_work_434 rfl (by decide) (fun _ => rfl) (rfl : v3_4.toInt = v3_4.toInt) li_1 (lf_c_X1_work_1 v3_4 hv0_4 h8_ ) (fun z96_ h97_ => ?_)
                    refine w_goto (tgt := 4) dX1_work_437 (by decide) ?_
                    refine w_loc (ls' := [(3, vI z96_), (2, vI z24_), (0, vR (1, b, w)), (1, vR (29, b2, 0))]) [0, 4, 7, 8] rfl ?_
                    exact ih_4 M90_ hI94_ hF95_ z96_ z24_ (lf_c_X5_takeFrom_3 v3_4 z96_ hv0_4 h97_ ) (lf_c_X1_work_14 v2_4 z24_ h21_ h25_ ) (lf_c_X1_work_15 v2_4 z24_ hv2_4 h25_ ) (RCH.tail hL_4 ⟨hv0_4, hv1_4, hv2_4, hI_4, hF_4, z2_, e3_, h4_, h8_, j14_, h15_, z12_, e13_, z16_, h17_, (Or.inl ⟨h18_, (Or.inl ⟨h19_, (Or.inl ⟨h20_, (Or.inr ⟨h21_, z24_, h25_, z26_, h27_, j30_, h31_, z28_, e29_, j34_, h35_, z32_, e33_, z36_, h37_, (Or.inr (Or.inr (Or.inr (Or.inl ⟨e38_, z86_, h87_, z88_, h89_, j92_, h93_, M90_, hM91_, z96_, h97_, rfl, rfl, rfl⟩))))⟩)⟩)⟩)⟩)⟩) (Nat.lt_of_lt_of_le (lf_c_X1_work_3 v3_4 z96_ h8_ h97_ ) (Nat.le_of_lt_succ hm_4))
                  · refine w_tsIn (tgt := 408) (off := 200) dX1_work_208 e38_ (by decide) (by decide) rfl (by decide) ?_
                    refine w_iload dX1_work_408 1 rfl ?_
                    refine w_if_ne (tgt := 417) dX1_work_410 (by decide) (rfl : z32_.toInt = z32_.toInt) (fun h98_ => ?_) (fun h98_ => ?_)
                    · refine w_iload dX1_work_417 2 rfl ?_
                      refine w_iload dX1_work_419 1 rfl ?_
                      refine w_irem dX1_work_421 (lf_c_X1_work_46 M_4 b w v3_4 v2_4 z2_ j14_ z12_ z24_ z26_ j30_ z28_ j34_ z32_ z36_ hv hv0_4 hv1_4 hv2_4 e3_ h4_ h8_ h15_ e13_ h18_ h19_ h20_ h21_ h25_ h27_ h31_ e29_ h35_ e33_ h37_ e38_ h98_ ) (fun z99_ h100_ => ?_)
                      refine w_istore (ls' := [(8, vI z99_), (7, vI z32_), (6, vI z28_), (2, vI z24_), (5, vI z16_), (4, vI z12_), (3, vI v3_4), (0, vR (1, b, w)), (1, vR (29, b2, 0))]) dX1_work_422 (by decide) rfl ?_
                      refine w_aload_n dX1_work_424 rfl 7 rfl ?_
                      refine w_getR (c' := (25, b, w)) fl_RX1_13 rfl rfl (ic_1 hv) dX1_work_425 rfl ?_
                      refine w_iload_n dX1_work_428 rfl 3 rfl ?_
                      refine w_iconst (v := 1) dX1_work_429 (by decide) ?_
                      refine w_isubB dX1_work_430 (rfl : z24_.toInt = z24_.toInt) li_1 (lf_c_X1_work_5 v2_4 z24_ hv2_4 h21_ h25_ ) (fun z101_ h102_ => ?_)
                      refine w_iload dX1_work_431 0 rfl ?_
                      refine w_iast CC_nd rfl rfl (ic_25 hv) (rfl : z101_.toInt = z101_.toInt) (lf_c_X1_work_6 v2_4 z24_ z101_ hv2_4 h21_ h25_ h102_ ) dX1_work_433 (fun j105_ h106_ M103_ hM104_ => ?_)
                      have hI107_ := hI_4.put hM104_ trivial
                      have hF108_ := hF_4.put hM104_ (Or.inl ⟨rfl, rfl, rfl⟩)
                      refine w_iincB (j := 6) (f := fun z109_ => [(3, vI z109_), (8, vI z99_), (7, vI z32_), (6, vI z28_), (2, vI z24_), (5, vI z16_), (4, vI z12_), (0, vR (1, b, w)), (1, vR (29, b2, 0))]) dX1_work_434 rfl (by decide) (fun _ => rfl) (rfl : v3_4.toInt = v3_4.toInt) li_1 (lf_c_X1_work_1 v3_4 hv0_4 h8_ ) (fun z109_ h110_ => ?_)
                      refine w_goto (tgt := 4) dX1_work_437 (by decide) ?_
                      refine w_loc (ls' := [(3, vI z109_), (2, vI z24_), (0, vR (1, b, w)), (1, vR (29, b2, 0))]) [0, 4, 7, 8] rfl ?_
                      exact ih_4 M103_ hI107_ hF108_ z109_ z24_ (lf_c_X5_takeFrom_3 v3_4 z109_ hv0_4 h110_ ) (lf_c_X1_work_14 v2_4 z24_ h21_ h25_ ) (lf_c_X1_work_15 v2_4 z24_ hv2_4 h25_ ) (RCH.tail hL_4 ⟨hv0_4, hv1_4, hv2_4, hI_4, hF_4, z2_, e3_, h4_, h8_, j14_, h15_, z12_, e13_, z16_, h17_, (Or.inl ⟨h18_, (Or.inl ⟨h19_, (Or.inl ⟨h20_, (Or.inr ⟨h21_, z24_, h25_, z26_, h27_, j30_, h31_, z28_, e29_, j34_, h35_, z32_, e33_, z36_, h37_, (Or.inr (Or.inr (Or.inr (Or.inr (Or.inl ⟨e38_, (Or.inl ⟨h98_, z99_, h100_, z101_, h102_, j105_, h106_, M103_, hM104_, z109_, h110_, rfl, rfl, rfl⟩)⟩)))))⟩)⟩)⟩)⟩)⟩) (Nat.lt_of_lt_of_le (lf_c_X1_work_3 v3_4 z109_ h8_ h110_ ) (Nat.le_of_lt_succ hm_4))
                    · refine w_iconst (v := 0) dX1_work_413 (by decide) ?_
                      refine w_goto (tgt := 422) dX1_work_414 (by decide) ?_
                      refine w_istore (ls' := [(8, vI 0), (7, vI z32_), (6, vI z28_), (2, vI z24_), (5, vI z16_), (4, vI z12_), (3, vI v3_4), (0, vR (1, b, w)), (1, vR (29, b2, 0))]) dX1_work_422 (by decide) rfl ?_
                      refine w_aload_n dX1_work_424 rfl 7 rfl ?_
                      refine w_getR (c' := (25, b, w)) fl_RX1_13 rfl rfl (ic_1 hv) dX1_work_425 rfl ?_
                      refine w_iload_n dX1_work_428 rfl 3 rfl ?_
                      refine w_iconst (v := 1) dX1_work_429 (by decide) ?_
                      refine w_isubB dX1_work_430 (rfl : z24_.toInt = z24_.toInt) li_1 (lf_c_X1_work_5 v2_4 z24_ hv2_4 h21_ h25_ ) (fun z111_ h112_ => ?_)
                      refine w_iload dX1_work_431 0 rfl ?_
                      refine w_iast CC_nd rfl rfl (ic_25 hv) (rfl : z111_.toInt = z111_.toInt) (lf_c_X1_work_6 v2_4 z24_ z111_ hv2_4 h21_ h25_ h112_ ) dX1_work_433 (fun j115_ h116_ M113_ hM114_ => ?_)
                      have hI117_ := hI_4.put hM114_ trivial
                      have hF118_ := hF_4.put hM114_ (Or.inl ⟨rfl, rfl, rfl⟩)
                      refine w_iincB (j := 6) (f := fun z119_ => [(3, vI z119_), (8, vI 0), (7, vI z32_), (6, vI z28_), (2, vI z24_), (5, vI z16_), (4, vI z12_), (0, vR (1, b, w)), (1, vR (29, b2, 0))]) dX1_work_434 rfl (by decide) (fun _ => rfl) (rfl : v3_4.toInt = v3_4.toInt) li_1 (lf_c_X1_work_1 v3_4 hv0_4 h8_ ) (fun z119_ h120_ => ?_)
                      refine w_goto (tgt := 4) dX1_work_437 (by decide) ?_
                      refine w_loc (ls' := [(3, vI z119_), (2, vI z24_), (0, vR (1, b, w)), (1, vR (29, b2, 0))]) [0, 4, 7, 8] rfl ?_
                      exact ih_4 M113_ hI117_ hF118_ z119_ z24_ (lf_c_X5_takeFrom_3 v3_4 z119_ hv0_4 h120_ ) (lf_c_X1_work_14 v2_4 z24_ h21_ h25_ ) (lf_c_X1_work_15 v2_4 z24_ hv2_4 h25_ ) (RCH.tail hL_4 ⟨hv0_4, hv1_4, hv2_4, hI_4, hF_4, z2_, e3_, h4_, h8_, j14_, h15_, z12_, e13_, z16_, h17_, (Or.inl ⟨h18_, (Or.inl ⟨h19_, (Or.inl ⟨h20_, (Or.inr ⟨h21_, z24_, h25_, z26_, h27_, j30_, h31_, z28_, e29_, j34_, h35_, z32_, e33_, z36_, h37_, (Or.inr (Or.inr (Or.inr (Or.inr (Or.inl ⟨e38_, (Or.inr ⟨h98_, z111_, h112_, j115_, h116_, M113_, hM114_, z119_, h120_, rfl, rfl, rfl⟩)⟩)))))⟩)⟩)⟩)⟩)⟩) (Nat.lt_of_lt_of_le (lf_c_X1_work_3 v3_4 z119_ h8_ h120_ ) (Nat.le_of_lt_succ hm_4))
                  · refine w_tsIn (tgt := 389) (off := 181) dX1_work_208 e38_ (by decide) (by decide) rfl (by decide) ?_
                    refine w_iload dX1_work_389 1 rfl ?_
                    refine w_if_ne (tgt := 398) dX1_work_391 (by decide) (rfl : z32_.toInt = z32_.toInt) (fun h121_ => ?_) (fun h121_ => ?_)
                    · refine w_iload dX1_work_398 2 rfl ?_
                      refine w_iload dX1_work_400 1 rfl ?_
                      refine w_idiv dX1_work_402 (lf_c_X1_work_61 M_4 b w v3_4 v2_4 z2_ j14_ z12_ z24_ z26_ j30_ z28_ j34_ z32_ z36_ hv hv0_4 hv1_4 hv2_4 e3_ h4_ h8_ h15_ e13_ h18_ h19_ h20_ h21_ h25_ h27_ h31_ e29_ h35_ e33_ h37_ e38_ h121_ ) (fun z122_ h123_ => ?_)
                      refine w_istore (ls' := [(8, vI z122_), (7, vI z32_), (6, vI z28_), (2, vI z24_), (5, vI z16_), (4, vI z12_), (3, vI v3_4), (0, vR (1, b, w)), (1, vR (29, b2, 0))]) dX1_work_403 (by decide) rfl ?_
                      refine w_goto (tgt := 424) dX1_work_405 (by decide) ?_
                      refine w_aload_n dX1_work_424 rfl 7 rfl ?_
                      refine w_getR (c' := (25, b, w)) fl_RX1_13 rfl rfl (ic_1 hv) dX1_work_425 rfl ?_
                      refine w_iload_n dX1_work_428 rfl 3 rfl ?_
                      refine w_iconst (v := 1) dX1_work_429 (by decide) ?_
                      refine w_isubB dX1_work_430 (rfl : z24_.toInt = z24_.toInt) li_1 (lf_c_X1_work_5 v2_4 z24_ hv2_4 h21_ h25_ ) (fun z124_ h125_ => ?_)
                      refine w_iload dX1_work_431 0 rfl ?_
                      refine w_iast CC_nd rfl rfl (ic_25 hv) (rfl : z124_.toInt = z124_.toInt) (lf_c_X1_work_6 v2_4 z24_ z124_ hv2_4 h21_ h25_ h125_ ) dX1_work_433 (fun j128_ h129_ M126_ hM127_ => ?_)
                      have hI130_ := hI_4.put hM127_ trivial
                      have hF131_ := hF_4.put hM127_ (Or.inl ⟨rfl, rfl, rfl⟩)
                      refine w_iincB (j := 6) (f := fun z132_ => [(3, vI z132_), (8, vI z122_), (7, vI z32_), (6, vI z28_), (2, vI z24_), (5, vI z16_), (4, vI z12_), (0, vR (1, b, w)), (1, vR (29, b2, 0))]) dX1_work_434 rfl (by decide) (fun _ => rfl) (rfl : v3_4.toInt = v3_4.toInt) li_1 (lf_c_X1_work_1 v3_4 hv0_4 h8_ ) (fun z132_ h133_ => ?_)
                      refine w_goto (tgt := 4) dX1_work_437 (by decide) ?_
                      refine w_loc (ls' := [(3, vI z132_), (2, vI z24_), (0, vR (1, b, w)), (1, vR (29, b2, 0))]) [0, 4, 7, 8] rfl ?_
                      exact ih_4 M126_ hI130_ hF131_ z132_ z24_ (lf_c_X5_takeFrom_3 v3_4 z132_ hv0_4 h133_ ) (lf_c_X1_work_14 v2_4 z24_ h21_ h25_ ) (lf_c_X1_work_15 v2_4 z24_ hv2_4 h25_ ) (RCH.tail hL_4 ⟨hv0_4, hv1_4, hv2_4, hI_4, hF_4, z2_, e3_, h4_, h8_, j14_, h15_, z12_, e13_, z16_, h17_, (Or.inl ⟨h18_, (Or.inl ⟨h19_, (Or.inl ⟨h20_, (Or.inr ⟨h21_, z24_, h25_, z26_, h27_, j30_, h31_, z28_, e29_, j34_, h35_, z32_, e33_, z36_, h37_, (Or.inr (Or.inr (Or.inr (Or.inr (Or.inr (Or.inl ⟨e38_, (Or.inl ⟨h121_, z122_, h123_, z124_, h125_, j128_, h129_, M126_, hM127_, z132_, h133_, rfl, rfl, rfl⟩)⟩))))))⟩)⟩)⟩)⟩)⟩) (Nat.lt_of_lt_of_le (lf_c_X1_work_3 v3_4 z132_ h8_ h133_ ) (Nat.le_of_lt_succ hm_4))
                    · refine w_iconst (v := 0) dX1_work_394 (by decide) ?_
                      refine w_goto (tgt := 403) dX1_work_395 (by decide) ?_
                      refine w_istore (ls' := [(8, vI 0), (7, vI z32_), (6, vI z28_), (2, vI z24_), (5, vI z16_), (4, vI z12_), (3, vI v3_4), (0, vR (1, b, w)), (1, vR (29, b2, 0))]) dX1_work_403 (by decide) rfl ?_
                      refine w_goto (tgt := 424) dX1_work_405 (by decide) ?_
                      refine w_aload_n dX1_work_424 rfl 7 rfl ?_
                      refine w_getR (c' := (25, b, w)) fl_RX1_13 rfl rfl (ic_1 hv) dX1_work_425 rfl ?_
                      refine w_iload_n dX1_work_428 rfl 3 rfl ?_
                      refine w_iconst (v := 1) dX1_work_429 (by decide) ?_
                      refine w_isubB dX1_work_430 (rfl : z24_.toInt = z24_.toInt) li_1 (lf_c_X1_work_5 v2_4 z24_ hv2_4 h21_ h25_ ) (fun z134_ h135_ => ?_)
                      refine w_iload dX1_work_431 0 rfl ?_
                      refine w_iast CC_nd rfl rfl (ic_25 hv) (rfl : z134_.toInt = z134_.toInt) (lf_c_X1_work_6 v2_4 z24_ z134_ hv2_4 h21_ h25_ h135_ ) dX1_work_433 (fun j138_ h139_ M136_ hM137_ => ?_)
                      have hI140_ := hI_4.put hM137_ trivial
                      have hF141_ := hF_4.put hM137_ (Or.inl ⟨rfl, rfl, rfl⟩)
                      refine w_iincB (j := 6) (f := fun z142_ => [(3, vI z142_), (8, vI 0), (7, vI z32_), (6, vI z28_), (2, vI z24_), (5, vI z16_), (4, vI z12_), (0, vR (1, b, w)), (1, vR (29, b2, 0))]) dX1_work_434 rfl (by decide) (fun _ => rfl) (rfl : v3_4.toInt = v3_4.toInt) li_1 (lf_c_X1_work_1 v3_4 hv0_4 h8_ ) (fun z142_ h143_ => ?_)
                      refine w_goto (tgt := 4) dX1_work_437 (by decide) ?_
                      refine w_loc (ls' := [(3, vI z142_), (2, vI z24_), (0, vR (1, b, w)), (1, vR (29, b2, 0))]) [0, 4, 7, 8] rfl ?_
                      exact ih_4 M136_ hI140_ hF141_ z142_ z24_ (lf_c_X5_takeFrom_3 v3_4 z142_ hv0_4 h143_ ) (lf_c_X1_work_14 v2_4 z24_ h21_ h25_ ) (lf_c_X1_work_15 v2_4 z24_ hv2_4 h25_ ) (RCH.tail hL_4 ⟨hv0_4, hv1_4, hv2_4, hI_4, hF_4, z2_, e3_, h4_, h8_, j14_, h15_, z12_, e13_, z16_, h17_, (Or.inl ⟨h18_, (Or.inl ⟨h19_, (Or.inl ⟨h20_, (Or.inr ⟨h21_, z24_, h25_, z26_, h27_, j30_, h31_, z28_, e29_, j34_, h35_, z32_, e33_, z36_, h37_, (Or.inr (Or.inr (Or.inr (Or.inr (Or.inr (Or.inl ⟨e38_, (Or.inr ⟨h121_, z134_, h135_, j138_, h139_, M136_, hM137_, z142_, h143_, rfl, rfl, rfl⟩)⟩))))))⟩)⟩)⟩)⟩)⟩) (Nat.lt_of_lt_of_le (lf_c_X1_work_3 v3_4 z142_ h8_ h143_ ) (Nat.le_of_lt_succ hm_4))
                  · refine w_tsIn (tgt := 408) (off := 200) dX1_work_208 e38_ (by decide) (by decide) rfl (by decide) ?_
                    refine w_iload dX1_work_408 1 rfl ?_
                    refine w_if_ne (tgt := 417) dX1_work_410 (by decide) (rfl : z32_.toInt = z32_.toInt) (fun h144_ => ?_) (fun h144_ => ?_)
                    · refine w_iload dX1_work_417 2 rfl ?_
                      refine w_iload dX1_work_419 1 rfl ?_
                      refine w_irem dX1_work_421 (lf_c_X1_work_76 M_4 b w v3_4 v2_4 z2_ j14_ z12_ z24_ z26_ j30_ z28_ j34_ z32_ z36_ hv hv0_4 hv1_4 hv2_4 e3_ h4_ h8_ h15_ e13_ h18_ h19_ h20_ h21_ h25_ h27_ h31_ e29_ h35_ e33_ h37_ e38_ h144_ ) (fun z145_ h146_ => ?_)
                      refine w_istore (ls' := [(8, vI z145_), (7, vI z32_), (6, vI z28_), (2, vI z24_), (5, vI z16_), (4, vI z12_), (3, vI v3_4), (0, vR (1, b, w)), (1, vR (29, b2, 0))]) dX1_work_422 (by decide) rfl ?_
                      refine w_aload_n dX1_work_424 rfl 7 rfl ?_
                      refine w_getR (c' := (25, b, w)) fl_RX1_13 rfl rfl (ic_1 hv) dX1_work_425 rfl ?_
                      refine w_iload_n dX1_work_428 rfl 3 rfl ?_
                      refine w_iconst (v := 1) dX1_work_429 (by decide) ?_
                      refine w_isubB dX1_work_430 (rfl : z24_.toInt = z24_.toInt) li_1 (lf_c_X1_work_5 v2_4 z24_ hv2_4 h21_ h25_ ) (fun z147_ h148_ => ?_)
                      refine w_iload dX1_work_431 0 rfl ?_
                      refine w_iast CC_nd rfl rfl (ic_25 hv) (rfl : z147_.toInt = z147_.toInt) (lf_c_X1_work_6 v2_4 z24_ z147_ hv2_4 h21_ h25_ h148_ ) dX1_work_433 (fun j151_ h152_ M149_ hM150_ => ?_)
                      have hI153_ := hI_4.put hM150_ trivial
                      have hF154_ := hF_4.put hM150_ (Or.inl ⟨rfl, rfl, rfl⟩)
                      refine w_iincB (j := 6) (f := fun z155_ => [(3, vI z155_), (8, vI z145_), (7, vI z32_), (6, vI z28_), (2, vI z24_), (5, vI z16_), (4, vI z12_), (0, vR (1, b, w)), (1, vR (29, b2, 0))]) dX1_work_434 rfl (by decide) (fun _ => rfl) (rfl : v3_4.toInt = v3_4.toInt) li_1 (lf_c_X1_work_1 v3_4 hv0_4 h8_ ) (fun z155_ h156_ => ?_)
                      refine w_goto (tgt := 4) dX1_work_437 (by decide) ?_
                      refine w_loc (ls' := [(3, vI z155_), (2, vI z24_), (0, vR (1, b, w)), (1, vR (29, b2, 0))]) [0, 4, 7, 8] rfl ?_
                      exact ih_4 M149_ hI153_ hF154_ z155_ z24_ (lf_c_X5_takeFrom_3 v3_4 z155_ hv0_4 h156_ ) (lf_c_X1_work_14 v2_4 z24_ h21_ h25_ ) (lf_c_X1_work_15 v2_4 z24_ hv2_4 h25_ ) (RCH.tail hL_4 ⟨hv0_4, hv1_4, hv2_4, hI_4, hF_4, z2_, e3_, h4_, h8_, j14_, h15_, z12_, e13_, z16_, h17_, (Or.inl ⟨h18_, (Or.inl ⟨h19_, (Or.inl ⟨h20_, (Or.inr ⟨h21_, z24_, h25_, z26_, h27_, j30_, h31_, z28_, e29_, j34_, h35_, z32_, e33_, z36_, h37_, (Or.inr (Or.inr (Or.inr (Or.inr (Or.inr (Or.inr (Or.inl ⟨e38_, (Or.inl ⟨h144_, z145_, h146_, z147_, h148_, j151_, h152_, M149_, hM150_, z155_, h156_, rfl, rfl, rfl⟩)⟩)))))))⟩)⟩)⟩)⟩)⟩) (Nat.lt_of_lt_of_le (lf_c_X1_work_3 v3_4 z155_ h8_ h156_ ) (Nat.le_of_lt_succ hm_4))
                    · refine w_iconst (v := 0) dX1_work_413 (by decide) ?_
                      refine w_goto (tgt := 422) dX1_work_414 (by decide) ?_
                      refine w_istore (ls' := [(8, vI 0), (7, vI z32_), (6, vI z28_), (2, vI z24_), (5, vI z16_), (4, vI z12_), (3, vI v3_4), (0, vR (1, b, w)), (1, vR (29, b2, 0))]) dX1_work_422 (by decide) rfl ?_
                      refine w_aload_n dX1_work_424 rfl 7 rfl ?_
                      refine w_getR (c' := (25, b, w)) fl_RX1_13 rfl rfl (ic_1 hv) dX1_work_425 rfl ?_
                      refine w_iload_n dX1_work_428 rfl 3 rfl ?_
                      refine w_iconst (v := 1) dX1_work_429 (by decide) ?_
                      refine w_isubB dX1_work_430 (rfl : z24_.toInt = z24_.toInt) li_1 (lf_c_X1_work_5 v2_4 z24_ hv2_4 h21_ h25_ ) (fun z157_ h158_ => ?_)
                      refine w_iload dX1_work_431 0 rfl ?_
                      refine w_iast CC_nd rfl rfl (ic_25 hv) (rfl : z157_.toInt = z157_.toInt) (lf_c_X1_work_6 v2_4 z24_ z157_ hv2_4 h21_ h25_ h158_ ) dX1_work_433 (fun j161_ h162_ M159_ hM160_ => ?_)
                      have hI163_ := hI_4.put hM160_ trivial
                      have hF164_ := hF_4.put hM160_ (Or.inl ⟨rfl, rfl, rfl⟩)
                      refine w_iincB (j := 6) (f := fun z165_ => [(3, vI z165_), (8, vI 0), (7, vI z32_), (6, vI z28_), (2, vI z24_), (5, vI z16_), (4, vI z12_), (0, vR (1, b, w)), (1, vR (29, b2, 0))]) dX1_work_434 rfl (by decide) (fun _ => rfl) (rfl : v3_4.toInt = v3_4.toInt) li_1 (lf_c_X1_work_1 v3_4 hv0_4 h8_ ) (fun z165_ h166_ => ?_)
                      refine w_goto (tgt := 4) dX1_work_437 (by decide) ?_
                      refine w_loc (ls' := [(3, vI z165_), (2, vI z24_), (0, vR (1, b, w)), (1, vR (29, b2, 0))]) [0, 4, 7, 8] rfl ?_
                      exact ih_4 M159_ hI163_ hF164_ z165_ z24_ (lf_c_X5_takeFrom_3 v3_4 z165_ hv0_4 h166_ ) (lf_c_X1_work_14 v2_4 z24_ h21_ h25_ ) (lf_c_X1_work_15 v2_4 z24_ hv2_4 h25_ ) (RCH.tail hL_4 ⟨hv0_4, hv1_4, hv2_4, hI_4, hF_4, z2_, e3_, h4_, h8_, j14_, h15_, z12_, e13_, z16_, h17_, (Or.inl ⟨h18_, (Or.inl ⟨h19_, (Or.inl ⟨h20_, (Or.inr ⟨h21_, z24_, h25_, z26_, h27_, j30_, h31_, z28_, e29_, j34_, h35_, z32_, e33_, z36_, h37_, (Or.inr (Or.inr (Or.inr (Or.inr (Or.inr (Or.inr (Or.inl ⟨e38_, (Or.inr ⟨h144_, z157_, h158_, j161_, h162_, M159_, hM160_, z165_, h166_, rfl, rfl, rfl⟩)⟩)))))))⟩)⟩)⟩)⟩)⟩) (Nat.lt_of_lt_of_le (lf_c_X1_work_3 v3_4 z165_ h8_ h166_ ) (Nat.le_of_lt_succ hm_4))
                  · refine w_tsIn (tgt := 408) (off := 200) dX1_work_208 e38_ (by decide) (by decide) rfl (by decide) ?_
                    refine w_iload dX1_work_408 1 rfl ?_
                    refine w_if_ne (tgt := 417) dX1_work_410 (by decide) (rfl : z32_.toInt = z32_.toInt) (fun h167_ => ?_) (fun h167_ => ?_)
                    · refine w_iload dX1_work_417 2 rfl ?_
                      refine w_iload dX1_work_419 1 rfl ?_
                      refine w_irem dX1_work_421 (lf_c_X1_work_91 M_4 b w v3_4 v2_4 z2_ j14_ z12_ z24_ z26_ j30_ z28_ j34_ z32_ z36_ hv hv0_4 hv1_4 hv2_4 e3_ h4_ h8_ h15_ e13_ h18_ h19_ h20_ h21_ h25_ h27_ h31_ e29_ h35_ e33_ h37_ e38_ h167_ ) (fun z168_ h169_ => ?_)
                      refine w_istore (ls' := [(8, vI z168_), (7, vI z32_), (6, vI z28_), (2, vI z24_), (5, vI z16_), (4, vI z12_), (3, vI v3_4), (0, vR (1, b, w)), (1, vR (29, b2, 0))]) dX1_work_422 (by decide) rfl ?_
                      refine w_aload_n dX1_work_424 rfl 7 rfl ?_
                      refine w_getR (c' := (25, b, w)) fl_RX1_13 rfl rfl (ic_1 hv) dX1_work_425 rfl ?_
                      refine w_iload_n dX1_work_428 rfl 3 rfl ?_
                      refine w_iconst (v := 1) dX1_work_429 (by decide) ?_
                      refine w_isubB dX1_work_430 (rfl : z24_.toInt = z24_.toInt) li_1 (lf_c_X1_work_5 v2_4 z24_ hv2_4 h21_ h25_ ) (fun z170_ h171_ => ?_)
                      refine w_iload dX1_work_431 0 rfl ?_
                      refine w_iast CC_nd rfl rfl (ic_25 hv) (rfl : z170_.toInt = z170_.toInt) (lf_c_X1_work_6 v2_4 z24_ z170_ hv2_4 h21_ h25_ h171_ ) dX1_work_433 (fun j174_ h175_ M172_ hM173_ => ?_)
                      have hI176_ := hI_4.put hM173_ trivial
                      have hF177_ := hF_4.put hM173_ (Or.inl ⟨rfl, rfl, rfl⟩)
                      refine w_iincB (j := 6) (f := fun z178_ => [(3, vI z178_), (8, vI z168_), (7, vI z32_), (6, vI z28_), (2, vI z24_), (5, vI z16_), (4, vI z12_), (0, vR (1, b, w)), (1, vR (29, b2, 0))]) dX1_work_434 rfl (by decide) (fun _ => rfl) (rfl : v3_4.toInt = v3_4.toInt) li_1 (lf_c_X1_work_1 v3_4 hv0_4 h8_ ) (fun z178_ h179_ => ?_)
                      refine w_goto (tgt := 4) dX1_work_437 (by decide) ?_
                      refine w_loc (ls' := [(3, vI z178_), (2, vI z24_), (0, vR (1, b, w)), (1, vR (29, b2, 0))]) [0, 4, 7, 8] rfl ?_
                      exact ih_4 M172_ hI176_ hF177_ z178_ z24_ (lf_c_X5_takeFrom_3 v3_4 z178_ hv0_4 h179_ ) (lf_c_X1_work_14 v2_4 z24_ h21_ h25_ ) (lf_c_X1_work_15 v2_4 z24_ hv2_4 h25_ ) (RCH.tail hL_4 ⟨hv0_4, hv1_4, hv2_4, hI_4, hF_4, z2_, e3_, h4_, h8_, j14_, h15_, z12_, e13_, z16_, h17_, (Or.inl ⟨h18_, (Or.inl ⟨h19_, (Or.inl ⟨h20_, (Or.inr ⟨h21_, z24_, h25_, z26_, h27_, j30_, h31_, z28_, e29_, j34_, h35_, z32_, e33_, z36_, h37_, (Or.inr (Or.inr (Or.inr (Or.inr (Or.inr (Or.inr (Or.inr (Or.inl ⟨e38_, (Or.inl ⟨h167_, z168_, h169_, z170_, h171_, j174_, h175_, M172_, hM173_, z178_, h179_, rfl, rfl, rfl⟩)⟩))))))))⟩)⟩)⟩)⟩)⟩) (Nat.lt_of_lt_of_le (lf_c_X1_work_3 v3_4 z178_ h8_ h179_ ) (Nat.le_of_lt_succ hm_4))
                    · refine w_iconst (v := 0) dX1_work_413 (by decide) ?_
                      refine w_goto (tgt := 422) dX1_work_414 (by decide) ?_
                      refine w_istore (ls' := [(8, vI 0), (7, vI z32_), (6, vI z28_), (2, vI z24_), (5, vI z16_), (4, vI z12_), (3, vI v3_4), (0, vR (1, b, w)), (1, vR (29, b2, 0))]) dX1_work_422 (by decide) rfl ?_
                      refine w_aload_n dX1_work_424 rfl 7 rfl ?_
                      refine w_getR (c' := (25, b, w)) fl_RX1_13 rfl rfl (ic_1 hv) dX1_work_425 rfl ?_
                      refine w_iload_n dX1_work_428 rfl 3 rfl ?_
                      refine w_iconst (v := 1) dX1_work_429 (by decide) ?_
                      refine w_isubB dX1_work_430 (rfl : z24_.toInt = z24_.toInt) li_1 (lf_c_X1_work_5 v2_4 z24_ hv2_4 h21_ h25_ ) (fun z180_ h181_ => ?_)
                      refine w_iload dX1_work_431 0 rfl ?_
                      refine w_iast CC_nd rfl rfl (ic_25 hv) (rfl : z180_.toInt = z180_.toInt) (lf_c_X1_work_6 v2_4 z24_ z180_ hv2_4 h21_ h25_ h181_ ) dX1_work_433 (fun j184_ h185_ M182_ hM183_ => ?_)
                      have hI186_ := hI_4.put hM183_ trivial
                      have hF187_ := hF_4.put hM183_ (Or.inl ⟨rfl, rfl, rfl⟩)
                      refine w_iincB (j := 6) (f := fun z188_ => [(3, vI z188_), (8, vI 0), (7, vI z32_), (6, vI z28_), (2, vI z24_), (5, vI z16_), (4, vI z12_), (0, vR (1, b, w)), (1, vR (29, b2, 0))]) dX1_work_434 rfl (by decide) (fun _ => rfl) (rfl : v3_4.toInt = v3_4.toInt) li_1 (lf_c_X1_work_1 v3_4 hv0_4 h8_ ) (fun z188_ h189_ => ?_)
                      refine w_goto (tgt := 4) dX1_work_437 (by decide) ?_
                      refine w_loc (ls' := [(3, vI z188_), (2, vI z24_), (0, vR (1, b, w)), (1, vR (29, b2, 0))]) [0, 4, 7, 8] rfl ?_
                      exact ih_4 M182_ hI186_ hF187_ z188_ z24_ (lf_c_X5_takeFrom_3 v3_4 z188_ hv0_4 h189_ ) (lf_c_X1_work_14 v2_4 z24_ h21_ h25_ ) (lf_c_X1_work_15 v2_4 z24_ hv2_4 h25_ ) (RCH.tail hL_4 ⟨hv0_4, hv1_4, hv2_4, hI_4, hF_4, z2_, e3_, h4_, h8_, j14_, h15_, z12_, e13_, z16_, h17_, (Or.inl ⟨h18_, (Or.inl ⟨h19_, (Or.inl ⟨h20_, (Or.inr ⟨h21_, z24_, h25_, z26_, h27_, j30_, h31_, z28_, e29_, j34_, h35_, z32_, e33_, z36_, h37_, (Or.inr (Or.inr (Or.inr (Or.inr (Or.inr (Or.inr (Or.inr (Or.inl ⟨e38_, (Or.inr ⟨h167_, z180_, h181_, j184_, h185_, M182_, hM183_, z188_, h189_, rfl, rfl, rfl⟩)⟩))))))))⟩)⟩)⟩)⟩)⟩) (Nat.lt_of_lt_of_le (lf_c_X1_work_3 v3_4 z188_ h8_ h189_ ) (Nat.le_of_lt_succ hm_4))
                  · refine w_tsIn (tgt := 408) (off := 200) dX1_work_208 e38_ (by decide) (by decide) rfl (by decide) ?_
                    refine w_iload dX1_work_408 1 rfl ?_
                    refine w_if_ne (tgt := 417) dX1_work_410 (by decide) (rfl : z32_.toInt = z32_.toInt) (fun h190_ => ?_) (fun h190_ => ?_)
                    · refine w_iload dX1_work_417 2 rfl ?_
                      refine w_iload dX1_work_419 1 rfl ?_
                      refine w_irem dX1_work_421 (lf_c_X1_work_106 M_4 b w v3_4 v2_4 z2_ j14_ z12_ z24_ z26_ j30_ z28_ j34_ z32_ z36_ hv hv0_4 hv1_4 hv2_4 e3_ h4_ h8_ h15_ e13_ h18_ h19_ h20_ h21_ h25_ h27_ h31_ e29_ h35_ e33_ h37_ e38_ h190_ ) (fun z191_ h192_ => ?_)
                      refine w_istore (ls' := [(8, vI z191_), (7, vI z32_), (6, vI z28_), (2, vI z24_), (5, vI z16_), (4, vI z12_), (3, vI v3_4), (0, vR (1, b, w)), (1, vR (29, b2, 0))]) dX1_work_422 (by decide) rfl ?_
                      refine w_aload_n dX1_work_424 rfl 7 rfl ?_
                      refine w_getR (c' := (25, b, w)) fl_RX1_13 rfl rfl (ic_1 hv) dX1_work_425 rfl ?_
                      refine w_iload_n dX1_work_428 rfl 3 rfl ?_
                      refine w_iconst (v := 1) dX1_work_429 (by decide) ?_
                      refine w_isubB dX1_work_430 (rfl : z24_.toInt = z24_.toInt) li_1 (lf_c_X1_work_5 v2_4 z24_ hv2_4 h21_ h25_ ) (fun z193_ h194_ => ?_)
                      refine w_iload dX1_work_431 0 rfl ?_
                      refine w_iast CC_nd rfl rfl (ic_25 hv) (rfl : z193_.toInt = z193_.toInt) (lf_c_X1_work_6 v2_4 z24_ z193_ hv2_4 h21_ h25_ h194_ ) dX1_work_433 (fun j197_ h198_ M195_ hM196_ => ?_)
                      have hI199_ := hI_4.put hM196_ trivial
                      have hF200_ := hF_4.put hM196_ (Or.inl ⟨rfl, rfl, rfl⟩)
                      refine w_iincB (j := 6) (f := fun z201_ => [(3, vI z201_), (8, vI z191_), (7, vI z32_), (6, vI z28_), (2, vI z24_), (5, vI z16_), (4, vI z12_), (0, vR (1, b, w)), (1, vR (29, b2, 0))]) dX1_work_434 rfl (by decide) (fun _ => rfl) (rfl : v3_4.toInt = v3_4.toInt) li_1 (lf_c_X1_work_1 v3_4 hv0_4 h8_ ) (fun z201_ h202_ => ?_)
                      refine w_goto (tgt := 4) dX1_work_437 (by decide) ?_
                      refine w_loc (ls' := [(3, vI z201_), (2, vI z24_), (0, vR (1, b, w)), (1, vR (29, b2, 0))]) [0, 4, 7, 8] rfl ?_
                      exact ih_4 M195_ hI199_ hF200_ z201_ z24_ (lf_c_X5_takeFrom_3 v3_4 z201_ hv0_4 h202_ ) (lf_c_X1_work_14 v2_4 z24_ h21_ h25_ ) (lf_c_X1_work_15 v2_4 z24_ hv2_4 h25_ ) (RCH.tail hL_4 ⟨hv0_4, hv1_4, hv2_4, hI_4, hF_4, z2_, e3_, h4_, h8_, j14_, h15_, z12_, e13_, z16_, h17_, (Or.inl ⟨h18_, (Or.inl ⟨h19_, (Or.inl ⟨h20_, (Or.inr ⟨h21_, z24_, h25_, z26_, h27_, j30_, h31_, z28_, e29_, j34_, h35_, z32_, e33_, z36_, h37_, (Or.inr (Or.inr (Or.inr (Or.inr (Or.inr (Or.inr (Or.inr (Or.inr (Or.inl ⟨e38_, (Or.inl ⟨h190_, z191_, h192_, z193_, h194_, j197_, h198_, M195_, hM196_, z201_, h202_, rfl, rfl, rfl⟩)⟩)))))))))⟩)⟩)⟩)⟩)⟩) (Nat.lt_of_lt_of_le (lf_c_X1_work_3 v3_4 z201_ h8_ h202_ ) (Nat.le_of_lt_succ hm_4))
                    · refine w_iconst (v := 0) dX1_work_413 (by decide) ?_
                      refine w_goto (tgt := 422) dX1_work_414 (by decide) ?_
                      refine w_istore (ls' := [(8, vI 0), (7, vI z32_), (6, vI z28_), (2, vI z24_), (5, vI z16_), (4, vI z12_), (3, vI v3_4), (0, vR (1, b, w)), (1, vR (29, b2, 0))]) dX1_work_422 (by decide) rfl ?_
                      refine w_aload_n dX1_work_424 rfl 7 rfl ?_
                      refine w_getR (c' := (25, b, w)) fl_RX1_13 rfl rfl (ic_1 hv) dX1_work_425 rfl ?_
                      refine w_iload_n dX1_work_428 rfl 3 rfl ?_
                      refine w_iconst (v := 1) dX1_work_429 (by decide) ?_
                      refine w_isubB dX1_work_430 (rfl : z24_.toInt = z24_.toInt) li_1 (lf_c_X1_work_5 v2_4 z24_ hv2_4 h21_ h25_ ) (fun z203_ h204_ => ?_)
                      refine w_iload dX1_work_431 0 rfl ?_
                      refine w_iast CC_nd rfl rfl (ic_25 hv) (rfl : z203_.toInt = z203_.toInt) (lf_c_X1_work_6 v2_4 z24_ z203_ hv2_4 h21_ h25_ h204_ ) dX1_work_433 (fun j207_ h208_ M205_ hM206_ => ?_)
                      have hI209_ := hI_4.put hM206_ trivial
                      have hF210_ := hF_4.put hM206_ (Or.inl ⟨rfl, rfl, rfl⟩)
                      refine w_iincB (j := 6) (f := fun z211_ => [(3, vI z211_), (8, vI 0), (7, vI z32_), (6, vI z28_), (2, vI z24_), (5, vI z16_), (4, vI z12_), (0, vR (1, b, w)), (1, vR (29, b2, 0))]) dX1_work_434 rfl (by decide) (fun _ => rfl) (rfl : v3_4.toInt = v3_4.toInt) li_1 (lf_c_X1_work_1 v3_4 hv0_4 h8_ ) (fun z211_ h212_ => ?_)
                      refine w_goto (tgt := 4) dX1_work_437 (by decide) ?_
                      refine w_loc (ls' := [(3, vI z211_), (2, vI z24_), (0, vR (1, b, w)), (1, vR (29, b2, 0))]) [0, 4, 7, 8] rfl ?_
                      exact ih_4 M205_ hI209_ hF210_ z211_ z24_ (lf_c_X5_takeFrom_3 v3_4 z211_ hv0_4 h212_ ) (lf_c_X1_work_14 v2_4 z24_ h21_ h25_ ) (lf_c_X1_work_15 v2_4 z24_ hv2_4 h25_ ) (RCH.tail hL_4 ⟨hv0_4, hv1_4, hv2_4, hI_4, hF_4, z2_, e3_, h4_, h8_, j14_, h15_, z12_, e13_, z16_, h17_, (Or.inl ⟨h18_, (Or.inl ⟨h19_, (Or.inl ⟨h20_, (Or.inr ⟨h21_, z24_, h25_, z26_, h27_, j30_, h31_, z28_, e29_, j34_, h35_, z32_, e33_, z36_, h37_, (Or.inr (Or.inr (Or.inr (Or.inr (Or.inr (Or.inr (Or.inr (Or.inr (Or.inl ⟨e38_, (Or.inr ⟨h190_, z203_, h204_, j207_, h208_, M205_, hM206_, z211_, h212_, rfl, rfl, rfl⟩)⟩)))))))))⟩)⟩)⟩)⟩)⟩) (Nat.lt_of_lt_of_le (lf_c_X1_work_3 v3_4 z211_ h8_ h212_ ) (Nat.le_of_lt_succ hm_4))
                  · refine w_tsIn (tgt := 408) (off := 200) dX1_work_208 e38_ (by decide) (by decide) rfl (by decide) ?_
                    refine w_iload dX1_work_408 1 rfl ?_
                    refine w_if_ne (tgt := 417) dX1_work_410 (by decide) (rfl : z32_.toInt = z32_.toInt) (fun h213_ => ?_) (fun h213_ => ?_)
                    · refine w_iload dX1_work_417 2 rfl ?_
                      refine w_iload dX1_work_419 1 rfl ?_
                      refine w_irem dX1_work_421 (lf_c_X1_work_121 M_4 b w v3_4 v2_4 z2_ j14_ z12_ z24_ z26_ j30_ z28_ j34_ z32_ z36_ hv hv0_4 hv1_4 hv2_4 e3_ h4_ h8_ h15_ e13_ h18_ h19_ h20_ h21_ h25_ h27_ h31_ e29_ h35_ e33_ h37_ e38_ h213_ ) (fun z214_ h215_ => ?_)
                      refine w_istore (ls' := [(8, vI z214_), (7, vI z32_), (6, vI z28_), (2, vI z24_), (5, vI z16_), (4, vI z12_), (3, vI v3_4), (0, vR (1, b, w)), (1, vR (29, b2, 0))]) dX1_work_422 (by decide) rfl ?_
                      refine w_aload_n dX1_work_424 rfl 7 rfl ?_
                      refine w_getR (c' := (25, b, w)) fl_RX1_13 rfl rfl (ic_1 hv) dX1_work_425 rfl ?_
                      refine w_iload_n dX1_work_428 rfl 3 rfl ?_
                      refine w_iconst (v := 1) dX1_work_429 (by decide) ?_
                      refine w_isubB dX1_work_430 (rfl : z24_.toInt = z24_.toInt) li_1 (lf_c_X1_work_5 v2_4 z24_ hv2_4 h21_ h25_ ) (fun z216_ h217_ => ?_)
                      refine w_iload dX1_work_431 0 rfl ?_
                      refine w_iast CC_nd rfl rfl (ic_25 hv) (rfl : z216_.toInt = z216_.toInt) (lf_c_X1_work_6 v2_4 z24_ z216_ hv2_4 h21_ h25_ h217_ ) dX1_work_433 (fun j220_ h221_ M218_ hM219_ => ?_)
                      have hI222_ := hI_4.put hM219_ trivial
                      have hF223_ := hF_4.put hM219_ (Or.inl ⟨rfl, rfl, rfl⟩)
                      refine w_iincB (j := 6) (f := fun z224_ => [(3, vI z224_), (8, vI z214_), (7, vI z32_), (6, vI z28_), (2, vI z24_), (5, vI z16_), (4, vI z12_), (0, vR (1, b, w)), (1, vR (29, b2, 0))]) dX1_work_434 rfl (by decide) (fun _ => rfl) (rfl : v3_4.toInt = v3_4.toInt) li_1 (lf_c_X1_work_1 v3_4 hv0_4 h8_ ) (fun z224_ h225_ => ?_)
                      refine w_goto (tgt := 4) dX1_work_437 (by decide) ?_
                      refine w_loc (ls' := [(3, vI z224_), (2, vI z24_), (0, vR (1, b, w)), (1, vR (29, b2, 0))]) [0, 4, 7, 8] rfl ?_
                      exact ih_4 M218_ hI222_ hF223_ z224_ z24_ (lf_c_X5_takeFrom_3 v3_4 z224_ hv0_4 h225_ ) (lf_c_X1_work_14 v2_4 z24_ h21_ h25_ ) (lf_c_X1_work_15 v2_4 z24_ hv2_4 h25_ ) (RCH.tail hL_4 ⟨hv0_4, hv1_4, hv2_4, hI_4, hF_4, z2_, e3_, h4_, h8_, j14_, h15_, z12_, e13_, z16_, h17_, (Or.inl ⟨h18_, (Or.inl ⟨h19_, (Or.inl ⟨h20_, (Or.inr ⟨h21_, z24_, h25_, z26_, h27_, j30_, h31_, z28_, e29_, j34_, h35_, z32_, e33_, z36_, h37_, (Or.inr (Or.inr (Or.inr (Or.inr (Or.inr (Or.inr (Or.inr (Or.inr (Or.inr (Or.inl ⟨e38_, (Or.inl ⟨h213_, z214_, h215_, z216_, h217_, j220_, h221_, M218_, hM219_, z224_, h225_, rfl, rfl, rfl⟩)⟩))))))))))⟩)⟩)⟩)⟩)⟩) (Nat.lt_of_lt_of_le (lf_c_X1_work_3 v3_4 z224_ h8_ h225_ ) (Nat.le_of_lt_succ hm_4))
                    · refine w_iconst (v := 0) dX1_work_413 (by decide) ?_
                      refine w_goto (tgt := 422) dX1_work_414 (by decide) ?_
                      refine w_istore (ls' := [(8, vI 0), (7, vI z32_), (6, vI z28_), (2, vI z24_), (5, vI z16_), (4, vI z12_), (3, vI v3_4), (0, vR (1, b, w)), (1, vR (29, b2, 0))]) dX1_work_422 (by decide) rfl ?_
                      refine w_aload_n dX1_work_424 rfl 7 rfl ?_
                      refine w_getR (c' := (25, b, w)) fl_RX1_13 rfl rfl (ic_1 hv) dX1_work_425 rfl ?_
                      refine w_iload_n dX1_work_428 rfl 3 rfl ?_
                      refine w_iconst (v := 1) dX1_work_429 (by decide) ?_
                      refine w_isubB dX1_work_430 (rfl : z24_.toInt = z24_.toInt) li_1 (lf_c_X1_work_5 v2_4 z24_ hv2_4 h21_ h25_ ) (fun z226_ h227_ => ?_)
                      refine w_iload dX1_work_431 0 rfl ?_
                      refine w_iast CC_nd rfl rfl (ic_25 hv) (rfl : z226_.toInt = z226_.toInt) (lf_c_X1_work_6 v2_4 z24_ z226_ hv2_4 h21_ h25_ h227_ ) dX1_work_433 (fun j230_ h231_ M228_ hM229_ => ?_)
                      have hI232_ := hI_4.put hM229_ trivial
                      have hF233_ := hF_4.put hM229_ (Or.inl ⟨rfl, rfl, rfl⟩)
                      refine w_iincB (j := 6) (f := fun z234_ => [(3, vI z234_), (8, vI 0), (7, vI z32_), (6, vI z28_), (2, vI z24_), (5, vI z16_), (4, vI z12_), (0, vR (1, b, w)), (1, vR (29, b2, 0))]) dX1_work_434 rfl (by decide) (fun _ => rfl) (rfl : v3_4.toInt = v3_4.toInt) li_1 (lf_c_X1_work_1 v3_4 hv0_4 h8_ ) (fun z234_ h235_ => ?_)
                      refine w_goto (tgt := 4) dX1_work_437 (by decide) ?_
                      refine w_loc (ls' := [(3, vI z234_), (2, vI z24_), (0, vR (1, b, w)), (1, vR (29, b2, 0))]) [0, 4, 7, 8] rfl ?_
                      exact ih_4 M228_ hI232_ hF233_ z234_ z24_ (lf_c_X5_takeFrom_3 v3_4 z234_ hv0_4 h235_ ) (lf_c_X1_work_14 v2_4 z24_ h21_ h25_ ) (lf_c_X1_work_15 v2_4 z24_ hv2_4 h25_ ) (RCH.tail hL_4 ⟨hv0_4, hv1_4, hv2_4, hI_4, hF_4, z2_, e3_, h4_, h8_, j14_, h15_, z12_, e13_, z16_, h17_, (Or.inl ⟨h18_, (Or.inl ⟨h19_, (Or.inl ⟨h20_, (Or.inr ⟨h21_, z24_, h25_, z26_, h27_, j30_, h31_, z28_, e29_, j34_, h35_, z32_, e33_, z36_, h37_, (Or.inr (Or.inr (Or.inr (Or.inr (Or.inr (Or.inr (Or.inr (Or.inr (Or.inr (Or.inl ⟨e38_, (Or.inr ⟨h213_, z226_, h227_, j230_, h231_, M228_, hM229_, z234_, h235_, rfl, rfl, rfl⟩)⟩))))))))))⟩)⟩)⟩)⟩)⟩) (Nat.lt_of_lt_of_le (lf_c_X1_work_3 v3_4 z234_ h8_ h235_ ) (Nat.le_of_lt_succ hm_4))
                  · refine w_tsIn (tgt := 408) (off := 200) dX1_work_208 e38_ (by decide) (by decide) rfl (by decide) ?_
                    refine w_iload dX1_work_408 1 rfl ?_
                    refine w_if_ne (tgt := 417) dX1_work_410 (by decide) (rfl : z32_.toInt = z32_.toInt) (fun h236_ => ?_) (fun h236_ => ?_)
                    · refine w_iload dX1_work_417 2 rfl ?_
                      refine w_iload dX1_work_419 1 rfl ?_
                      refine w_irem dX1_work_421 (lf_c_X1_work_136 M_4 b w v3_4 v2_4 z2_ j14_ z12_ z24_ z26_ j30_ z28_ j34_ z32_ z36_ hv hv0_4 hv1_4 hv2_4 e3_ h4_ h8_ h15_ e13_ h18_ h19_ h20_ h21_ h25_ h27_ h31_ e29_ h35_ e33_ h37_ e38_ h236_ ) (fun z237_ h238_ => ?_)
                      refine w_istore (ls' := [(8, vI z237_), (7, vI z32_), (6, vI z28_), (2, vI z24_), (5, vI z16_), (4, vI z12_), (3, vI v3_4), (0, vR (1, b, w)), (1, vR (29, b2, 0))]) dX1_work_422 (by decide) rfl ?_
                      refine w_aload_n dX1_work_424 rfl 7 rfl ?_
                      refine w_getR (c' := (25, b, w)) fl_RX1_13 rfl rfl (ic_1 hv) dX1_work_425 rfl ?_
                      refine w_iload_n dX1_work_428 rfl 3 rfl ?_
                      refine w_iconst (v := 1) dX1_work_429 (by decide) ?_
                      refine w_isubB dX1_work_430 (rfl : z24_.toInt = z24_.toInt) li_1 (lf_c_X1_work_5 v2_4 z24_ hv2_4 h21_ h25_ ) (fun z239_ h240_ => ?_)
                      refine w_iload dX1_work_431 0 rfl ?_
                      refine w_iast CC_nd rfl rfl (ic_25 hv) (rfl : z239_.toInt = z239_.toInt) (lf_c_X1_work_6 v2_4 z24_ z239_ hv2_4 h21_ h25_ h240_ ) dX1_work_433 (fun j243_ h244_ M241_ hM242_ => ?_)
                      have hI245_ := hI_4.put hM242_ trivial
                      have hF246_ := hF_4.put hM242_ (Or.inl ⟨rfl, rfl, rfl⟩)
                      refine w_iincB (j := 6) (f := fun z247_ => [(3, vI z247_), (8, vI z237_), (7, vI z32_), (6, vI z28_), (2, vI z24_), (5, vI z16_), (4, vI z12_), (0, vR (1, b, w)), (1, vR (29, b2, 0))]) dX1_work_434 rfl (by decide) (fun _ => rfl) (rfl : v3_4.toInt = v3_4.toInt) li_1 (lf_c_X1_work_1 v3_4 hv0_4 h8_ ) (fun z247_ h248_ => ?_)
                      refine w_goto (tgt := 4) dX1_work_437 (by decide) ?_
                      refine w_loc (ls' := [(3, vI z247_), (2, vI z24_), (0, vR (1, b, w)), (1, vR (29, b2, 0))]) [0, 4, 7, 8] rfl ?_
                      exact ih_4 M241_ hI245_ hF246_ z247_ z24_ (lf_c_X5_takeFrom_3 v3_4 z247_ hv0_4 h248_ ) (lf_c_X1_work_14 v2_4 z24_ h21_ h25_ ) (lf_c_X1_work_15 v2_4 z24_ hv2_4 h25_ ) (RCH.tail hL_4 ⟨hv0_4, hv1_4, hv2_4, hI_4, hF_4, z2_, e3_, h4_, h8_, j14_, h15_, z12_, e13_, z16_, h17_, (Or.inl ⟨h18_, (Or.inl ⟨h19_, (Or.inl ⟨h20_, (Or.inr ⟨h21_, z24_, h25_, z26_, h27_, j30_, h31_, z28_, e29_, j34_, h35_, z32_, e33_, z36_, h37_, (Or.inr (Or.inr (Or.inr (Or.inr (Or.inr (Or.inr (Or.inr (Or.inr (Or.inr (Or.inr (Or.inl ⟨e38_, (Or.inl ⟨h236_, z237_, h238_, z239_, h240_, j243_, h244_, M241_, hM242_, z247_, h248_, rfl, rfl, rfl⟩)⟩)))))))))))⟩)⟩)⟩)⟩)⟩) (Nat.lt_of_lt_of_le (lf_c_X1_work_3 v3_4 z247_ h8_ h248_ ) (Nat.le_of_lt_succ hm_4))
                    · refine w_iconst (v := 0) dX1_work_413 (by decide) ?_
                      refine w_goto (tgt := 422) dX1_work_414 (by decide) ?_
                      refine w_istore (ls' := [(8, vI 0), (7, vI z32_), (6, vI z28_), (2, vI z24_), (5, vI z16_), (4, vI z12_), (3, vI v3_4), (0, vR (1, b, w)), (1, vR (29, b2, 0))]) dX1_work_422 (by decide) rfl ?_
                      refine w_aload_n dX1_work_424 rfl 7 rfl ?_
                      refine w_getR (c' := (25, b, w)) fl_RX1_13 rfl rfl (ic_1 hv) dX1_work_425 rfl ?_
                      refine w_iload_n dX1_work_428 rfl 3 rfl ?_
                      refine w_iconst (v := 1) dX1_work_429 (by decide) ?_
                      refine w_isubB dX1_work_430 (rfl : z24_.toInt = z24_.toInt) li_1 (lf_c_X1_work_5 v2_4 z24_ hv2_4 h21_ h25_ ) (fun z249_ h250_ => ?_)
                      refine w_iload dX1_work_431 0 rfl ?_
                      refine w_iast CC_nd rfl rfl (ic_25 hv) (rfl : z249_.toInt = z249_.toInt) (lf_c_X1_work_6 v2_4 z24_ z249_ hv2_4 h21_ h25_ h250_ ) dX1_work_433 (fun j253_ h254_ M251_ hM252_ => ?_)
                      have hI255_ := hI_4.put hM252_ trivial
                      have hF256_ := hF_4.put hM252_ (Or.inl ⟨rfl, rfl, rfl⟩)
                      refine w_iincB (j := 6) (f := fun z257_ => [(3, vI z257_), (8, vI 0), (7, vI z32_), (6, vI z28_), (2, vI z24_), (5, vI z16_), (4, vI z12_), (0, vR (1, b, w)), (1, vR (29, b2, 0))]) dX1_work_434 rfl (by decide) (fun _ => rfl) (rfl : v3_4.toInt = v3_4.toInt) li_1 (lf_c_X1_work_1 v3_4 hv0_4 h8_ ) (fun z257_ h258_ => ?_)
                      refine w_goto (tgt := 4) dX1_work_437 (by decide) ?_
                      refine w_loc (ls' := [(3, vI z257_), (2, vI z24_), (0, vR (1, b, w)), (1, vR (29, b2, 0))]) [0, 4, 7, 8] rfl ?_
                      exact ih_4 M251_ hI255_ hF256_ z257_ z24_ (lf_c_X5_takeFrom_3 v3_4 z257_ hv0_4 h258_ ) (lf_c_X1_work_14 v2_4 z24_ h21_ h25_ ) (lf_c_X1_work_15 v2_4 z24_ hv2_4 h25_ ) (RCH.tail hL_4 ⟨hv0_4, hv1_4, hv2_4, hI_4, hF_4, z2_, e3_, h4_, h8_, j14_, h15_, z12_, e13_, z16_, h17_, (Or.inl ⟨h18_, (Or.inl ⟨h19_, (Or.inl ⟨h20_, (Or.inr ⟨h21_, z24_, h25_, z26_, h27_, j30_, h31_, z28_, e29_, j34_, h35_, z32_, e33_, z36_, h37_, (Or.inr (Or.inr (Or.inr (Or.inr (Or.inr (Or.inr (Or.inr (Or.inr (Or.inr (Or.inr (Or.inl ⟨e38_, (Or.inr ⟨h236_, z249_, h250_, j253_, h254_, M251_, hM252_, z257_, h258_, rfl, rfl, rfl⟩)⟩)))))))))))⟩)⟩)⟩)⟩)⟩) (Nat.lt_of_lt_of_le (lf_c_X1_work_3 v3_4 z257_ h8_ h258_ ) (Nat.le_of_lt_succ hm_4))
                  · refine w_tsIn (tgt := 408) (off := 200) dX1_work_208 e38_ (by decide) (by decide) rfl (by decide) ?_
                    refine w_iload dX1_work_408 1 rfl ?_
                    refine w_if_ne (tgt := 417) dX1_work_410 (by decide) (rfl : z32_.toInt = z32_.toInt) (fun h259_ => ?_) (fun h259_ => ?_)
                    · refine w_iload dX1_work_417 2 rfl ?_
                      refine w_iload dX1_work_419 1 rfl ?_
                      refine w_irem dX1_work_421 (lf_c_X1_work_151 M_4 b w v3_4 v2_4 z2_ j14_ z12_ z24_ z26_ j30_ z28_ j34_ z32_ z36_ hv hv0_4 hv1_4 hv2_4 e3_ h4_ h8_ h15_ e13_ h18_ h19_ h20_ h21_ h25_ h27_ h31_ e29_ h35_ e33_ h37_ e38_ h259_ ) (fun z260_ h261_ => ?_)
                      refine w_istore (ls' := [(8, vI z260_), (7, vI z32_), (6, vI z28_), (2, vI z24_), (5, vI z16_), (4, vI z12_), (3, vI v3_4), (0, vR (1, b, w)), (1, vR (29, b2, 0))]) dX1_work_422 (by decide) rfl ?_
                      refine w_aload_n dX1_work_424 rfl 7 rfl ?_
                      refine w_getR (c' := (25, b, w)) fl_RX1_13 rfl rfl (ic_1 hv) dX1_work_425 rfl ?_
                      refine w_iload_n dX1_work_428 rfl 3 rfl ?_
                      refine w_iconst (v := 1) dX1_work_429 (by decide) ?_
                      refine w_isubB dX1_work_430 (rfl : z24_.toInt = z24_.toInt) li_1 (lf_c_X1_work_5 v2_4 z24_ hv2_4 h21_ h25_ ) (fun z262_ h263_ => ?_)
                      refine w_iload dX1_work_431 0 rfl ?_
                      refine w_iast CC_nd rfl rfl (ic_25 hv) (rfl : z262_.toInt = z262_.toInt) (lf_c_X1_work_6 v2_4 z24_ z262_ hv2_4 h21_ h25_ h263_ ) dX1_work_433 (fun j266_ h267_ M264_ hM265_ => ?_)
                      have hI268_ := hI_4.put hM265_ trivial
                      have hF269_ := hF_4.put hM265_ (Or.inl ⟨rfl, rfl, rfl⟩)
                      refine w_iincB (j := 6) (f := fun z270_ => [(3, vI z270_), (8, vI z260_), (7, vI z32_), (6, vI z28_), (2, vI z24_), (5, vI z16_), (4, vI z12_), (0, vR (1, b, w)), (1, vR (29, b2, 0))]) dX1_work_434 rfl (by decide) (fun _ => rfl) (rfl : v3_4.toInt = v3_4.toInt) li_1 (lf_c_X1_work_1 v3_4 hv0_4 h8_ ) (fun z270_ h271_ => ?_)
                      refine w_goto (tgt := 4) dX1_work_437 (by decide) ?_
                      refine w_loc (ls' := [(3, vI z270_), (2, vI z24_), (0, vR (1, b, w)), (1, vR (29, b2, 0))]) [0, 4, 7, 8] rfl ?_
                      exact ih_4 M264_ hI268_ hF269_ z270_ z24_ (lf_c_X5_takeFrom_3 v3_4 z270_ hv0_4 h271_ ) (lf_c_X1_work_14 v2_4 z24_ h21_ h25_ ) (lf_c_X1_work_15 v2_4 z24_ hv2_4 h25_ ) (RCH.tail hL_4 ⟨hv0_4, hv1_4, hv2_4, hI_4, hF_4, z2_, e3_, h4_, h8_, j14_, h15_, z12_, e13_, z16_, h17_, (Or.inl ⟨h18_, (Or.inl ⟨h19_, (Or.inl ⟨h20_, (Or.inr ⟨h21_, z24_, h25_, z26_, h27_, j30_, h31_, z28_, e29_, j34_, h35_, z32_, e33_, z36_, h37_, (Or.inr (Or.inr (Or.inr (Or.inr (Or.inr (Or.inr (Or.inr (Or.inr (Or.inr (Or.inr (Or.inr (Or.inl ⟨e38_, (Or.inl ⟨h259_, z260_, h261_, z262_, h263_, j266_, h267_, M264_, hM265_, z270_, h271_, rfl, rfl, rfl⟩)⟩))))))))))))⟩)⟩)⟩)⟩)⟩) (Nat.lt_of_lt_of_le (lf_c_X1_work_3 v3_4 z270_ h8_ h271_ ) (Nat.le_of_lt_succ hm_4))
                    · refine w_iconst (v := 0) dX1_work_413 (by decide) ?_
                      refine w_goto (tgt := 422) dX1_work_414 (by decide) ?_
                      refine w_istore (ls' := [(8, vI 0), (7, vI z32_), (6, vI z28_), (2, vI z24_), (5, vI z16_), (4, vI z12_), (3, vI v3_4), (0, vR (1, b, w)), (1, vR (29, b2, 0))]) dX1_work_422 (by decide) rfl ?_
                      refine w_aload_n dX1_work_424 rfl 7 rfl ?_
                      refine w_getR (c' := (25, b, w)) fl_RX1_13 rfl rfl (ic_1 hv) dX1_work_425 rfl ?_
                      refine w_iload_n dX1_work_428 rfl 3 rfl ?_
                      refine w_iconst (v := 1) dX1_work_429 (by decide) ?_
                      refine w_isubB dX1_work_430 (rfl : z24_.toInt = z24_.toInt) li_1 (lf_c_X1_work_5 v2_4 z24_ hv2_4 h21_ h25_ ) (fun z272_ h273_ => ?_)
                      refine w_iload dX1_work_431 0 rfl ?_
                      refine w_iast CC_nd rfl rfl (ic_25 hv) (rfl : z272_.toInt = z272_.toInt) (lf_c_X1_work_6 v2_4 z24_ z272_ hv2_4 h21_ h25_ h273_ ) dX1_work_433 (fun j276_ h277_ M274_ hM275_ => ?_)
                      have hI278_ := hI_4.put hM275_ trivial
                      have hF279_ := hF_4.put hM275_ (Or.inl ⟨rfl, rfl, rfl⟩)
                      refine w_iincB (j := 6) (f := fun z280_ => [(3, vI z280_), (8, vI 0), (7, vI z32_), (6, vI z28_), (2, vI z24_), (5, vI z16_), (4, vI z12_), (0, vR (1, b, w)), (1, vR (29, b2, 0))]) dX1_work_434 rfl (by decide) (fun _ => rfl) (rfl : v3_4.toInt = v3_4.toInt) li_1 (lf_c_X1_work_1 v3_4 hv0_4 h8_ ) (fun z280_ h281_ => ?_)
                      refine w_goto (tgt := 4) dX1_work_437 (by decide) ?_
                      refine w_loc (ls' := [(3, vI z280_), (2, vI z24_), (0, vR (1, b, w)), (1, vR (29, b2, 0))]) [0, 4, 7, 8] rfl ?_
                      exact ih_4 M274_ hI278_ hF279_ z280_ z24_ (lf_c_X5_takeFrom_3 v3_4 z280_ hv0_4 h281_ ) (lf_c_X1_work_14 v2_4 z24_ h21_ h25_ ) (lf_c_X1_work_15 v2_4 z24_ hv2_4 h25_ ) (RCH.tail hL_4 ⟨hv0_4, hv1_4, hv2_4, hI_4, hF_4, z2_, e3_, h4_, h8_, j14_, h15_, z12_, e13_, z16_, h17_, (Or.inl ⟨h18_, (Or.inl ⟨h19_, (Or.inl ⟨h20_, (Or.inr ⟨h21_, z24_, h25_, z26_, h27_, j30_, h31_, z28_, e29_, j34_, h35_, z32_, e33_, z36_, h37_, (Or.inr (Or.inr (Or.inr (Or.inr (Or.inr (Or.inr (Or.inr (Or.inr (Or.inr (Or.inr (Or.inr (Or.inl ⟨e38_, (Or.inr ⟨h259_, z272_, h273_, j276_, h277_, M274_, hM275_, z280_, h281_, rfl, rfl, rfl⟩)⟩))))))))))))⟩)⟩)⟩)⟩)⟩) (Nat.lt_of_lt_of_le (lf_c_X1_work_3 v3_4 z280_ h8_ h281_ ) (Nat.le_of_lt_succ hm_4))
                  · refine w_tsIn (tgt := 408) (off := 200) dX1_work_208 e38_ (by decide) (by decide) rfl (by decide) ?_
                    refine w_iload dX1_work_408 1 rfl ?_
                    refine w_if_ne (tgt := 417) dX1_work_410 (by decide) (rfl : z32_.toInt = z32_.toInt) (fun h282_ => ?_) (fun h282_ => ?_)
                    · refine w_iload dX1_work_417 2 rfl ?_
                      refine w_iload dX1_work_419 1 rfl ?_
                      refine w_irem dX1_work_421 (lf_c_X1_work_166 M_4 b w v3_4 v2_4 z2_ j14_ z12_ z24_ z26_ j30_ z28_ j34_ z32_ z36_ hv hv0_4 hv1_4 hv2_4 e3_ h4_ h8_ h15_ e13_ h18_ h19_ h20_ h21_ h25_ h27_ h31_ e29_ h35_ e33_ h37_ e38_ h282_ ) (fun z283_ h284_ => ?_)
                      refine w_istore (ls' := [(8, vI z283_), (7, vI z32_), (6, vI z28_), (2, vI z24_), (5, vI z16_), (4, vI z12_), (3, vI v3_4), (0, vR (1, b, w)), (1, vR (29, b2, 0))]) dX1_work_422 (by decide) rfl ?_
                      refine w_aload_n dX1_work_424 rfl 7 rfl ?_
                      refine w_getR (c' := (25, b, w)) fl_RX1_13 rfl rfl (ic_1 hv) dX1_work_425 rfl ?_
                      refine w_iload_n dX1_work_428 rfl 3 rfl ?_
                      refine w_iconst (v := 1) dX1_work_429 (by decide) ?_
                      refine w_isubB dX1_work_430 (rfl : z24_.toInt = z24_.toInt) li_1 (lf_c_X1_work_5 v2_4 z24_ hv2_4 h21_ h25_ ) (fun z285_ h286_ => ?_)
                      refine w_iload dX1_work_431 0 rfl ?_
                      refine w_iast CC_nd rfl rfl (ic_25 hv) (rfl : z285_.toInt = z285_.toInt) (lf_c_X1_work_6 v2_4 z24_ z285_ hv2_4 h21_ h25_ h286_ ) dX1_work_433 (fun j289_ h290_ M287_ hM288_ => ?_)
                      have hI291_ := hI_4.put hM288_ trivial
                      have hF292_ := hF_4.put hM288_ (Or.inl ⟨rfl, rfl, rfl⟩)
                      refine w_iincB (j := 6) (f := fun z293_ => [(3, vI z293_), (8, vI z283_), (7, vI z32_), (6, vI z28_), (2, vI z24_), (5, vI z16_), (4, vI z12_), (0, vR (1, b, w)), (1, vR (29, b2, 0))]) dX1_work_434 rfl (by decide) (fun _ => rfl) (rfl : v3_4.toInt = v3_4.toInt) li_1 (lf_c_X1_work_1 v3_4 hv0_4 h8_ ) (fun z293_ h294_ => ?_)
                      refine w_goto (tgt := 4) dX1_work_437 (by decide) ?_
                      refine w_loc (ls' := [(3, vI z293_), (2, vI z24_), (0, vR (1, b, w)), (1, vR (29, b2, 0))]) [0, 4, 7, 8] rfl ?_
                      exact ih_4 M287_ hI291_ hF292_ z293_ z24_ (lf_c_X5_takeFrom_3 v3_4 z293_ hv0_4 h294_ ) (lf_c_X1_work_14 v2_4 z24_ h21_ h25_ ) (lf_c_X1_work_15 v2_4 z24_ hv2_4 h25_ ) (RCH.tail hL_4 ⟨hv0_4, hv1_4, hv2_4, hI_4, hF_4, z2_, e3_, h4_, h8_, j14_, h15_, z12_, e13_, z16_, h17_, (Or.inl ⟨h18_, (Or.inl ⟨h19_, (Or.inl ⟨h20_, (Or.inr ⟨h21_, z24_, h25_, z26_, h27_, j30_, h31_, z28_, e29_, j34_, h35_, z32_, e33_, z36_, h37_, (Or.inr (Or.inr (Or.inr (Or.inr (Or.inr (Or.inr (Or.inr (Or.inr (Or.inr (Or.inr (Or.inr (Or.inr (Or.inl ⟨e38_, (Or.inl ⟨h282_, z283_, h284_, z285_, h286_, j289_, h290_, M287_, hM288_, z293_, h294_, rfl, rfl, rfl⟩)⟩)))))))))))))⟩)⟩)⟩)⟩)⟩) (Nat.lt_of_lt_of_le (lf_c_X1_work_3 v3_4 z293_ h8_ h294_ ) (Nat.le_of_lt_succ hm_4))
                    · refine w_iconst (v := 0) dX1_work_413 (by decide) ?_
                      refine w_goto (tgt := 422) dX1_work_414 (by decide) ?_
                      refine w_istore (ls' := [(8, vI 0), (7, vI z32_), (6, vI z28_), (2, vI z24_), (5, vI z16_), (4, vI z12_), (3, vI v3_4), (0, vR (1, b, w)), (1, vR (29, b2, 0))]) dX1_work_422 (by decide) rfl ?_
                      refine w_aload_n dX1_work_424 rfl 7 rfl ?_
                      refine w_getR (c' := (25, b, w)) fl_RX1_13 rfl rfl (ic_1 hv) dX1_work_425 rfl ?_
                      refine w_iload_n dX1_work_428 rfl 3 rfl ?_
                      refine w_iconst (v := 1) dX1_work_429 (by decide) ?_
                      refine w_isubB dX1_work_430 (rfl : z24_.toInt = z24_.toInt) li_1 (lf_c_X1_work_5 v2_4 z24_ hv2_4 h21_ h25_ ) (fun z295_ h296_ => ?_)
                      refine w_iload dX1_work_431 0 rfl ?_
                      refine w_iast CC_nd rfl rfl (ic_25 hv) (rfl : z295_.toInt = z295_.toInt) (lf_c_X1_work_6 v2_4 z24_ z295_ hv2_4 h21_ h25_ h296_ ) dX1_work_433 (fun j299_ h300_ M297_ hM298_ => ?_)
                      have hI301_ := hI_4.put hM298_ trivial
                      have hF302_ := hF_4.put hM298_ (Or.inl ⟨rfl, rfl, rfl⟩)
                      refine w_iincB (j := 6) (f := fun z303_ => [(3, vI z303_), (8, vI 0), (7, vI z32_), (6, vI z28_), (2, vI z24_), (5, vI z16_), (4, vI z12_), (0, vR (1, b, w)), (1, vR (29, b2, 0))]) dX1_work_434 rfl (by decide) (fun _ => rfl) (rfl : v3_4.toInt = v3_4.toInt) li_1 (lf_c_X1_work_1 v3_4 hv0_4 h8_ ) (fun z303_ h304_ => ?_)
                      refine w_goto (tgt := 4) dX1_work_437 (by decide) ?_
                      refine w_loc (ls' := [(3, vI z303_), (2, vI z24_), (0, vR (1, b, w)), (1, vR (29, b2, 0))]) [0, 4, 7, 8] rfl ?_
                      exact ih_4 M297_ hI301_ hF302_ z303_ z24_ (lf_c_X5_takeFrom_3 v3_4 z303_ hv0_4 h304_ ) (lf_c_X1_work_14 v2_4 z24_ h21_ h25_ ) (lf_c_X1_work_15 v2_4 z24_ hv2_4 h25_ ) (RCH.tail hL_4 ⟨hv0_4, hv1_4, hv2_4, hI_4, hF_4, z2_, e3_, h4_, h8_, j14_, h15_, z12_, e13_, z16_, h17_, (Or.inl ⟨h18_, (Or.inl ⟨h19_, (Or.inl ⟨h20_, (Or.inr ⟨h21_, z24_, h25_, z26_, h27_, j30_, h31_, z28_, e29_, j34_, h35_, z32_, e33_, z36_, h37_, (Or.inr (Or.inr (Or.inr (Or.inr (Or.inr (Or.inr (Or.inr (Or.inr (Or.inr (Or.inr (Or.inr (Or.inr (Or.inl ⟨e38_, (Or.inr ⟨h282_, z295_, h296_, j299_, h300_, M297_, hM298_, z303_, h304_, rfl, rfl, rfl⟩)⟩)))))))))))))⟩)⟩)⟩)⟩)⟩) (Nat.lt_of_lt_of_le (lf_c_X1_work_3 v3_4 z303_ h8_ h304_ ) (Nat.le_of_lt_succ hm_4))
                  · refine w_tsIn (tgt := 408) (off := 200) dX1_work_208 e38_ (by decide) (by decide) rfl (by decide) ?_
                    refine w_iload dX1_work_408 1 rfl ?_
                    refine w_if_ne (tgt := 417) dX1_work_410 (by decide) (rfl : z32_.toInt = z32_.toInt) (fun h305_ => ?_) (fun h305_ => ?_)
                    · refine w_iload dX1_work_417 2 rfl ?_
                      refine w_iload dX1_work_419 1 rfl ?_
                      refine w_irem dX1_work_421 (lf_c_X1_work_181 M_4 b w v3_4 v2_4 z2_ j14_ z12_ z24_ z26_ j30_ z28_ j34_ z32_ z36_ hv hv0_4 hv1_4 hv2_4 e3_ h4_ h8_ h15_ e13_ h18_ h19_ h20_ h21_ h25_ h27_ h31_ e29_ h35_ e33_ h37_ e38_ h305_ ) (fun z306_ h307_ => ?_)
                      refine w_istore (ls' := [(8, vI z306_), (7, vI z32_), (6, vI z28_), (2, vI z24_), (5, vI z16_), (4, vI z12_), (3, vI v3_4), (0, vR (1, b, w)), (1, vR (29, b2, 0))]) dX1_work_422 (by decide) rfl ?_
                      refine w_aload_n dX1_work_424 rfl 7 rfl ?_
                      refine w_getR (c' := (25, b, w)) fl_RX1_13 rfl rfl (ic_1 hv) dX1_work_425 rfl ?_
                      refine w_iload_n dX1_work_428 rfl 3 rfl ?_
                      refine w_iconst (v := 1) dX1_work_429 (by decide) ?_
                      refine w_isubB dX1_work_430 (rfl : z24_.toInt = z24_.toInt) li_1 (lf_c_X1_work_5 v2_4 z24_ hv2_4 h21_ h25_ ) (fun z308_ h309_ => ?_)
                      refine w_iload dX1_work_431 0 rfl ?_
                      refine w_iast CC_nd rfl rfl (ic_25 hv) (rfl : z308_.toInt = z308_.toInt) (lf_c_X1_work_6 v2_4 z24_ z308_ hv2_4 h21_ h25_ h309_ ) dX1_work_433 (fun j312_ h313_ M310_ hM311_ => ?_)
                      have hI314_ := hI_4.put hM311_ trivial
                      have hF315_ := hF_4.put hM311_ (Or.inl ⟨rfl, rfl, rfl⟩)
                      refine w_iincB (j := 6) (f := fun z316_ => [(3, vI z316_), (8, vI z306_), (7, vI z32_), (6, vI z28_), (2, vI z24_), (5, vI z16_), (4, vI z12_), (0, vR (1, b, w)), (1, vR (29, b2, 0))]) dX1_work_434 rfl (by decide) (fun _ => rfl) (rfl : v3_4.toInt = v3_4.toInt) li_1 (lf_c_X1_work_1 v3_4 hv0_4 h8_ ) (fun z316_ h317_ => ?_)
                      refine w_goto (tgt := 4) dX1_work_437 (by decide) ?_
                      refine w_loc (ls' := [(3, vI z316_), (2, vI z24_), (0, vR (1, b, w)), (1, vR (29, b2, 0))]) [0, 4, 7, 8] rfl ?_
                      exact ih_4 M310_ hI314_ hF315_ z316_ z24_ (lf_c_X5_takeFrom_3 v3_4 z316_ hv0_4 h317_ ) (lf_c_X1_work_14 v2_4 z24_ h21_ h25_ ) (lf_c_X1_work_15 v2_4 z24_ hv2_4 h25_ ) (RCH.tail hL_4 ⟨hv0_4, hv1_4, hv2_4, hI_4, hF_4, z2_, e3_, h4_, h8_, j14_, h15_, z12_, e13_, z16_, h17_, (Or.inl ⟨h18_, (Or.inl ⟨h19_, (Or.inl ⟨h20_, (Or.inr ⟨h21_, z24_, h25_, z26_, h27_, j30_, h31_, z28_, e29_, j34_, h35_, z32_, e33_, z36_, h37_, (Or.inr (Or.inr (Or.inr (Or.inr (Or.inr (Or.inr (Or.inr (Or.inr (Or.inr (Or.inr (Or.inr (Or.inr (Or.inr (Or.inl ⟨e38_, (Or.inl ⟨h305_, z306_, h307_, z308_, h309_, j312_, h313_, M310_, hM311_, z316_, h317_, rfl, rfl, rfl⟩)⟩))))))))))))))⟩)⟩)⟩)⟩)⟩) (Nat.lt_of_lt_of_le (lf_c_X1_work_3 v3_4 z316_ h8_ h317_ ) (Nat.le_of_lt_succ hm_4))
                    · refine w_iconst (v := 0) dX1_work_413 (by decide) ?_
                      refine w_goto (tgt := 422) dX1_work_414 (by decide) ?_
                      refine w_istore (ls' := [(8, vI 0), (7, vI z32_), (6, vI z28_), (2, vI z24_), (5, vI z16_), (4, vI z12_), (3, vI v3_4), (0, vR (1, b, w)), (1, vR (29, b2, 0))]) dX1_work_422 (by decide) rfl ?_
                      refine w_aload_n dX1_work_424 rfl 7 rfl ?_
                      refine w_getR (c' := (25, b, w)) fl_RX1_13 rfl rfl (ic_1 hv) dX1_work_425 rfl ?_
                      refine w_iload_n dX1_work_428 rfl 3 rfl ?_
                      refine w_iconst (v := 1) dX1_work_429 (by decide) ?_
                      refine w_isubB dX1_work_430 (rfl : z24_.toInt = z24_.toInt) li_1 (lf_c_X1_work_5 v2_4 z24_ hv2_4 h21_ h25_ ) (fun z318_ h319_ => ?_)
                      refine w_iload dX1_work_431 0 rfl ?_
                      refine w_iast CC_nd rfl rfl (ic_25 hv) (rfl : z318_.toInt = z318_.toInt) (lf_c_X1_work_6 v2_4 z24_ z318_ hv2_4 h21_ h25_ h319_ ) dX1_work_433 (fun j322_ h323_ M320_ hM321_ => ?_)
                      have hI324_ := hI_4.put hM321_ trivial
                      have hF325_ := hF_4.put hM321_ (Or.inl ⟨rfl, rfl, rfl⟩)
                      refine w_iincB (j := 6) (f := fun z326_ => [(3, vI z326_), (8, vI 0), (7, vI z32_), (6, vI z28_), (2, vI z24_), (5, vI z16_), (4, vI z12_), (0, vR (1, b, w)), (1, vR (29, b2, 0))]) dX1_work_434 rfl (by decide) (fun _ => rfl) (rfl : v3_4.toInt = v3_4.toInt) li_1 (lf_c_X1_work_1 v3_4 hv0_4 h8_ ) (fun z326_ h327_ => ?_)
                      refine w_goto (tgt := 4) dX1_work_437 (by decide) ?_
                      refine w_loc (ls' := [(3, vI z326_), (2, vI z24_), (0, vR (1, b, w)), (1, vR (29, b2, 0))]) [0, 4, 7, 8] rfl ?_
                      exact ih_4 M320_ hI324_ hF325_ z326_ z24_ (lf_c_X5_takeFrom_3 v3_4 z326_ hv0_4 h327_ ) (lf_c_X1_work_14 v2_4 z24_ h21_ h25_ ) (lf_c_X1_work_15 v2_4 z24_ hv2_4 h25_ ) (RCH.tail hL_4 ⟨hv0_4, hv1_4, hv2_4, hI_4, hF_4, z2_, e3_, h4_, h8_, j14_, h15_, z12_, e13_, z16_, h17_, (Or.inl ⟨h18_, (Or.inl ⟨h19_, (Or.inl ⟨h20_, (Or.inr ⟨h21_, z24_, h25_, z26_, h27_, j30_, h31_, z28_, e29_, j34_, h35_, z32_, e33_, z36_, h37_, (Or.inr (Or.inr (Or.inr (Or.inr (Or.inr (Or.inr (Or.inr (Or.inr (Or.inr (Or.inr (Or.inr (Or.inr (Or.inr (Or.inl ⟨e38_, (Or.inr ⟨h305_, z318_, h319_, j322_, h323_, M320_, hM321_, z326_, h327_, rfl, rfl, rfl⟩)⟩))))))))))))))⟩)⟩)⟩)⟩)⟩) (Nat.lt_of_lt_of_le (lf_c_X1_work_3 v3_4 z326_ h8_ h327_ ) (Nat.le_of_lt_succ hm_4))
                  · refine w_tsIn (tgt := 408) (off := 200) dX1_work_208 e38_ (by decide) (by decide) rfl (by decide) ?_
                    refine w_iload dX1_work_408 1 rfl ?_
                    refine w_if_ne (tgt := 417) dX1_work_410 (by decide) (rfl : z32_.toInt = z32_.toInt) (fun h328_ => ?_) (fun h328_ => ?_)
                    · refine w_iload dX1_work_417 2 rfl ?_
                      refine w_iload dX1_work_419 1 rfl ?_
                      refine w_irem dX1_work_421 (lf_c_X1_work_196 M_4 b w v3_4 v2_4 z2_ j14_ z12_ z24_ z26_ j30_ z28_ j34_ z32_ z36_ hv hv0_4 hv1_4 hv2_4 e3_ h4_ h8_ h15_ e13_ h18_ h19_ h20_ h21_ h25_ h27_ h31_ e29_ h35_ e33_ h37_ e38_ h328_ ) (fun z329_ h330_ => ?_)
                      refine w_istore (ls' := [(8, vI z329_), (7, vI z32_), (6, vI z28_), (2, vI z24_), (5, vI z16_), (4, vI z12_), (3, vI v3_4), (0, vR (1, b, w)), (1, vR (29, b2, 0))]) dX1_work_422 (by decide) rfl ?_
                      refine w_aload_n dX1_work_424 rfl 7 rfl ?_
                      refine w_getR (c' := (25, b, w)) fl_RX1_13 rfl rfl (ic_1 hv) dX1_work_425 rfl ?_
                      refine w_iload_n dX1_work_428 rfl 3 rfl ?_
                      refine w_iconst (v := 1) dX1_work_429 (by decide) ?_
                      refine w_isubB dX1_work_430 (rfl : z24_.toInt = z24_.toInt) li_1 (lf_c_X1_work_5 v2_4 z24_ hv2_4 h21_ h25_ ) (fun z331_ h332_ => ?_)
                      refine w_iload dX1_work_431 0 rfl ?_
                      refine w_iast CC_nd rfl rfl (ic_25 hv) (rfl : z331_.toInt = z331_.toInt) (lf_c_X1_work_6 v2_4 z24_ z331_ hv2_4 h21_ h25_ h332_ ) dX1_work_433 (fun j335_ h336_ M333_ hM334_ => ?_)
                      have hI337_ := hI_4.put hM334_ trivial
                      have hF338_ := hF_4.put hM334_ (Or.inl ⟨rfl, rfl, rfl⟩)
                      refine w_iincB (j := 6) (f := fun z339_ => [(3, vI z339_), (8, vI z329_), (7, vI z32_), (6, vI z28_), (2, vI z24_), (5, vI z16_), (4, vI z12_), (0, vR (1, b, w)), (1, vR (29, b2, 0))]) dX1_work_434 rfl (by decide) (fun _ => rfl) (rfl : v3_4.toInt = v3_4.toInt) li_1 (lf_c_X1_work_1 v3_4 hv0_4 h8_ ) (fun z339_ h340_ => ?_)
                      refine w_goto (tgt := 4) dX1_work_437 (by decide) ?_
                      refine w_loc (ls' := [(3, vI z339_), (2, vI z24_), (0, vR (1, b, w)), (1, vR (29, b2, 0))]) [0, 4, 7, 8] rfl ?_
                      exact ih_4 M333_ hI337_ hF338_ z339_ z24_ (lf_c_X5_takeFrom_3 v3_4 z339_ hv0_4 h340_ ) (lf_c_X1_work_14 v2_4 z24_ h21_ h25_ ) (lf_c_X1_work_15 v2_4 z24_ hv2_4 h25_ ) (RCH.tail hL_4 ⟨hv0_4, hv1_4, hv2_4, hI_4, hF_4, z2_, e3_, h4_, h8_, j14_, h15_, z12_, e13_, z16_, h17_, (Or.inl ⟨h18_, (Or.inl ⟨h19_, (Or.inl ⟨h20_, (Or.inr ⟨h21_, z24_, h25_, z26_, h27_, j30_, h31_, z28_, e29_, j34_, h35_, z32_, e33_, z36_, h37_, (Or.inr (Or.inr (Or.inr (Or.inr (Or.inr (Or.inr (Or.inr (Or.inr (Or.inr (Or.inr (Or.inr (Or.inr (Or.inr (Or.inr (Or.inl ⟨e38_, (Or.inl ⟨h328_, z329_, h330_, z331_, h332_, j335_, h336_, M333_, hM334_, z339_, h340_, rfl, rfl, rfl⟩)⟩)))))))))))))))⟩)⟩)⟩)⟩)⟩) (Nat.lt_of_lt_of_le (lf_c_X1_work_3 v3_4 z339_ h8_ h340_ ) (Nat.le_of_lt_succ hm_4))
                    · refine w_iconst (v := 0) dX1_work_413 (by decide) ?_
                      refine w_goto (tgt := 422) dX1_work_414 (by decide) ?_
                      refine w_istore (ls' := [(8, vI 0), (7, vI z32_), (6, vI z28_), (2, vI z24_), (5, vI z16_), (4, vI z12_), (3, vI v3_4), (0, vR (1, b, w)), (1, vR (29, b2, 0))]) dX1_work_422 (by decide) rfl ?_
                      refine w_aload_n dX1_work_424 rfl 7 rfl ?_
                      refine w_getR (c' := (25, b, w)) fl_RX1_13 rfl rfl (ic_1 hv) dX1_work_425 rfl ?_
                      refine w_iload_n dX1_work_428 rfl 3 rfl ?_
                      refine w_iconst (v := 1) dX1_work_429 (by decide) ?_
                      refine w_isubB dX1_work_430 (rfl : z24_.toInt = z24_.toInt) li_1 (lf_c_X1_work_5 v2_4 z24_ hv2_4 h21_ h25_ ) (fun z341_ h342_ => ?_)
                      refine w_iload dX1_work_431 0 rfl ?_
                      refine w_iast CC_nd rfl rfl (ic_25 hv) (rfl : z341_.toInt = z341_.toInt) (lf_c_X1_work_6 v2_4 z24_ z341_ hv2_4 h21_ h25_ h342_ ) dX1_work_433 (fun j345_ h346_ M343_ hM344_ => ?_)
                      have hI347_ := hI_4.put hM344_ trivial
                      have hF348_ := hF_4.put hM344_ (Or.inl ⟨rfl, rfl, rfl⟩)
                      refine w_iincB (j := 6) (f := fun z349_ => [(3, vI z349_), (8, vI 0), (7, vI z32_), (6, vI z28_), (2, vI z24_), (5, vI z16_), (4, vI z12_), (0, vR (1, b, w)), (1, vR (29, b2, 0))]) dX1_work_434 rfl (by decide) (fun _ => rfl) (rfl : v3_4.toInt = v3_4.toInt) li_1 (lf_c_X1_work_1 v3_4 hv0_4 h8_ ) (fun z349_ h350_ => ?_)
                      refine w_goto (tgt := 4) dX1_work_437 (by decide) ?_
                      refine w_loc (ls' := [(3, vI z349_), (2, vI z24_), (0, vR (1, b, w)), (1, vR (29, b2, 0))]) [0, 4, 7, 8] rfl ?_
                      exact ih_4 M343_ hI347_ hF348_ z349_ z24_ (lf_c_X5_takeFrom_3 v3_4 z349_ hv0_4 h350_ ) (lf_c_X1_work_14 v2_4 z24_ h21_ h25_ ) (lf_c_X1_work_15 v2_4 z24_ hv2_4 h25_ ) (RCH.tail hL_4 ⟨hv0_4, hv1_4, hv2_4, hI_4, hF_4, z2_, e3_, h4_, h8_, j14_, h15_, z12_, e13_, z16_, h17_, (Or.inl ⟨h18_, (Or.inl ⟨h19_, (Or.inl ⟨h20_, (Or.inr ⟨h21_, z24_, h25_, z26_, h27_, j30_, h31_, z28_, e29_, j34_, h35_, z32_, e33_, z36_, h37_, (Or.inr (Or.inr (Or.inr (Or.inr (Or.inr (Or.inr (Or.inr (Or.inr (Or.inr (Or.inr (Or.inr (Or.inr (Or.inr (Or.inr (Or.inl ⟨e38_, (Or.inr ⟨h328_, z341_, h342_, j345_, h346_, M343_, hM344_, z349_, h350_, rfl, rfl, rfl⟩)⟩)))))))))))))))⟩)⟩)⟩)⟩)⟩) (Nat.lt_of_lt_of_le (lf_c_X1_work_3 v3_4 z349_ h8_ h350_ ) (Nat.le_of_lt_succ hm_4))
                  · refine w_tsIn (tgt := 408) (off := 200) dX1_work_208 e38_ (by decide) (by decide) rfl (by decide) ?_
                    refine w_iload dX1_work_408 1 rfl ?_
                    refine w_if_ne (tgt := 417) dX1_work_410 (by decide) (rfl : z32_.toInt = z32_.toInt) (fun h351_ => ?_) (fun h351_ => ?_)
                    · refine w_iload dX1_work_417 2 rfl ?_
                      refine w_iload dX1_work_419 1 rfl ?_
                      refine w_irem dX1_work_421 (lf_c_X1_work_211 M_4 b w v3_4 v2_4 z2_ j14_ z12_ z24_ z26_ j30_ z28_ j34_ z32_ z36_ hv hv0_4 hv1_4 hv2_4 e3_ h4_ h8_ h15_ e13_ h18_ h19_ h20_ h21_ h25_ h27_ h31_ e29_ h35_ e33_ h37_ e38_ h351_ ) (fun z352_ h353_ => ?_)
                      refine w_istore (ls' := [(8, vI z352_), (7, vI z32_), (6, vI z28_), (2, vI z24_), (5, vI z16_), (4, vI z12_), (3, vI v3_4), (0, vR (1, b, w)), (1, vR (29, b2, 0))]) dX1_work_422 (by decide) rfl ?_
                      refine w_aload_n dX1_work_424 rfl 7 rfl ?_
                      refine w_getR (c' := (25, b, w)) fl_RX1_13 rfl rfl (ic_1 hv) dX1_work_425 rfl ?_
                      refine w_iload_n dX1_work_428 rfl 3 rfl ?_
                      refine w_iconst (v := 1) dX1_work_429 (by decide) ?_
                      refine w_isubB dX1_work_430 (rfl : z24_.toInt = z24_.toInt) li_1 (lf_c_X1_work_5 v2_4 z24_ hv2_4 h21_ h25_ ) (fun z354_ h355_ => ?_)
                      refine w_iload dX1_work_431 0 rfl ?_
                      refine w_iast CC_nd rfl rfl (ic_25 hv) (rfl : z354_.toInt = z354_.toInt) (lf_c_X1_work_6 v2_4 z24_ z354_ hv2_4 h21_ h25_ h355_ ) dX1_work_433 (fun j358_ h359_ M356_ hM357_ => ?_)
                      have hI360_ := hI_4.put hM357_ trivial
                      have hF361_ := hF_4.put hM357_ (Or.inl ⟨rfl, rfl, rfl⟩)
                      refine w_iincB (j := 6) (f := fun z362_ => [(3, vI z362_), (8, vI z352_), (7, vI z32_), (6, vI z28_), (2, vI z24_), (5, vI z16_), (4, vI z12_), (0, vR (1, b, w)), (1, vR (29, b2, 0))]) dX1_work_434 rfl (by decide) (fun _ => rfl) (rfl : v3_4.toInt = v3_4.toInt) li_1 (lf_c_X1_work_1 v3_4 hv0_4 h8_ ) (fun z362_ h363_ => ?_)
                      refine w_goto (tgt := 4) dX1_work_437 (by decide) ?_
                      refine w_loc (ls' := [(3, vI z362_), (2, vI z24_), (0, vR (1, b, w)), (1, vR (29, b2, 0))]) [0, 4, 7, 8] rfl ?_
                      exact ih_4 M356_ hI360_ hF361_ z362_ z24_ (lf_c_X5_takeFrom_3 v3_4 z362_ hv0_4 h363_ ) (lf_c_X1_work_14 v2_4 z24_ h21_ h25_ ) (lf_c_X1_work_15 v2_4 z24_ hv2_4 h25_ ) (RCH.tail hL_4 ⟨hv0_4, hv1_4, hv2_4, hI_4, hF_4, z2_, e3_, h4_, h8_, j14_, h15_, z12_, e13_, z16_, h17_, (Or.inl ⟨h18_, (Or.inl ⟨h19_, (Or.inl ⟨h20_, (Or.inr ⟨h21_, z24_, h25_, z26_, h27_, j30_, h31_, z28_, e29_, j34_, h35_, z32_, e33_, z36_, h37_, (Or.inr (Or.inr (Or.inr (Or.inr (Or.inr (Or.inr (Or.inr (Or.inr (Or.inr (Or.inr (Or.inr (Or.inr (Or.inr (Or.inr (Or.inr (Or.inl ⟨e38_, (Or.inl ⟨h351_, z352_, h353_, z354_, h355_, j358_, h359_, M356_, hM357_, z362_, h363_, rfl, rfl, rfl⟩)⟩))))))))))))))))⟩)⟩)⟩)⟩)⟩) (Nat.lt_of_lt_of_le (lf_c_X1_work_3 v3_4 z362_ h8_ h363_ ) (Nat.le_of_lt_succ hm_4))
                    · refine w_iconst (v := 0) dX1_work_413 (by decide) ?_
                      refine w_goto (tgt := 422) dX1_work_414 (by decide) ?_
                      refine w_istore (ls' := [(8, vI 0), (7, vI z32_), (6, vI z28_), (2, vI z24_), (5, vI z16_), (4, vI z12_), (3, vI v3_4), (0, vR (1, b, w)), (1, vR (29, b2, 0))]) dX1_work_422 (by decide) rfl ?_
                      refine w_aload_n dX1_work_424 rfl 7 rfl ?_
                      refine w_getR (c' := (25, b, w)) fl_RX1_13 rfl rfl (ic_1 hv) dX1_work_425 rfl ?_
                      refine w_iload_n dX1_work_428 rfl 3 rfl ?_
                      refine w_iconst (v := 1) dX1_work_429 (by decide) ?_
                      refine w_isubB dX1_work_430 (rfl : z24_.toInt = z24_.toInt) li_1 (lf_c_X1_work_5 v2_4 z24_ hv2_4 h21_ h25_ ) (fun z364_ h365_ => ?_)
                      refine w_iload dX1_work_431 0 rfl ?_
                      refine w_iast CC_nd rfl rfl (ic_25 hv) (rfl : z364_.toInt = z364_.toInt) (lf_c_X1_work_6 v2_4 z24_ z364_ hv2_4 h21_ h25_ h365_ ) dX1_work_433 (fun j368_ h369_ M366_ hM367_ => ?_)
                      have hI370_ := hI_4.put hM367_ trivial
                      have hF371_ := hF_4.put hM367_ (Or.inl ⟨rfl, rfl, rfl⟩)
                      refine w_iincB (j := 6) (f := fun z372_ => [(3, vI z372_), (8, vI 0), (7, vI z32_), (6, vI z28_), (2, vI z24_), (5, vI z16_), (4, vI z12_), (0, vR (1, b, w)), (1, vR (29, b2, 0))]) dX1_work_434 rfl (by decide) (fun _ => rfl) (rfl : v3_4.toInt = v3_4.toInt) li_1 (lf_c_X1_work_1 v3_4 hv0_4 h8_ ) (fun z372_ h373_ => ?_)
                      refine w_goto (tgt := 4) dX1_work_437 (by decide) ?_
                      refine w_loc (ls' := [(3, vI z372_), (2, vI z24_), (0, vR (1, b, w)), (1, vR (29, b2, 0))]) [0, 4, 7, 8] rfl ?_
                      exact ih_4 M366_ hI370_ hF371_ z372_ z24_ (lf_c_X5_takeFrom_3 v3_4 z372_ hv0_4 h373_ ) (lf_c_X1_work_14 v2_4 z24_ h21_ h25_ ) (lf_c_X1_work_15 v2_4 z24_ hv2_4 h25_ ) (RCH.tail hL_4 ⟨hv0_4, hv1_4, hv2_4, hI_4, hF_4, z2_, e3_, h4_, h8_, j14_, h15_, z12_, e13_, z16_, h17_, (Or.inl ⟨h18_, (Or.inl ⟨h19_, (Or.inl ⟨h20_, (Or.inr ⟨h21_, z24_, h25_, z26_, h27_, j30_, h31_, z28_, e29_, j34_, h35_, z32_, e33_, z36_, h37_, (Or.inr (Or.inr (Or.inr (Or.inr (Or.inr (Or.inr (Or.inr (Or.inr (Or.inr (Or.inr (Or.inr (Or.inr (Or.inr (Or.inr (Or.inr (Or.inl ⟨e38_, (Or.inr ⟨h351_, z364_, h365_, j368_, h369_, M366_, hM367_, z372_, h373_, rfl, rfl, rfl⟩)⟩))))))))))))))))⟩)⟩)⟩)⟩)⟩) (Nat.lt_of_lt_of_le (lf_c_X1_work_3 v3_4 z372_ h8_ h373_ ) (Nat.le_of_lt_succ hm_4))
                  · refine w_tsIn (tgt := 408) (off := 200) dX1_work_208 e38_ (by decide) (by decide) rfl (by decide) ?_
                    refine w_iload dX1_work_408 1 rfl ?_
                    refine w_if_ne (tgt := 417) dX1_work_410 (by decide) (rfl : z32_.toInt = z32_.toInt) (fun h374_ => ?_) (fun h374_ => ?_)
                    · refine w_iload dX1_work_417 2 rfl ?_
                      refine w_iload dX1_work_419 1 rfl ?_
                      refine w_irem dX1_work_421 (lf_c_X1_work_226 M_4 b w v3_4 v2_4 z2_ j14_ z12_ z24_ z26_ j30_ z28_ j34_ z32_ z36_ hv hv0_4 hv1_4 hv2_4 e3_ h4_ h8_ h15_ e13_ h18_ h19_ h20_ h21_ h25_ h27_ h31_ e29_ h35_ e33_ h37_ e38_ h374_ ) (fun z375_ h376_ => ?_)
                      refine w_istore (ls' := [(8, vI z375_), (7, vI z32_), (6, vI z28_), (2, vI z24_), (5, vI z16_), (4, vI z12_), (3, vI v3_4), (0, vR (1, b, w)), (1, vR (29, b2, 0))]) dX1_work_422 (by decide) rfl ?_
                      refine w_aload_n dX1_work_424 rfl 7 rfl ?_
                      refine w_getR (c' := (25, b, w)) fl_RX1_13 rfl rfl (ic_1 hv) dX1_work_425 rfl ?_
                      refine w_iload_n dX1_work_428 rfl 3 rfl ?_
                      refine w_iconst (v := 1) dX1_work_429 (by decide) ?_
                      refine w_isubB dX1_work_430 (rfl : z24_.toInt = z24_.toInt) li_1 (lf_c_X1_work_5 v2_4 z24_ hv2_4 h21_ h25_ ) (fun z377_ h378_ => ?_)
                      refine w_iload dX1_work_431 0 rfl ?_
                      refine w_iast CC_nd rfl rfl (ic_25 hv) (rfl : z377_.toInt = z377_.toInt) (lf_c_X1_work_6 v2_4 z24_ z377_ hv2_4 h21_ h25_ h378_ ) dX1_work_433 (fun j381_ h382_ M379_ hM380_ => ?_)
                      have hI383_ := hI_4.put hM380_ trivial
                      have hF384_ := hF_4.put hM380_ (Or.inl ⟨rfl, rfl, rfl⟩)
                      refine w_iincB (j := 6) (f := fun z385_ => [(3, vI z385_), (8, vI z375_), (7, vI z32_), (6, vI z28_), (2, vI z24_), (5, vI z16_), (4, vI z12_), (0, vR (1, b, w)), (1, vR (29, b2, 0))]) dX1_work_434 rfl (by decide) (fun _ => rfl) (rfl : v3_4.toInt = v3_4.toInt) li_1 (lf_c_X1_work_1 v3_4 hv0_4 h8_ ) (fun z385_ h386_ => ?_)
                      refine w_goto (tgt := 4) dX1_work_437 (by decide) ?_
                      refine w_loc (ls' := [(3, vI z385_), (2, vI z24_), (0, vR (1, b, w)), (1, vR (29, b2, 0))]) [0, 4, 7, 8] rfl ?_
                      exact ih_4 M379_ hI383_ hF384_ z385_ z24_ (lf_c_X5_takeFrom_3 v3_4 z385_ hv0_4 h386_ ) (lf_c_X1_work_14 v2_4 z24_ h21_ h25_ ) (lf_c_X1_work_15 v2_4 z24_ hv2_4 h25_ ) (RCH.tail hL_4 ⟨hv0_4, hv1_4, hv2_4, hI_4, hF_4, z2_, e3_, h4_, h8_, j14_, h15_, z12_, e13_, z16_, h17_, (Or.inl ⟨h18_, (Or.inl ⟨h19_, (Or.inl ⟨h20_, (Or.inr ⟨h21_, z24_, h25_, z26_, h27_, j30_, h31_, z28_, e29_, j34_, h35_, z32_, e33_, z36_, h37_, (Or.inr (Or.inr (Or.inr (Or.inr (Or.inr (Or.inr (Or.inr (Or.inr (Or.inr (Or.inr (Or.inr (Or.inr (Or.inr (Or.inr (Or.inr (Or.inr (Or.inl ⟨e38_, (Or.inl ⟨h374_, z375_, h376_, z377_, h378_, j381_, h382_, M379_, hM380_, z385_, h386_, rfl, rfl, rfl⟩)⟩)))))))))))))))))⟩)⟩)⟩)⟩)⟩) (Nat.lt_of_lt_of_le (lf_c_X1_work_3 v3_4 z385_ h8_ h386_ ) (Nat.le_of_lt_succ hm_4))
                    · refine w_iconst (v := 0) dX1_work_413 (by decide) ?_
                      refine w_goto (tgt := 422) dX1_work_414 (by decide) ?_
                      refine w_istore (ls' := [(8, vI 0), (7, vI z32_), (6, vI z28_), (2, vI z24_), (5, vI z16_), (4, vI z12_), (3, vI v3_4), (0, vR (1, b, w)), (1, vR (29, b2, 0))]) dX1_work_422 (by decide) rfl ?_
                      refine w_aload_n dX1_work_424 rfl 7 rfl ?_
                      refine w_getR (c' := (25, b, w)) fl_RX1_13 rfl rfl (ic_1 hv) dX1_work_425 rfl ?_
                      refine w_iload_n dX1_work_428 rfl 3 rfl ?_
                      refine w_iconst (v := 1) dX1_work_429 (by decide) ?_
                      refine w_isubB dX1_work_430 (rfl : z24_.toInt = z24_.toInt) li_1 (lf_c_X1_work_5 v2_4 z24_ hv2_4 h21_ h25_ ) (fun z387_ h388_ => ?_)
                      refine w_iload dX1_work_431 0 rfl ?_
                      refine w_iast CC_nd rfl rfl (ic_25 hv) (rfl : z387_.toInt = z387_.toInt) (lf_c_X1_work_6 v2_4 z24_ z387_ hv2_4 h21_ h25_ h388_ ) dX1_work_433 (fun j391_ h392_ M389_ hM390_ => ?_)
                      have hI393_ := hI_4.put hM390_ trivial
                      have hF394_ := hF_4.put hM390_ (Or.inl ⟨rfl, rfl, rfl⟩)
                      refine w_iincB (j := 6) (f := fun z395_ => [(3, vI z395_), (8, vI 0), (7, vI z32_), (6, vI z28_), (2, vI z24_), (5, vI z16_), (4, vI z12_), (0, vR (1, b, w)), (1, vR (29, b2, 0))]) dX1_work_434 rfl (by decide) (fun _ => rfl) (rfl : v3_4.toInt = v3_4.toInt) li_1 (lf_c_X1_work_1 v3_4 hv0_4 h8_ ) (fun z395_ h396_ => ?_)
                      refine w_goto (tgt := 4) dX1_work_437 (by decide) ?_
                      refine w_loc (ls' := [(3, vI z395_), (2, vI z24_), (0, vR (1, b, w)), (1, vR (29, b2, 0))]) [0, 4, 7, 8] rfl ?_
                      exact ih_4 M389_ hI393_ hF394_ z395_ z24_ (lf_c_X5_takeFrom_3 v3_4 z395_ hv0_4 h396_ ) (lf_c_X1_work_14 v2_4 z24_ h21_ h25_ ) (lf_c_X1_work_15 v2_4 z24_ hv2_4 h25_ ) (RCH.tail hL_4 ⟨hv0_4, hv1_4, hv2_4, hI_4, hF_4, z2_, e3_, h4_, h8_, j14_, h15_, z12_, e13_, z16_, h17_, (Or.inl ⟨h18_, (Or.inl ⟨h19_, (Or.inl ⟨h20_, (Or.inr ⟨h21_, z24_, h25_, z26_, h27_, j30_, h31_, z28_, e29_, j34_, h35_, z32_, e33_, z36_, h37_, (Or.inr (Or.inr (Or.inr (Or.inr (Or.inr (Or.inr (Or.inr (Or.inr (Or.inr (Or.inr (Or.inr (Or.inr (Or.inr (Or.inr (Or.inr (Or.inr (Or.inl ⟨e38_, (Or.inr ⟨h374_, z387_, h388_, j391_, h392_, M389_, hM390_, z395_, h396_, rfl, rfl, rfl⟩)⟩)))))))))))))))))⟩)⟩)⟩)⟩)⟩) (Nat.lt_of_lt_of_le (lf_c_X1_work_3 v3_4 z395_ h8_ h396_ ) (Nat.le_of_lt_succ hm_4))
                  · refine w_tsIn (tgt := 408) (off := 200) dX1_work_208 e38_ (by decide) (by decide) rfl (by decide) ?_
                    refine w_iload dX1_work_408 1 rfl ?_
                    refine w_if_ne (tgt := 417) dX1_work_410 (by decide) (rfl : z32_.toInt = z32_.toInt) (fun h397_ => ?_) (fun h397_ => ?_)
                    · refine w_iload dX1_work_417 2 rfl ?_
                      refine w_iload dX1_work_419 1 rfl ?_
                      refine w_irem dX1_work_421 (lf_c_X1_work_241 M_4 b w v3_4 v2_4 z2_ j14_ z12_ z24_ z26_ j30_ z28_ j34_ z32_ z36_ hv hv0_4 hv1_4 hv2_4 e3_ h4_ h8_ h15_ e13_ h18_ h19_ h20_ h21_ h25_ h27_ h31_ e29_ h35_ e33_ h37_ e38_ h397_ ) (fun z398_ h399_ => ?_)
                      refine w_istore (ls' := [(8, vI z398_), (7, vI z32_), (6, vI z28_), (2, vI z24_), (5, vI z16_), (4, vI z12_), (3, vI v3_4), (0, vR (1, b, w)), (1, vR (29, b2, 0))]) dX1_work_422 (by decide) rfl ?_
                      refine w_aload_n dX1_work_424 rfl 7 rfl ?_
                      refine w_getR (c' := (25, b, w)) fl_RX1_13 rfl rfl (ic_1 hv) dX1_work_425 rfl ?_
                      refine w_iload_n dX1_work_428 rfl 3 rfl ?_
                      refine w_iconst (v := 1) dX1_work_429 (by decide) ?_
                      refine w_isubB dX1_work_430 (rfl : z24_.toInt = z24_.toInt) li_1 (lf_c_X1_work_5 v2_4 z24_ hv2_4 h21_ h25_ ) (fun z400_ h401_ => ?_)
                      refine w_iload dX1_work_431 0 rfl ?_
                      refine w_iast CC_nd rfl rfl (ic_25 hv) (rfl : z400_.toInt = z400_.toInt) (lf_c_X1_work_6 v2_4 z24_ z400_ hv2_4 h21_ h25_ h401_ ) dX1_work_433 (fun j404_ h405_ M402_ hM403_ => ?_)
                      have hI406_ := hI_4.put hM403_ trivial
                      have hF407_ := hF_4.put hM403_ (Or.inl ⟨rfl, rfl, rfl⟩)
                      refine w_iincB (j := 6) (f := fun z408_ => [(3, vI z408_), (8, vI z398_), (7, vI z32_), (6, vI z28_), (2, vI z24_), (5, vI z16_), (4, vI z12_), (0, vR (1, b, w)), (1, vR (29, b2, 0))]) dX1_work_434 rfl (by decide) (fun _ => rfl) (rfl : v3_4.toInt = v3_4.toInt) li_1 (lf_c_X1_work_1 v3_4 hv0_4 h8_ ) (fun z408_ h409_ => ?_)
                      refine w_goto (tgt := 4) dX1_work_437 (by decide) ?_
                      refine w_loc (ls' := [(3, vI z408_), (2, vI z24_), (0, vR (1, b, w)), (1, vR (29, b2, 0))]) [0, 4, 7, 8] rfl ?_
                      exact ih_4 M402_ hI406_ hF407_ z408_ z24_ (lf_c_X5_takeFrom_3 v3_4 z408_ hv0_4 h409_ ) (lf_c_X1_work_14 v2_4 z24_ h21_ h25_ ) (lf_c_X1_work_15 v2_4 z24_ hv2_4 h25_ ) (RCH.tail hL_4 ⟨hv0_4, hv1_4, hv2_4, hI_4, hF_4, z2_, e3_, h4_, h8_, j14_, h15_, z12_, e13_, z16_, h17_, (Or.inl ⟨h18_, (Or.inl ⟨h19_, (Or.inl ⟨h20_, (Or.inr ⟨h21_, z24_, h25_, z26_, h27_, j30_, h31_, z28_, e29_, j34_, h35_, z32_, e33_, z36_, h37_, (Or.inr (Or.inr (Or.inr (Or.inr (Or.inr (Or.inr (Or.inr (Or.inr (Or.inr (Or.inr (Or.inr (Or.inr (Or.inr (Or.inr (Or.inr (Or.inr (Or.inr (Or.inl ⟨e38_, (Or.inl ⟨h397_, z398_, h399_, z400_, h401_, j404_, h405_, M402_, hM403_, z408_, h409_, rfl, rfl, rfl⟩)⟩))))))))))))))))))⟩)⟩)⟩)⟩)⟩) (Nat.lt_of_lt_of_le (lf_c_X1_work_3 v3_4 z408_ h8_ h409_ ) (Nat.le_of_lt_succ hm_4))
                    · refine w_iconst (v := 0) dX1_work_413 (by decide) ?_
                      refine w_goto (tgt := 422) dX1_work_414 (by decide) ?_
                      refine w_istore (ls' := [(8, vI 0), (7, vI z32_), (6, vI z28_), (2, vI z24_), (5, vI z16_), (4, vI z12_), (3, vI v3_4), (0, vR (1, b, w)), (1, vR (29, b2, 0))]) dX1_work_422 (by decide) rfl ?_
                      refine w_aload_n dX1_work_424 rfl 7 rfl ?_
                      refine w_getR (c' := (25, b, w)) fl_RX1_13 rfl rfl (ic_1 hv) dX1_work_425 rfl ?_
                      refine w_iload_n dX1_work_428 rfl 3 rfl ?_
                      refine w_iconst (v := 1) dX1_work_429 (by decide) ?_
                      refine w_isubB dX1_work_430 (rfl : z24_.toInt = z24_.toInt) li_1 (lf_c_X1_work_5 v2_4 z24_ hv2_4 h21_ h25_ ) (fun z410_ h411_ => ?_)
                      refine w_iload dX1_work_431 0 rfl ?_
                      refine w_iast CC_nd rfl rfl (ic_25 hv) (rfl : z410_.toInt = z410_.toInt) (lf_c_X1_work_6 v2_4 z24_ z410_ hv2_4 h21_ h25_ h411_ ) dX1_work_433 (fun j414_ h415_ M412_ hM413_ => ?_)
                      have hI416_ := hI_4.put hM413_ trivial
                      have hF417_ := hF_4.put hM413_ (Or.inl ⟨rfl, rfl, rfl⟩)
                      refine w_iincB (j := 6) (f := fun z418_ => [(3, vI z418_), (8, vI 0), (7, vI z32_), (6, vI z28_), (2, vI z24_), (5, vI z16_), (4, vI z12_), (0, vR (1, b, w)), (1, vR (29, b2, 0))]) dX1_work_434 rfl (by decide) (fun _ => rfl) (rfl : v3_4.toInt = v3_4.toInt) li_1 (lf_c_X1_work_1 v3_4 hv0_4 h8_ ) (fun z418_ h419_ => ?_)
                      refine w_goto (tgt := 4) dX1_work_437 (by decide) ?_
                      refine w_loc (ls' := [(3, vI z418_), (2, vI z24_), (0, vR (1, b, w)), (1, vR (29, b2, 0))]) [0, 4, 7, 8] rfl ?_
                      exact ih_4 M412_ hI416_ hF417_ z418_ z24_ (lf_c_X5_takeFrom_3 v3_4 z418_ hv0_4 h419_ ) (lf_c_X1_work_14 v2_4 z24_ h21_ h25_ ) (lf_c_X1_work_15 v2_4 z24_ hv2_4 h25_ ) (RCH.tail hL_4 ⟨hv0_4, hv1_4, hv2_4, hI_4, hF_4, z2_, e3_, h4_, h8_, j14_, h15_, z12_, e13_, z16_, h17_, (Or.inl ⟨h18_, (Or.inl ⟨h19_, (Or.inl ⟨h20_, (Or.inr ⟨h21_, z24_, h25_, z26_, h27_, j30_, h31_, z28_, e29_, j34_, h35_, z32_, e33_, z36_, h37_, (Or.inr (Or.inr (Or.inr (Or.inr (Or.inr (Or.inr (Or.inr (Or.inr (Or.inr (Or.inr (Or.inr (Or.inr (Or.inr (Or.inr (Or.inr (Or.inr (Or.inr (Or.inl ⟨e38_, (Or.inr ⟨h397_, z410_, h411_, j414_, h415_, M412_, hM413_, z418_, h419_, rfl, rfl, rfl⟩)⟩))))))))))))))))))⟩)⟩)⟩)⟩)⟩) (Nat.lt_of_lt_of_le (lf_c_X1_work_3 v3_4 z418_ h8_ h419_ ) (Nat.le_of_lt_succ hm_4))
                  · refine w_tsIn (tgt := 308) (off := 100) dX1_work_208 e38_ (by decide) (by decide) rfl (by decide) ?_
                    refine w_iload dX1_work_308 2 rfl ?_
                    refine w_iload dX1_work_310 1 rfl ?_
                    refine w_icmp_ge (tgt := 319) dX1_work_312 (by decide) (rfl : z28_.toInt = z28_.toInt) (rfl : z32_.toInt = z32_.toInt) (fun h420_ => ?_) (fun h420_ => ?_)
                    · refine w_iconst (v := 0) dX1_work_319 (by decide) ?_
                      refine w_istore (ls' := [(8, vI 0), (7, vI z32_), (6, vI z28_), (2, vI z24_), (5, vI z16_), (4, vI z12_), (3, vI v3_4), (0, vR (1, b, w)), (1, vR (29, b2, 0))]) dX1_work_320 (by decide) rfl ?_
                      refine w_goto (tgt := 424) dX1_work_322 (by decide) ?_
                      refine w_aload_n dX1_work_424 rfl 7 rfl ?_
                      refine w_getR (c' := (25, b, w)) fl_RX1_13 rfl rfl (ic_1 hv) dX1_work_425 rfl ?_
                      refine w_iload_n dX1_work_428 rfl 3 rfl ?_
                      refine w_iconst (v := 1) dX1_work_429 (by decide) ?_
                      refine w_isubB dX1_work_430 (rfl : z24_.toInt = z24_.toInt) li_1 (lf_c_X1_work_5 v2_4 z24_ hv2_4 h21_ h25_ ) (fun z421_ h422_ => ?_)
                      refine w_iload dX1_work_431 0 rfl ?_
                      refine w_iast CC_nd rfl rfl (ic_25 hv) (rfl : z421_.toInt = z421_.toInt) (lf_c_X1_work_6 v2_4 z24_ z421_ hv2_4 h21_ h25_ h422_ ) dX1_work_433 (fun j425_ h426_ M423_ hM424_ => ?_)
                      have hI427_ := hI_4.put hM424_ trivial
                      have hF428_ := hF_4.put hM424_ (Or.inl ⟨rfl, rfl, rfl⟩)
                      refine w_iincB (j := 6) (f := fun z429_ => [(3, vI z429_), (8, vI 0), (7, vI z32_), (6, vI z28_), (2, vI z24_), (5, vI z16_), (4, vI z12_), (0, vR (1, b, w)), (1, vR (29, b2, 0))]) dX1_work_434 rfl (by decide) (fun _ => rfl) (rfl : v3_4.toInt = v3_4.toInt) li_1 (lf_c_X1_work_1 v3_4 hv0_4 h8_ ) (fun z429_ h430_ => ?_)
                      refine w_goto (tgt := 4) dX1_work_437 (by decide) ?_
                      refine w_loc (ls' := [(3, vI z429_), (2, vI z24_), (0, vR (1, b, w)), (1, vR (29, b2, 0))]) [0, 4, 7, 8] rfl ?_
                      exact ih_4 M423_ hI427_ hF428_ z429_ z24_ (lf_c_X5_takeFrom_3 v3_4 z429_ hv0_4 h430_ ) (lf_c_X1_work_14 v2_4 z24_ h21_ h25_ ) (lf_c_X1_work_15 v2_4 z24_ hv2_4 h25_ ) (RCH.tail hL_4 ⟨hv0_4, hv1_4, hv2_4, hI_4, hF_4, z2_, e3_, h4_, h8_, j14_, h15_, z12_, e13_, z16_, h17_, (Or.inl ⟨h18_, (Or.inl ⟨h19_, (Or.inl ⟨h20_, (Or.inr ⟨h21_, z24_, h25_, z26_, h27_, j30_, h31_, z28_, e29_, j34_, h35_, z32_, e33_, z36_, h37_, (Or.inr (Or.inr (Or.inr (Or.inr (Or.inr (Or.inr (Or.inr (Or.inr (Or.inr (Or.inr (Or.inr (Or.inr (Or.inr (Or.inr (Or.inr (Or.inr (Or.inr (Or.inr (Or.inl ⟨e38_, (Or.inl ⟨h420_, z421_, h422_, j425_, h426_, M423_, hM424_, z429_, h430_, rfl, rfl, rfl⟩)⟩)))))))))))))))))))⟩)⟩)⟩)⟩)⟩) (Nat.lt_of_lt_of_le (lf_c_X1_work_3 v3_4 z429_ h8_ h430_ ) (Nat.le_of_lt_succ hm_4))
                    · refine w_iconst (v := 1) dX1_work_315 (by decide) ?_
                      refine w_goto (tgt := 320) dX1_work_316 (by decide) ?_
                      refine w_istore (ls' := [(8, vI 1), (7, vI z32_), (6, vI z28_), (2, vI z24_), (5, vI z16_), (4, vI z12_), (3, vI v3_4), (0, vR (1, b, w)), (1, vR (29, b2, 0))]) dX1_work_320 (by decide) rfl ?_
                      refine w_goto (tgt := 424) dX1_work_322 (by decide) ?_
                      refine w_aload_n dX1_work_424 rfl 7 rfl ?_
                      refine w_getR (c' := (25, b, w)) fl_RX1_13 rfl rfl (ic_1 hv) dX1_work_425 rfl ?_
                      refine w_iload_n dX1_work_428 rfl 3 rfl ?_
                      refine w_iconst (v := 1) dX1_work_429 (by decide) ?_
                      refine w_isubB dX1_work_430 (rfl : z24_.toInt = z24_.toInt) li_1 (lf_c_X1_work_5 v2_4 z24_ hv2_4 h21_ h25_ ) (fun z431_ h432_ => ?_)
                      refine w_iload dX1_work_431 0 rfl ?_
                      refine w_iast CC_nd rfl rfl (ic_25 hv) (rfl : z431_.toInt = z431_.toInt) (lf_c_X1_work_6 v2_4 z24_ z431_ hv2_4 h21_ h25_ h432_ ) dX1_work_433 (fun j435_ h436_ M433_ hM434_ => ?_)
                      have hI437_ := hI_4.put hM434_ trivial
                      have hF438_ := hF_4.put hM434_ (Or.inl ⟨rfl, rfl, rfl⟩)
                      refine w_iincB (j := 6) (f := fun z439_ => [(3, vI z439_), (8, vI 1), (7, vI z32_), (6, vI z28_), (2, vI z24_), (5, vI z16_), (4, vI z12_), (0, vR (1, b, w)), (1, vR (29, b2, 0))]) dX1_work_434 rfl (by decide) (fun _ => rfl) (rfl : v3_4.toInt = v3_4.toInt) li_1 (lf_c_X1_work_1 v3_4 hv0_4 h8_ ) (fun z439_ h440_ => ?_)
                      refine w_goto (tgt := 4) dX1_work_437 (by decide) ?_
                      refine w_loc (ls' := [(3, vI z439_), (2, vI z24_), (0, vR (1, b, w)), (1, vR (29, b2, 0))]) [0, 4, 7, 8] rfl ?_
                      exact ih_4 M433_ hI437_ hF438_ z439_ z24_ (lf_c_X5_takeFrom_3 v3_4 z439_ hv0_4 h440_ ) (lf_c_X1_work_14 v2_4 z24_ h21_ h25_ ) (lf_c_X1_work_15 v2_4 z24_ hv2_4 h25_ ) (RCH.tail hL_4 ⟨hv0_4, hv1_4, hv2_4, hI_4, hF_4, z2_, e3_, h4_, h8_, j14_, h15_, z12_, e13_, z16_, h17_, (Or.inl ⟨h18_, (Or.inl ⟨h19_, (Or.inl ⟨h20_, (Or.inr ⟨h21_, z24_, h25_, z26_, h27_, j30_, h31_, z28_, e29_, j34_, h35_, z32_, e33_, z36_, h37_, (Or.inr (Or.inr (Or.inr (Or.inr (Or.inr (Or.inr (Or.inr (Or.inr (Or.inr (Or.inr (Or.inr (Or.inr (Or.inr (Or.inr (Or.inr (Or.inr (Or.inr (Or.inr (Or.inl ⟨e38_, (Or.inr ⟨h420_, z431_, h432_, j435_, h436_, M433_, hM434_, z439_, h440_, rfl, rfl, rfl⟩)⟩)))))))))))))))))))⟩)⟩)⟩)⟩)⟩) (Nat.lt_of_lt_of_le (lf_c_X1_work_3 v3_4 z439_ h8_ h440_ ) (Nat.le_of_lt_succ hm_4))
                  · refine w_tsIn (tgt := 325) (off := 117) dX1_work_208 e38_ (by decide) (by decide) rfl (by decide) ?_
                    refine w_iload dX1_work_325 2 rfl ?_
                    refine w_iload dX1_work_327 1 rfl ?_
                    refine w_icmp_ne (tgt := 336) dX1_work_329 (by decide) (rfl : z28_.toInt = z28_.toInt) (rfl : z32_.toInt = z32_.toInt) (fun h441_ => ?_) (fun h441_ => ?_)
                    · refine w_iconst (v := 0) dX1_work_336 (by decide) ?_
                      refine w_istore (ls' := [(8, vI 0), (7, vI z32_), (6, vI z28_), (2, vI z24_), (5, vI z16_), (4, vI z12_), (3, vI v3_4), (0, vR (1, b, w)), (1, vR (29, b2, 0))]) dX1_work_337 (by decide) rfl ?_
                      refine w_goto (tgt := 424) dX1_work_339 (by decide) ?_
                      refine w_aload_n dX1_work_424 rfl 7 rfl ?_
                      refine w_getR (c' := (25, b, w)) fl_RX1_13 rfl rfl (ic_1 hv) dX1_work_425 rfl ?_
                      refine w_iload_n dX1_work_428 rfl 3 rfl ?_
                      refine w_iconst (v := 1) dX1_work_429 (by decide) ?_
                      refine w_isubB dX1_work_430 (rfl : z24_.toInt = z24_.toInt) li_1 (lf_c_X1_work_5 v2_4 z24_ hv2_4 h21_ h25_ ) (fun z442_ h443_ => ?_)
                      refine w_iload dX1_work_431 0 rfl ?_
                      refine w_iast CC_nd rfl rfl (ic_25 hv) (rfl : z442_.toInt = z442_.toInt) (lf_c_X1_work_6 v2_4 z24_ z442_ hv2_4 h21_ h25_ h443_ ) dX1_work_433 (fun j446_ h447_ M444_ hM445_ => ?_)
                      have hI448_ := hI_4.put hM445_ trivial
                      have hF449_ := hF_4.put hM445_ (Or.inl ⟨rfl, rfl, rfl⟩)
                      refine w_iincB (j := 6) (f := fun z450_ => [(3, vI z450_), (8, vI 0), (7, vI z32_), (6, vI z28_), (2, vI z24_), (5, vI z16_), (4, vI z12_), (0, vR (1, b, w)), (1, vR (29, b2, 0))]) dX1_work_434 rfl (by decide) (fun _ => rfl) (rfl : v3_4.toInt = v3_4.toInt) li_1 (lf_c_X1_work_1 v3_4 hv0_4 h8_ ) (fun z450_ h451_ => ?_)
                      refine w_goto (tgt := 4) dX1_work_437 (by decide) ?_
                      refine w_loc (ls' := [(3, vI z450_), (2, vI z24_), (0, vR (1, b, w)), (1, vR (29, b2, 0))]) [0, 4, 7, 8] rfl ?_
                      exact ih_4 M444_ hI448_ hF449_ z450_ z24_ (lf_c_X5_takeFrom_3 v3_4 z450_ hv0_4 h451_ ) (lf_c_X1_work_14 v2_4 z24_ h21_ h25_ ) (lf_c_X1_work_15 v2_4 z24_ hv2_4 h25_ ) (RCH.tail hL_4 ⟨hv0_4, hv1_4, hv2_4, hI_4, hF_4, z2_, e3_, h4_, h8_, j14_, h15_, z12_, e13_, z16_, h17_, (Or.inl ⟨h18_, (Or.inl ⟨h19_, (Or.inl ⟨h20_, (Or.inr ⟨h21_, z24_, h25_, z26_, h27_, j30_, h31_, z28_, e29_, j34_, h35_, z32_, e33_, z36_, h37_, (Or.inr (Or.inr (Or.inr (Or.inr (Or.inr (Or.inr (Or.inr (Or.inr (Or.inr (Or.inr (Or.inr (Or.inr (Or.inr (Or.inr (Or.inr (Or.inr (Or.inr (Or.inr (Or.inr (Or.inl ⟨e38_, (Or.inl ⟨h441_, z442_, h443_, j446_, h447_, M444_, hM445_, z450_, h451_, rfl, rfl, rfl⟩)⟩))))))))))))))))))))⟩)⟩)⟩)⟩)⟩) (Nat.lt_of_lt_of_le (lf_c_X1_work_3 v3_4 z450_ h8_ h451_ ) (Nat.le_of_lt_succ hm_4))
                    · refine w_iconst (v := 1) dX1_work_332 (by decide) ?_
                      refine w_goto (tgt := 337) dX1_work_333 (by decide) ?_
                      refine w_istore (ls' := [(8, vI 1), (7, vI z32_), (6, vI z28_), (2, vI z24_), (5, vI z16_), (4, vI z12_), (3, vI v3_4), (0, vR (1, b, w)), (1, vR (29, b2, 0))]) dX1_work_337 (by decide) rfl ?_
                      refine w_goto (tgt := 424) dX1_work_339 (by decide) ?_
                      refine w_aload_n dX1_work_424 rfl 7 rfl ?_
                      refine w_getR (c' := (25, b, w)) fl_RX1_13 rfl rfl (ic_1 hv) dX1_work_425 rfl ?_
                      refine w_iload_n dX1_work_428 rfl 3 rfl ?_
                      refine w_iconst (v := 1) dX1_work_429 (by decide) ?_
                      refine w_isubB dX1_work_430 (rfl : z24_.toInt = z24_.toInt) li_1 (lf_c_X1_work_5 v2_4 z24_ hv2_4 h21_ h25_ ) (fun z452_ h453_ => ?_)
                      refine w_iload dX1_work_431 0 rfl ?_
                      refine w_iast CC_nd rfl rfl (ic_25 hv) (rfl : z452_.toInt = z452_.toInt) (lf_c_X1_work_6 v2_4 z24_ z452_ hv2_4 h21_ h25_ h453_ ) dX1_work_433 (fun j456_ h457_ M454_ hM455_ => ?_)
                      have hI458_ := hI_4.put hM455_ trivial
                      have hF459_ := hF_4.put hM455_ (Or.inl ⟨rfl, rfl, rfl⟩)
                      refine w_iincB (j := 6) (f := fun z460_ => [(3, vI z460_), (8, vI 1), (7, vI z32_), (6, vI z28_), (2, vI z24_), (5, vI z16_), (4, vI z12_), (0, vR (1, b, w)), (1, vR (29, b2, 0))]) dX1_work_434 rfl (by decide) (fun _ => rfl) (rfl : v3_4.toInt = v3_4.toInt) li_1 (lf_c_X1_work_1 v3_4 hv0_4 h8_ ) (fun z460_ h461_ => ?_)
                      refine w_goto (tgt := 4) dX1_work_437 (by decide) ?_
                      refine w_loc (ls' := [(3, vI z460_), (2, vI z24_), (0, vR (1, b, w)), (1, vR (29, b2, 0))]) [0, 4, 7, 8] rfl ?_
                      exact ih_4 M454_ hI458_ hF459_ z460_ z24_ (lf_c_X5_takeFrom_3 v3_4 z460_ hv0_4 h461_ ) (lf_c_X1_work_14 v2_4 z24_ h21_ h25_ ) (lf_c_X1_work_15 v2_4 z24_ hv2_4 h25_ ) (RCH.tail hL_4 ⟨hv0_4, hv1_4, hv2_4, hI_4, hF_4, z2_, e3_, h4_, h8_, j14_, h15_, z12_, e13_, z16_, h17_, (Or.inl ⟨h18_, (Or.inl ⟨h19_, (Or.inl ⟨h20_, (Or.inr ⟨h21_, z24_, h25_, z26_, h27_, j30_, h31_, z28_, e29_, j34_, h35_, z32_, e33_, z36_, h37_, (Or.inr (Or.inr (Or.inr (Or.inr (Or.inr (Or.inr (Or.inr (Or.inr (Or.inr (Or.inr (Or.inr (Or.inr (Or.inr (Or.inr (Or.inr (Or.inr (Or.inr (Or.inr (Or.inr (Or.inl ⟨e38_, (Or.inr ⟨h441_, z452_, h453_, j456_, h457_, M454_, hM455_, z460_, h461_, rfl, rfl, rfl⟩)⟩))))))))))))))))))))⟩)⟩)⟩)⟩)⟩) (Nat.lt_of_lt_of_le (lf_c_X1_work_3 v3_4 z460_ h8_ h461_ ) (Nat.le_of_lt_succ hm_4))
                  · refine w_tsIn (tgt := 342) (off := 134) dX1_work_208 e38_ (by decide) (by decide) rfl (by decide) ?_
                    refine w_iload dX1_work_342 2 rfl ?_
                    refine w_iload dX1_work_344 1 rfl ?_
                    refine w_icmp_le (tgt := 353) dX1_work_346 (by decide) (rfl : z28_.toInt = z28_.toInt) (rfl : z32_.toInt = z32_.toInt) (fun h462_ => ?_) (fun h462_ => ?_)
                    · refine w_iconst (v := 0) dX1_work_353 (by decide) ?_
                      refine w_istore (ls' := [(8, vI 0), (7, vI z32_), (6, vI z28_), (2, vI z24_), (5, vI z16_), (4, vI z12_), (3, vI v3_4), (0, vR (1, b, w)), (1, vR (29, b2, 0))]) dX1_work_354 (by decide) rfl ?_
                      refine w_goto (tgt := 424) dX1_work_356 (by decide) ?_
                      refine w_aload_n dX1_work_424 rfl 7 rfl ?_
                      refine w_getR (c' := (25, b, w)) fl_RX1_13 rfl rfl (ic_1 hv) dX1_work_425 rfl ?_
                      refine w_iload_n dX1_work_428 rfl 3 rfl ?_
                      refine w_iconst (v := 1) dX1_work_429 (by decide) ?_
                      refine w_isubB dX1_work_430 (rfl : z24_.toInt = z24_.toInt) li_1 (lf_c_X1_work_5 v2_4 z24_ hv2_4 h21_ h25_ ) (fun z463_ h464_ => ?_)
                      refine w_iload dX1_work_431 0 rfl ?_
                      refine w_iast CC_nd rfl rfl (ic_25 hv) (rfl : z463_.toInt = z463_.toInt) (lf_c_X1_work_6 v2_4 z24_ z463_ hv2_4 h21_ h25_ h464_ ) dX1_work_433 (fun j467_ h468_ M465_ hM466_ => ?_)
                      have hI469_ := hI_4.put hM466_ trivial
                      have hF470_ := hF_4.put hM466_ (Or.inl ⟨rfl, rfl, rfl⟩)
                      refine w_iincB (j := 6) (f := fun z471_ => [(3, vI z471_), (8, vI 0), (7, vI z32_), (6, vI z28_), (2, vI z24_), (5, vI z16_), (4, vI z12_), (0, vR (1, b, w)), (1, vR (29, b2, 0))]) dX1_work_434 rfl (by decide) (fun _ => rfl) (rfl : v3_4.toInt = v3_4.toInt) li_1 (lf_c_X1_work_1 v3_4 hv0_4 h8_ ) (fun z471_ h472_ => ?_)
                      refine w_goto (tgt := 4) dX1_work_437 (by decide) ?_
                      refine w_loc (ls' := [(3, vI z471_), (2, vI z24_), (0, vR (1, b, w)), (1, vR (29, b2, 0))]) [0, 4, 7, 8] rfl ?_
                      exact ih_4 M465_ hI469_ hF470_ z471_ z24_ (lf_c_X5_takeFrom_3 v3_4 z471_ hv0_4 h472_ ) (lf_c_X1_work_14 v2_4 z24_ h21_ h25_ ) (lf_c_X1_work_15 v2_4 z24_ hv2_4 h25_ ) (RCH.tail hL_4 ⟨hv0_4, hv1_4, hv2_4, hI_4, hF_4, z2_, e3_, h4_, h8_, j14_, h15_, z12_, e13_, z16_, h17_, (Or.inl ⟨h18_, (Or.inl ⟨h19_, (Or.inl ⟨h20_, (Or.inr ⟨h21_, z24_, h25_, z26_, h27_, j30_, h31_, z28_, e29_, j34_, h35_, z32_, e33_, z36_, h37_, (Or.inr (Or.inr (Or.inr (Or.inr (Or.inr (Or.inr (Or.inr (Or.inr (Or.inr (Or.inr (Or.inr (Or.inr (Or.inr (Or.inr (Or.inr (Or.inr (Or.inr (Or.inr (Or.inr (Or.inr (Or.inl ⟨e38_, (Or.inl ⟨h462_, z463_, h464_, j467_, h468_, M465_, hM466_, z471_, h472_, rfl, rfl, rfl⟩)⟩)))))))))))))))))))))⟩)⟩)⟩)⟩)⟩) (Nat.lt_of_lt_of_le (lf_c_X1_work_3 v3_4 z471_ h8_ h472_ ) (Nat.le_of_lt_succ hm_4))
                    · refine w_iconst (v := 1) dX1_work_349 (by decide) ?_
                      refine w_goto (tgt := 354) dX1_work_350 (by decide) ?_
                      refine w_istore (ls' := [(8, vI 1), (7, vI z32_), (6, vI z28_), (2, vI z24_), (5, vI z16_), (4, vI z12_), (3, vI v3_4), (0, vR (1, b, w)), (1, vR (29, b2, 0))]) dX1_work_354 (by decide) rfl ?_
                      refine w_goto (tgt := 424) dX1_work_356 (by decide) ?_
                      refine w_aload_n dX1_work_424 rfl 7 rfl ?_
                      refine w_getR (c' := (25, b, w)) fl_RX1_13 rfl rfl (ic_1 hv) dX1_work_425 rfl ?_
                      refine w_iload_n dX1_work_428 rfl 3 rfl ?_
                      refine w_iconst (v := 1) dX1_work_429 (by decide) ?_
                      refine w_isubB dX1_work_430 (rfl : z24_.toInt = z24_.toInt) li_1 (lf_c_X1_work_5 v2_4 z24_ hv2_4 h21_ h25_ ) (fun z473_ h474_ => ?_)
                      refine w_iload dX1_work_431 0 rfl ?_
                      refine w_iast CC_nd rfl rfl (ic_25 hv) (rfl : z473_.toInt = z473_.toInt) (lf_c_X1_work_6 v2_4 z24_ z473_ hv2_4 h21_ h25_ h474_ ) dX1_work_433 (fun j477_ h478_ M475_ hM476_ => ?_)
                      have hI479_ := hI_4.put hM476_ trivial
                      have hF480_ := hF_4.put hM476_ (Or.inl ⟨rfl, rfl, rfl⟩)
                      refine w_iincB (j := 6) (f := fun z481_ => [(3, vI z481_), (8, vI 1), (7, vI z32_), (6, vI z28_), (2, vI z24_), (5, vI z16_), (4, vI z12_), (0, vR (1, b, w)), (1, vR (29, b2, 0))]) dX1_work_434 rfl (by decide) (fun _ => rfl) (rfl : v3_4.toInt = v3_4.toInt) li_1 (lf_c_X1_work_1 v3_4 hv0_4 h8_ ) (fun z481_ h482_ => ?_)
                      refine w_goto (tgt := 4) dX1_work_437 (by decide) ?_
                      refine w_loc (ls' := [(3, vI z481_), (2, vI z24_), (0, vR (1, b, w)), (1, vR (29, b2, 0))]) [0, 4, 7, 8] rfl ?_
                      exact ih_4 M475_ hI479_ hF480_ z481_ z24_ (lf_c_X5_takeFrom_3 v3_4 z481_ hv0_4 h482_ ) (lf_c_X1_work_14 v2_4 z24_ h21_ h25_ ) (lf_c_X1_work_15 v2_4 z24_ hv2_4 h25_ ) (RCH.tail hL_4 ⟨hv0_4, hv1_4, hv2_4, hI_4, hF_4, z2_, e3_, h4_, h8_, j14_, h15_, z12_, e13_, z16_, h17_, (Or.inl ⟨h18_, (Or.inl ⟨h19_, (Or.inl ⟨h20_, (Or.inr ⟨h21_, z24_, h25_, z26_, h27_, j30_, h31_, z28_, e29_, j34_, h35_, z32_, e33_, z36_, h37_, (Or.inr (Or.inr (Or.inr (Or.inr (Or.inr (Or.inr (Or.inr (Or.inr (Or.inr (Or.inr (Or.inr (Or.inr (Or.inr (Or.inr (Or.inr (Or.inr (Or.inr (Or.inr (Or.inr (Or.inr (Or.inl ⟨e38_, (Or.inr ⟨h462_, z473_, h474_, j477_, h478_, M475_, hM476_, z481_, h482_, rfl, rfl, rfl⟩)⟩)))))))))))))))))))))⟩)⟩)⟩)⟩)⟩) (Nat.lt_of_lt_of_le (lf_c_X1_work_3 v3_4 z481_ h8_ h482_ ) (Nat.le_of_lt_succ hm_4))
                  · refine w_tsOut (tgt := 408) dX1_work_208 rfl (lf_c_X1_work_298 M_4 b w v3_4 v2_4 z2_ j14_ z12_ z24_ z26_ j30_ z28_ j34_ z32_ z36_ hv hv0_4 hv1_4 hv2_4 e3_ h4_ h8_ h15_ e13_ h18_ h19_ h20_ h21_ h25_ h27_ h31_ e29_ h35_ e33_ h37_ e38_ ) (by decide) ?_
                    refine w_iload dX1_work_408 1 rfl ?_
                    refine w_if_ne (tgt := 417) dX1_work_410 (by decide) (rfl : z32_.toInt = z32_.toInt) (fun h483_ => ?_) (fun h483_ => ?_)
                    · refine w_iload dX1_work_417 2 rfl ?_
                      refine w_iload dX1_work_419 1 rfl ?_
                      refine w_irem dX1_work_421 (lf_c_X1_work_299 M_4 b w v3_4 v2_4 z2_ j14_ z12_ z24_ z26_ j30_ z28_ j34_ z32_ z36_ hv hv0_4 hv1_4 hv2_4 e3_ h4_ h8_ h15_ e13_ h18_ h19_ h20_ h21_ h25_ h27_ h31_ e29_ h35_ e33_ h37_ e38_ h483_ ) (fun z484_ h485_ => ?_)
                      refine w_istore (ls' := [(8, vI z484_), (7, vI z32_), (6, vI z28_), (2, vI z24_), (5, vI z16_), (4, vI z12_), (3, vI v3_4), (0, vR (1, b, w)), (1, vR (29, b2, 0))]) dX1_work_422 (by decide) rfl ?_
                      refine w_aload_n dX1_work_424 rfl 7 rfl ?_
                      refine w_getR (c' := (25, b, w)) fl_RX1_13 rfl rfl (ic_1 hv) dX1_work_425 rfl ?_
                      refine w_iload_n dX1_work_428 rfl 3 rfl ?_
                      refine w_iconst (v := 1) dX1_work_429 (by decide) ?_
                      refine w_isubB dX1_work_430 (rfl : z24_.toInt = z24_.toInt) li_1 (lf_c_X1_work_5 v2_4 z24_ hv2_4 h21_ h25_ ) (fun z486_ h487_ => ?_)
                      refine w_iload dX1_work_431 0 rfl ?_
                      refine w_iast CC_nd rfl rfl (ic_25 hv) (rfl : z486_.toInt = z486_.toInt) (lf_c_X1_work_6 v2_4 z24_ z486_ hv2_4 h21_ h25_ h487_ ) dX1_work_433 (fun j490_ h491_ M488_ hM489_ => ?_)
                      have hI492_ := hI_4.put hM489_ trivial
                      have hF493_ := hF_4.put hM489_ (Or.inl ⟨rfl, rfl, rfl⟩)
                      refine w_iincB (j := 6) (f := fun z494_ => [(3, vI z494_), (8, vI z484_), (7, vI z32_), (6, vI z28_), (2, vI z24_), (5, vI z16_), (4, vI z12_), (0, vR (1, b, w)), (1, vR (29, b2, 0))]) dX1_work_434 rfl (by decide) (fun _ => rfl) (rfl : v3_4.toInt = v3_4.toInt) li_1 (lf_c_X1_work_1 v3_4 hv0_4 h8_ ) (fun z494_ h495_ => ?_)
                      refine w_goto (tgt := 4) dX1_work_437 (by decide) ?_
                      refine w_loc (ls' := [(3, vI z494_), (2, vI z24_), (0, vR (1, b, w)), (1, vR (29, b2, 0))]) [0, 4, 7, 8] rfl ?_
                      exact ih_4 M488_ hI492_ hF493_ z494_ z24_ (lf_c_X5_takeFrom_3 v3_4 z494_ hv0_4 h495_ ) (lf_c_X1_work_14 v2_4 z24_ h21_ h25_ ) (lf_c_X1_work_15 v2_4 z24_ hv2_4 h25_ ) (RCH.tail hL_4 ⟨hv0_4, hv1_4, hv2_4, hI_4, hF_4, z2_, e3_, h4_, h8_, j14_, h15_, z12_, e13_, z16_, h17_, (Or.inl ⟨h18_, (Or.inl ⟨h19_, (Or.inl ⟨h20_, (Or.inr ⟨h21_, z24_, h25_, z26_, h27_, j30_, h31_, z28_, e29_, j34_, h35_, z32_, e33_, z36_, h37_, (Or.inr (Or.inr (Or.inr (Or.inr (Or.inr (Or.inr (Or.inr (Or.inr (Or.inr (Or.inr (Or.inr (Or.inr (Or.inr (Or.inr (Or.inr (Or.inr (Or.inr (Or.inr (Or.inr (Or.inr (Or.inr ⟨e38_, (Or.inl ⟨h483_, z484_, h485_, z486_, h487_, j490_, h491_, M488_, hM489_, z494_, h495_, rfl, rfl, rfl⟩)⟩)))))))))))))))))))))⟩)⟩)⟩)⟩)⟩) (Nat.lt_of_lt_of_le (lf_c_X1_work_3 v3_4 z494_ h8_ h495_ ) (Nat.le_of_lt_succ hm_4))
                    · refine w_iconst (v := 0) dX1_work_413 (by decide) ?_
                      refine w_goto (tgt := 422) dX1_work_414 (by decide) ?_
                      refine w_istore (ls' := [(8, vI 0), (7, vI z32_), (6, vI z28_), (2, vI z24_), (5, vI z16_), (4, vI z12_), (3, vI v3_4), (0, vR (1, b, w)), (1, vR (29, b2, 0))]) dX1_work_422 (by decide) rfl ?_
                      refine w_aload_n dX1_work_424 rfl 7 rfl ?_
                      refine w_getR (c' := (25, b, w)) fl_RX1_13 rfl rfl (ic_1 hv) dX1_work_425 rfl ?_
                      refine w_iload_n dX1_work_428 rfl 3 rfl ?_
                      refine w_iconst (v := 1) dX1_work_429 (by decide) ?_
                      refine w_isubB dX1_work_430 (rfl : z24_.toInt = z24_.toInt) li_1 (lf_c_X1_work_5 v2_4 z24_ hv2_4 h21_ h25_ ) (fun z496_ h497_ => ?_)
                      refine w_iload dX1_work_431 0 rfl ?_
                      refine w_iast CC_nd rfl rfl (ic_25 hv) (rfl : z496_.toInt = z496_.toInt) (lf_c_X1_work_6 v2_4 z24_ z496_ hv2_4 h21_ h25_ h497_ ) dX1_work_433 (fun j500_ h501_ M498_ hM499_ => ?_)
                      have hI502_ := hI_4.put hM499_ trivial
                      have hF503_ := hF_4.put hM499_ (Or.inl ⟨rfl, rfl, rfl⟩)
                      refine w_iincB (j := 6) (f := fun z504_ => [(3, vI z504_), (8, vI 0), (7, vI z32_), (6, vI z28_), (2, vI z24_), (5, vI z16_), (4, vI z12_), (0, vR (1, b, w)), (1, vR (29, b2, 0))]) dX1_work_434 rfl (by decide) (fun _ => rfl) (rfl : v3_4.toInt = v3_4.toInt) li_1 (lf_c_X1_work_1 v3_4 hv0_4 h8_ ) (fun z504_ h505_ => ?_)
                      refine w_goto (tgt := 4) dX1_work_437 (by decide) ?_
                      refine w_loc (ls' := [(3, vI z504_), (2, vI z24_), (0, vR (1, b, w)), (1, vR (29, b2, 0))]) [0, 4, 7, 8] rfl ?_
                      exact ih_4 M498_ hI502_ hF503_ z504_ z24_ (lf_c_X5_takeFrom_3 v3_4 z504_ hv0_4 h505_ ) (lf_c_X1_work_14 v2_4 z24_ h21_ h25_ ) (lf_c_X1_work_15 v2_4 z24_ hv2_4 h25_ ) (RCH.tail hL_4 ⟨hv0_4, hv1_4, hv2_4, hI_4, hF_4, z2_, e3_, h4_, h8_, j14_, h15_, z12_, e13_, z16_, h17_, (Or.inl ⟨h18_, (Or.inl ⟨h19_, (Or.inl ⟨h20_, (Or.inr ⟨h21_, z24_, h25_, z26_, h27_, j30_, h31_, z28_, e29_, j34_, h35_, z32_, e33_, z36_, h37_, (Or.inr (Or.inr (Or.inr (Or.inr (Or.inr (Or.inr (Or.inr (Or.inr (Or.inr (Or.inr (Or.inr (Or.inr (Or.inr (Or.inr (Or.inr (Or.inr (Or.inr (Or.inr (Or.inr (Or.inr (Or.inr ⟨e38_, (Or.inr ⟨h483_, z496_, h497_, j500_, h501_, M498_, hM499_, z504_, h505_, rfl, rfl, rfl⟩)⟩)))))))))))))))))))))⟩)⟩)⟩)⟩)⟩) (Nat.lt_of_lt_of_le (lf_c_X1_work_3 v3_4 z504_ h8_ h505_ ) (Nat.le_of_lt_succ hm_4))
              · refine w_iload_n dX1_work_126 rfl 3 rfl ?_
                refine w_iconst (v := 3) dX1_work_127 (by decide) ?_
                refine w_icmp_lt (tgt := 173) dX1_work_128 (by decide) (rfl : v2_4.toInt = v2_4.toInt) li_3 (fun h506_ => ?_) (fun h506_ => ?_)
                · refine w_iload_n dX1_work_173 rfl 3 rfl ?_
                  refine w_iconst (v := 2) dX1_work_174 (by decide) ?_
                  refine w_icmp_lt (tgt := 434) dX1_work_175 (by decide) (rfl : v2_4.toInt = v2_4.toInt) li_2 (fun h507_ => ?_) (fun h507_ => ?_)
                  · refine w_iincB (j := 2) (f := fun z508_ => [(3, vI z508_), (5, vI z16_), (4, vI z12_), (2, vI v2_4), (0, vR (1, b, w)), (1, vR (29, b2, 0))]) dX1_work_434 rfl (by decide) (fun _ => rfl) (rfl : v3_4.toInt = v3_4.toInt) li_1 (lf_c_X1_work_1 v3_4 hv0_4 h8_ ) (fun z508_ h509_ => ?_)
                    refine w_goto (tgt := 4) dX1_work_437 (by decide) ?_
                    refine w_loc (ls' := [(3, vI z508_), (2, vI v2_4), (0, vR (1, b, w)), (1, vR (29, b2, 0))]) [0, 3, 4, 5] rfl ?_
                    exact ih_4 M_4 hI_4 hF_4 z508_ v2_4 (lf_c_X5_takeFrom_3 v3_4 z508_ hv0_4 h509_ ) hv1_4 hv2_4 (RCH.tail hL_4 ⟨hv0_4, hv1_4, hv2_4, hI_4, hF_4, z2_, e3_, h4_, h8_, j14_, h15_, z12_, e13_, z16_, h17_, (Or.inl ⟨h18_, (Or.inl ⟨h19_, (Or.inr ⟨h20_, (Or.inl ⟨h506_, (Or.inl ⟨h507_, z508_, h509_, rfl, rfl, rfl⟩)⟩)⟩)⟩)⟩)⟩) (Nat.lt_of_lt_of_le (lf_c_X1_work_3 v3_4 z508_ h8_ h509_ ) (Nat.le_of_lt_succ hm_4))
                  · refine w_iincB (j := 3) (f := fun z510_ => [(2, vI z510_), (5, vI z16_), (4, vI z12_), (3, vI v3_4), (0, vR (1, b, w)), (1, vR (29, b2, 0))]) dX1_work_178 rfl (by decide) (fun _ => rfl) (rfl : v2_4.toInt = v2_4.toInt) li_m1 (lf_c_X1_work_317 v2_4 h506_ h507_ ) (fun z510_ h511_ => ?_)
                    refine w_aload_n dX1_work_181 rfl 4 rfl ?_
                    refine w_getR (c' := (25, b, w)) fl_RX1_13 rfl rfl (ic_1 hv) dX1_work_182 rfl ?_
                    refine w_iload_n dX1_work_185 rfl 0 rfl ?_
                    refine w_iconst (v := 1) dX1_work_186 (by decide) ?_
                    refine w_isubB dX1_work_187 (rfl : z510_.toInt = z510_.toInt) li_1 (lf_c_X1_work_318 v2_4 z510_ h506_ h507_ h511_ ) (fun z512_ h513_ => ?_)
                    refine w_iald rfl rfl (ic_25 hv) (rfl : z512_.toInt = z512_.toInt) (lf_c_X1_work_319 v2_4 z510_ z512_ h506_ h507_ h511_ h513_ ) dX1_work_188 (fun j516_ h517_ z514_ e515_ => ?_)
                    refine w_istore (ls' := [(6, vI z514_), (2, vI z510_), (5, vI z16_), (4, vI z12_), (3, vI v3_4), (0, vR (1, b, w)), (1, vR (29, b2, 0))]) dX1_work_189 (by decide) rfl ?_
                    refine w_aload_n dX1_work_191 rfl 5 rfl ?_
                    refine w_getR (c' := (25, b, w)) fl_RX1_13 rfl rfl (ic_1 hv) dX1_work_192 rfl ?_
                    refine w_iload_n dX1_work_195 rfl 1 rfl ?_
                    refine w_iald rfl rfl (ic_25 hv) (rfl : z510_.toInt = z510_.toInt) (lf_c_X1_work_320 v2_4 z510_ h506_ h507_ h511_ ) dX1_work_196 (fun j520_ h521_ z518_ e519_ => ?_)
                    refine w_istore (ls' := [(7, vI z518_), (6, vI z514_), (2, vI z510_), (5, vI z16_), (4, vI z12_), (3, vI v3_4), (0, vR (1, b, w)), (1, vR (29, b2, 0))]) dX1_work_197 (by decide) rfl ?_
                    refine w_iconst (v := 0) dX1_work_199 (by decide) ?_
                    refine w_istore (ls' := [(8, vI 0), (7, vI z518_), (6, vI z514_), (2, vI z510_), (5, vI z16_), (4, vI z12_), (3, vI v3_4), (0, vR (1, b, w)), (1, vR (29, b2, 0))]) dX1_work_200 (by decide) rfl ?_
                    refine w_iload dX1_work_202 5 rfl ?_
                    refine w_sipush (v := 2000) dX1_work_204 (by decide) ?_
                    refine w_isubB dX1_work_207 (rfl : z12_.toInt = z12_.toInt) li_2000 (lf_c_X1_work_321 z12_ h20_ ) (fun z522_ h523_ => ?_)
                    refine w_tsOut (tgt := 408) dX1_work_208 rfl (lf_c_X1_work_322 z12_ z522_ h20_ h523_ ) (by decide) ?_
                    refine w_iload dX1_work_408 1 rfl ?_
                    refine w_if_ne (tgt := 417) dX1_work_410 (by decide) (rfl : z518_.toInt = z518_.toInt) (fun h524_ => ?_) (fun h524_ => ?_)
                    · refine w_iload dX1_work_417 2 rfl ?_
                      refine w_iload dX1_work_419 1 rfl ?_
                      refine w_irem dX1_work_421 (lf_c_X1_work_323 M_4 b w v3_4 v2_4 z2_ j14_ z12_ z510_ z512_ j516_ z514_ j520_ z518_ z522_ hv hv0_4 hv1_4 hv2_4 e3_ h4_ h8_ h15_ e13_ h18_ h19_ h20_ h506_ h507_ h511_ h513_ h517_ e515_ h521_ e519_ h523_ h524_ ) (fun z525_ h526_ => ?_)
                      refine w_istore (ls' := [(8, vI z525_), (7, vI z518_), (6, vI z514_), (2, vI z510_), (5, vI z16_), (4, vI z12_), (3, vI v3_4), (0, vR (1, b, w)), (1, vR (29, b2, 0))]) dX1_work_422 (by decide) rfl ?_
                      refine w_aload_n dX1_work_424 rfl 7 rfl ?_
                      refine w_getR (c' := (25, b, w)) fl_RX1_13 rfl rfl (ic_1 hv) dX1_work_425 rfl ?_
                      refine w_iload_n dX1_work_428 rfl 3 rfl ?_
                      refine w_iconst (v := 1) dX1_work_429 (by decide) ?_
                      refine w_isubB dX1_work_430 (rfl : z510_.toInt = z510_.toInt) li_1 (lf_c_X1_work_318 v2_4 z510_ h506_ h507_ h511_ ) (fun z527_ h528_ => ?_)
                      refine w_iload dX1_work_431 0 rfl ?_
                      refine w_iast CC_nd rfl rfl (ic_25 hv) (rfl : z527_.toInt = z527_.toInt) (lf_c_X1_work_319 v2_4 z510_ z527_ h506_ h507_ h511_ h528_ ) dX1_work_433 (fun j531_ h532_ M529_ hM530_ => ?_)
                      have hI533_ := hI_4.put hM530_ trivial
                      have hF534_ := hF_4.put hM530_ (Or.inl ⟨rfl, rfl, rfl⟩)
                      refine w_iincB (j := 6) (f := fun z535_ => [(3, vI z535_), (8, vI z525_), (7, vI z518_), (6, vI z514_), (2, vI z510_), (5, vI z16_), (4, vI z12_), (0, vR (1, b, w)), (1, vR (29, b2, 0))]) dX1_work_434 rfl (by decide) (fun _ => rfl) (rfl : v3_4.toInt = v3_4.toInt) li_1 (lf_c_X1_work_1 v3_4 hv0_4 h8_ ) (fun z535_ h536_ => ?_)
                      refine w_goto (tgt := 4) dX1_work_437 (by decide) ?_
                      refine w_loc (ls' := [(3, vI z535_), (2, vI z510_), (0, vR (1, b, w)), (1, vR (29, b2, 0))]) [0, 4, 7, 8] rfl ?_
                      exact ih_4 M529_ hI533_ hF534_ z535_ z510_ (lf_c_X5_takeFrom_3 v3_4 z535_ hv0_4 h536_ ) (lf_c_X1_work_14 v2_4 z510_ h507_ h511_ ) (lf_c_X1_work_329 v2_4 z510_ h506_ h511_ ) (RCH.tail hL_4 ⟨hv0_4, hv1_4, hv2_4, hI_4, hF_4, z2_, e3_, h4_, h8_, j14_, h15_, z12_, e13_, z16_, h17_, (Or.inl ⟨h18_, (Or.inl ⟨h19_, (Or.inr ⟨h20_, (Or.inl ⟨h506_, (Or.inr ⟨h507_, z510_, h511_, z512_, h513_, j516_, h517_, z514_, e515_, j520_, h521_, z518_, e519_, z522_, h523_, (Or.inl ⟨h524_, z525_, h526_, z527_, h528_, j531_, h532_, M529_, hM530_, z535_, h536_, rfl, rfl, rfl⟩)⟩)⟩)⟩)⟩)⟩)⟩) (Nat.lt_of_lt_of_le (lf_c_X1_work_3 v3_4 z535_ h8_ h536_ ) (Nat.le_of_lt_succ hm_4))
                    · refine w_iconst (v := 0) dX1_work_413 (by decide) ?_
                      refine w_goto (tgt := 422) dX1_work_414 (by decide) ?_
                      refine w_istore (ls' := [(8, vI 0), (7, vI z518_), (6, vI z514_), (2, vI z510_), (5, vI z16_), (4, vI z12_), (3, vI v3_4), (0, vR (1, b, w)), (1, vR (29, b2, 0))]) dX1_work_422 (by decide) rfl ?_
                      refine w_aload_n dX1_work_424 rfl 7 rfl ?_
                      refine w_getR (c' := (25, b, w)) fl_RX1_13 rfl rfl (ic_1 hv) dX1_work_425 rfl ?_
                      refine w_iload_n dX1_work_428 rfl 3 rfl ?_
                      refine w_iconst (v := 1) dX1_work_429 (by decide) ?_
                      refine w_isubB dX1_work_430 (rfl : z510_.toInt = z510_.toInt) li_1 (lf_c_X1_work_318 v2_4 z510_ h506_ h507_ h511_ ) (fun z537_ h538_ => ?_)
                      refine w_iload dX1_work_431 0 rfl ?_
                      refine w_iast CC_nd rfl rfl (ic_25 hv) (rfl : z537_.toInt = z537_.toInt) (lf_c_X1_work_319 v2_4 z510_ z537_ h506_ h507_ h511_ h538_ ) dX1_work_433 (fun j541_ h542_ M539_ hM540_ => ?_)
                      have hI543_ := hI_4.put hM540_ trivial
                      have hF544_ := hF_4.put hM540_ (Or.inl ⟨rfl, rfl, rfl⟩)
                      refine w_iincB (j := 6) (f := fun z545_ => [(3, vI z545_), (8, vI 0), (7, vI z518_), (6, vI z514_), (2, vI z510_), (5, vI z16_), (4, vI z12_), (0, vR (1, b, w)), (1, vR (29, b2, 0))]) dX1_work_434 rfl (by decide) (fun _ => rfl) (rfl : v3_4.toInt = v3_4.toInt) li_1 (lf_c_X1_work_1 v3_4 hv0_4 h8_ ) (fun z545_ h546_ => ?_)
                      refine w_goto (tgt := 4) dX1_work_437 (by decide) ?_
                      refine w_loc (ls' := [(3, vI z545_), (2, vI z510_), (0, vR (1, b, w)), (1, vR (29, b2, 0))]) [0, 4, 7, 8] rfl ?_
                      exact ih_4 M539_ hI543_ hF544_ z545_ z510_ (lf_c_X5_takeFrom_3 v3_4 z545_ hv0_4 h546_ ) (lf_c_X1_work_14 v2_4 z510_ h507_ h511_ ) (lf_c_X1_work_329 v2_4 z510_ h506_ h511_ ) (RCH.tail hL_4 ⟨hv0_4, hv1_4, hv2_4, hI_4, hF_4, z2_, e3_, h4_, h8_, j14_, h15_, z12_, e13_, z16_, h17_, (Or.inl ⟨h18_, (Or.inl ⟨h19_, (Or.inr ⟨h20_, (Or.inl ⟨h506_, (Or.inr ⟨h507_, z510_, h511_, z512_, h513_, j516_, h517_, z514_, e515_, j520_, h521_, z518_, e519_, z522_, h523_, (Or.inr ⟨h524_, z537_, h538_, j541_, h542_, M539_, hM540_, z545_, h546_, rfl, rfl, rfl⟩)⟩)⟩)⟩)⟩)⟩)⟩) (Nat.lt_of_lt_of_le (lf_c_X1_work_3 v3_4 z545_ h8_ h546_ ) (Nat.le_of_lt_succ hm_4))
                · refine w_iincB (j := 3) (f := fun z547_ => [(2, vI z547_), (5, vI z16_), (4, vI z12_), (3, vI v3_4), (0, vR (1, b, w)), (1, vR (29, b2, 0))]) dX1_work_131 rfl (by decide) (fun _ => rfl) (rfl : v2_4.toInt = v2_4.toInt) li_m2 (lf_c_X1_work_338 v2_4 hv2_4 h506_ ) (fun z547_ h548_ => ?_)
                  refine w_aload_n dX1_work_134 rfl 4 rfl ?_
                  refine w_getR (c' := (25, b, w)) fl_RX1_13 rfl rfl (ic_1 hv) dX1_work_135 rfl ?_
                  refine w_iload_n dX1_work_138 rfl 0 rfl ?_
                  refine w_iconst (v := 1) dX1_work_139 (by decide) ?_
                  refine w_isubB dX1_work_140 (rfl : z547_.toInt = z547_.toInt) li_1 (lf_c_X1_work_339 v2_4 z547_ hv2_4 h506_ h548_ ) (fun z549_ h550_ => ?_)
                  refine w_aload_n dX1_work_141 rfl 4 rfl ?_
                  refine w_getR (c' := (25, b, w)) fl_RX1_13 rfl rfl (ic_1 hv) dX1_work_142 rfl ?_
                  refine w_iload_n dX1_work_145 rfl 0 rfl ?_
                  refine w_iconst (v := 1) dX1_work_146 (by decide) ?_
                  refine w_isubB dX1_work_147 (rfl : z547_.toInt = z547_.toInt) li_1 (lf_c_X1_work_339 v2_4 z547_ hv2_4 h506_ h548_ ) (fun z551_ h552_ => ?_)
                  refine w_iald rfl rfl (ic_25 hv) (rfl : z551_.toInt = z551_.toInt) (lf_c_X1_work_341 v2_4 z547_ z551_ hv2_4 h506_ h548_ h552_ ) dX1_work_148 (fun j555_ h556_ z553_ e554_ => ?_)
                  refine w_if_eq (tgt := 161) dX1_work_149 (by decide) (rfl : z553_.toInt = z553_.toInt) (fun h557_ => ?_) (fun h557_ => ?_)
                  · refine w_aload_n dX1_work_161 rfl 4 rfl ?_
                    refine w_getR (c' := (25, b, w)) fl_RX1_13 rfl rfl (ic_1 hv) dX1_work_162 rfl ?_
                    refine w_iload_n dX1_work_165 rfl 0 rfl ?_
                    refine w_iconst (v := 1) dX1_work_166 (by decide) ?_
                    refine w_iaddB dX1_work_167 (rfl : z547_.toInt = z547_.toInt) li_1 (lf_c_X1_work_342 v2_4 z547_ hv2_4 h506_ h548_ ) (fun z558_ h559_ => ?_)
                    refine w_iald rfl rfl (ic_25 hv) (rfl : z558_.toInt = z558_.toInt) (lf_c_X1_work_343 v2_4 z547_ z558_ hv2_4 h506_ h548_ h559_ ) dX1_work_168 (fun j562_ h563_ z560_ e561_ => ?_)
                    refine w_iast CC_nd rfl rfl (ic_25 hv) (rfl : z549_.toInt = z549_.toInt) (lf_c_X1_work_341 v2_4 z547_ z549_ hv2_4 h506_ h548_ h550_ ) dX1_work_169 (fun j566_ h567_ M564_ hM565_ => ?_)
                    have hI568_ := hI_4.put hM565_ trivial
                    have hF569_ := hF_4.put hM565_ (Or.inl ⟨rfl, rfl, rfl⟩)
                    refine w_goto (tgt := 434) dX1_work_170 (by decide) ?_
                    refine w_iincB (j := 3) (f := fun z570_ => [(3, vI z570_), (2, vI z547_), (5, vI z16_), (4, vI z12_), (0, vR (1, b, w)), (1, vR (29, b2, 0))]) dX1_work_434 rfl (by decide) (fun _ => rfl) (rfl : v3_4.toInt = v3_4.toInt) li_1 (lf_c_X1_work_1 v3_4 hv0_4 h8_ ) (fun z570_ h571_ => ?_)
                    refine w_goto (tgt := 4) dX1_work_437 (by decide) ?_
                    refine w_loc (ls' := [(3, vI z570_), (2, vI z547_), (0, vR (1, b, w)), (1, vR (29, b2, 0))]) [0, 1, 4, 5] rfl ?_
                    exact ih_4 M564_ hI568_ hF569_ z570_ z547_ (lf_c_X5_takeFrom_3 v3_4 z570_ hv0_4 h571_ ) (lf_c_X1_work_347 v2_4 z547_ h506_ h548_ ) (lf_c_X1_work_348 v2_4 z547_ hv2_4 h548_ ) (RCH.tail hL_4 ⟨hv0_4, hv1_4, hv2_4, hI_4, hF_4, z2_, e3_, h4_, h8_, j14_, h15_, z12_, e13_, z16_, h17_, (Or.inl ⟨h18_, (Or.inl ⟨h19_, (Or.inr ⟨h20_, (Or.inr ⟨h506_, z547_, h548_, z549_, h550_, z551_, h552_, j555_, h556_, z553_, e554_, (Or.inl ⟨h557_, z558_, h559_, j562_, h563_, z560_, e561_, j566_, h567_, M564_, hM565_, z570_, h571_, rfl, rfl, rfl⟩)⟩)⟩)⟩)⟩)⟩) (Nat.lt_of_lt_of_le (lf_c_X1_work_3 v3_4 z570_ h8_ h571_ ) (Nat.le_of_lt_succ hm_4))
                  · refine w_aload_n dX1_work_152 rfl 4 rfl ?_
                    refine w_getR (c' := (25, b, w)) fl_RX1_13 rfl rfl (ic_1 hv) dX1_work_153 rfl ?_
                    refine w_iload_n dX1_work_156 rfl 0 rfl ?_
                    refine w_iald rfl rfl (ic_25 hv) (rfl : z547_.toInt = z547_.toInt) (lf_c_X1_work_350 v2_4 z547_ hv2_4 h506_ h548_ ) dX1_work_157 (fun j574_ h575_ z572_ e573_ => ?_)
                    refine w_goto (tgt := 169) dX1_work_158 (by decide) ?_
                    refine w_iast CC_nd rfl rfl (ic_25 hv) (rfl : z549_.toInt = z549_.toInt) (lf_c_X1_work_341 v2_4 z547_ z549_ hv2_4 h506_ h548_ h550_ ) dX1_work_169 (fun j578_ h579_ M576_ hM577_ => ?_)
                    have hI580_ := hI_4.put hM577_ trivial
                    have hF581_ := hF_4.put hM577_ (Or.inl ⟨rfl, rfl, rfl⟩)
                    refine w_goto (tgt := 434) dX1_work_170 (by decide) ?_
                    refine w_iincB (j := 3) (f := fun z582_ => [(3, vI z582_), (2, vI z547_), (5, vI z16_), (4, vI z12_), (0, vR (1, b, w)), (1, vR (29, b2, 0))]) dX1_work_434 rfl (by decide) (fun _ => rfl) (rfl : v3_4.toInt = v3_4.toInt) li_1 (lf_c_X1_work_1 v3_4 hv0_4 h8_ ) (fun z582_ h583_ => ?_)
                    refine w_goto (tgt := 4) dX1_work_437 (by decide) ?_
                    refine w_loc (ls' := [(3, vI z582_), (2, vI z547_), (0, vR (1, b, w)), (1, vR (29, b2, 0))]) [0, 1, 4, 5] rfl ?_
                    exact ih_4 M576_ hI580_ hF581_ z582_ z547_ (lf_c_X5_takeFrom_3 v3_4 z582_ hv0_4 h583_ ) (lf_c_X1_work_347 v2_4 z547_ h506_ h548_ ) (lf_c_X1_work_348 v2_4 z547_ hv2_4 h548_ ) (RCH.tail hL_4 ⟨hv0_4, hv1_4, hv2_4, hI_4, hF_4, z2_, e3_, h4_, h8_, j14_, h15_, z12_, e13_, z16_, h17_, (Or.inl ⟨h18_, (Or.inl ⟨h19_, (Or.inr ⟨h20_, (Or.inr ⟨h506_, z547_, h548_, z549_, h550_, z551_, h552_, j555_, h556_, z553_, e554_, (Or.inr ⟨h557_, j574_, h575_, z572_, e573_, j578_, h579_, M576_, hM577_, z582_, h583_, rfl, rfl, rfl⟩)⟩)⟩)⟩)⟩)⟩) (Nat.lt_of_lt_of_le (lf_c_X1_work_3 v3_4 z582_ h8_ h583_ ) (Nat.le_of_lt_succ hm_4))
            · refine w_iload_n dX1_work_93 rfl 3 rfl ?_
              refine w_iconst (v := 1) dX1_work_94 (by decide) ?_
              refine w_icmp_lt (tgt := 118) dX1_work_95 (by decide) (rfl : v2_4.toInt = v2_4.toInt) li_1 (fun h584_ => ?_) (fun h584_ => ?_)
              · refine w_iload dX1_work_118 1 rfl ?_
                refine w_sipush (v := 2063) dX1_work_120 (by decide) ?_
                refine w_icmp_ne (tgt := 173) dX1_work_123 (by decide) (rfl : z12_.toInt = z12_.toInt) li_2063 (fun h585_ => ?_) (fun h9 => (lf_c_X1_work_357 z12_ h19_ h9 ).elim)
                refine w_iload_n dX1_work_173 rfl 3 rfl ?_
                refine w_iconst (v := 2) dX1_work_174 (by decide) ?_
                refine w_icmp_lt (tgt := 434) dX1_work_175 (by decide) (rfl : v2_4.toInt = v2_4.toInt) li_2 (fun h586_ => ?_) (fun h9 => (lf_c_X1_work_358 v2_4 h584_ h9 ).elim)
                refine w_iincB (j := 2) (f := fun z587_ => [(3, vI z587_), (5, vI z16_), (4, vI z12_), (2, vI v2_4), (0, vR (1, b, w)), (1, vR (29, b2, 0))]) dX1_work_434 rfl (by decide) (fun _ => rfl) (rfl : v3_4.toInt = v3_4.toInt) li_1 (lf_c_X1_work_1 v3_4 hv0_4 h8_ ) (fun z587_ h588_ => ?_)
                refine w_goto (tgt := 4) dX1_work_437 (by decide) ?_
                refine w_loc (ls' := [(3, vI z587_), (2, vI v2_4), (0, vR (1, b, w)), (1, vR (29, b2, 0))]) [0, 3, 4, 5] rfl ?_
                exact ih_4 M_4 hI_4 hF_4 z587_ v2_4 (lf_c_X5_takeFrom_3 v3_4 z587_ hv0_4 h588_ ) hv1_4 hv2_4 (RCH.tail hL_4 ⟨hv0_4, hv1_4, hv2_4, hI_4, hF_4, z2_, e3_, h4_, h8_, j14_, h15_, z12_, e13_, z16_, h17_, (Or.inl ⟨h18_, (Or.inr ⟨h19_, (Or.inl ⟨h584_, h585_, h586_, z587_, h588_, rfl, rfl, rfl⟩)⟩)⟩)⟩) (Nat.lt_of_lt_of_le (lf_c_X1_work_3 v3_4 z587_ h8_ h588_ ) (Nat.le_of_lt_succ hm_4))
              · refine w_aload_n dX1_work_98 rfl 4 rfl ?_
                refine w_getR (c' := (25, b, w)) fl_RX1_13 rfl rfl (ic_1 hv) dX1_work_99 rfl ?_
                refine w_iload_n dX1_work_102 rfl 3 rfl ?_
                refine w_iconst (v := 1) dX1_work_103 (by decide) ?_
                refine w_isubB dX1_work_104 (rfl : v2_4.toInt = v2_4.toInt) li_1 (lf_c_X1_work_362 v2_4 hv2_4 h584_ ) (fun z589_ h590_ => ?_)
                refine w_aload_n dX1_work_105 rfl 4 rfl ?_
                refine w_getR (c' := (25, b, w)) fl_RX1_13 rfl rfl (ic_1 hv) dX1_work_106 rfl ?_
                refine w_iload_n dX1_work_109 rfl 3 rfl ?_
                refine w_iconst (v := 1) dX1_work_110 (by decide) ?_
                refine w_isubB dX1_work_111 (rfl : v2_4.toInt = v2_4.toInt) li_1 (lf_c_X1_work_362 v2_4 hv2_4 h584_ ) (fun z591_ h592_ => ?_)
                refine w_iald rfl rfl (ic_25 hv) (rfl : z591_.toInt = z591_.toInt) (lf_c_X1_work_364 v2_4 z591_ hv2_4 h584_ h592_ ) dX1_work_112 (fun j595_ h596_ z593_ e594_ => ?_)
                refine w_ineg dX1_work_113 (fun z597_ h598_ => ?_)
                refine w_iast CC_nd rfl rfl (ic_25 hv) (rfl : z589_.toInt = z589_.toInt) (lf_c_X1_work_364 v2_4 z589_ hv2_4 h584_ h590_ ) dX1_work_114 (fun j601_ h602_ M599_ hM600_ => ?_)
                have hI603_ := hI_4.put hM600_ trivial
                have hF604_ := hF_4.put hM600_ (Or.inl ⟨rfl, rfl, rfl⟩)
                refine w_goto (tgt := 434) dX1_work_115 (by decide) ?_
                refine w_iincB (j := 2) (f := fun z605_ => [(3, vI z605_), (5, vI z16_), (4, vI z12_), (2, vI v2_4), (0, vR (1, b, w)), (1, vR (29, b2, 0))]) dX1_work_434 rfl (by decide) (fun _ => rfl) (rfl : v3_4.toInt = v3_4.toInt) li_1 (lf_c_X1_work_1 v3_4 hv0_4 h8_ ) (fun z605_ h606_ => ?_)
                refine w_goto (tgt := 4) dX1_work_437 (by decide) ?_
                refine w_loc (ls' := [(3, vI z605_), (2, vI v2_4), (0, vR (1, b, w)), (1, vR (29, b2, 0))]) [0, 3, 4, 5] rfl ?_
                exact ih_4 M599_ hI603_ hF604_ z605_ v2_4 (lf_c_X5_takeFrom_3 v3_4 z605_ hv0_4 h606_ ) hv1_4 hv2_4 (RCH.tail hL_4 ⟨hv0_4, hv1_4, hv2_4, hI_4, hF_4, z2_, e3_, h4_, h8_, j14_, h15_, z12_, e13_, z16_, h17_, (Or.inl ⟨h18_, (Or.inr ⟨h19_, (Or.inr ⟨h584_, z589_, h590_, z591_, h592_, j595_, h596_, z593_, e594_, z597_, h598_, j601_, h602_, M599_, hM600_, z605_, h606_, rfl, rfl, rfl⟩)⟩)⟩)⟩) (Nat.lt_of_lt_of_le (lf_c_X1_work_3 v3_4 z605_ h8_ h606_ ) (Nat.le_of_lt_succ hm_4))
          · refine w_iload_n dX1_work_42 rfl 3 rfl ?_
            refine w_bipush (v := 48) dX1_work_43 (by decide) ?_
            refine w_icmp_ge (tgt := 85) dX1_work_45 (by decide) (rfl : v2_4.toInt = v2_4.toInt) li_48 (fun h607_ => ?_) (fun h607_ => ?_)
            · refine w_iload dX1_work_85 1 rfl ?_
              refine w_sipush (v := 2126) dX1_work_87 (by decide) ?_
              refine w_icmp_ne (tgt := 118) dX1_work_90 (by decide) (rfl : z12_.toInt = z12_.toInt) li_2126 (fun h608_ => ?_) (fun h9 => (lf_c_X1_work_369 z12_ h18_ h9 ).elim)
              refine w_iload dX1_work_118 1 rfl ?_
              refine w_sipush (v := 2063) dX1_work_120 (by decide) ?_
              refine w_icmp_ne (tgt := 173) dX1_work_123 (by decide) (rfl : z12_.toInt = z12_.toInt) li_2063 (fun h609_ => ?_) (fun h9 => (lf_c_X1_work_370 z12_ h18_ h9 ).elim)
              refine w_iload_n dX1_work_173 rfl 3 rfl ?_
              refine w_iconst (v := 2) dX1_work_174 (by decide) ?_
              refine w_icmp_lt (tgt := 434) dX1_work_175 (by decide) (rfl : v2_4.toInt = v2_4.toInt) li_2 (fun h9 => (lf_c_X1_work_371 v2_4 h607_ h9 ).elim) (fun h610_ => ?_)
              refine w_iincB (j := 3) (f := fun z611_ => [(2, vI z611_), (5, vI z16_), (4, vI z12_), (3, vI v3_4), (0, vR (1, b, w)), (1, vR (29, b2, 0))]) dX1_work_178 rfl (by decide) (fun _ => rfl) (rfl : v2_4.toInt = v2_4.toInt) li_m1 (lf_c_X1_work_372 v2_4 hv2_4 h607_ ) (fun z611_ h612_ => ?_)
              refine w_aload_n dX1_work_181 rfl 4 rfl ?_
              refine w_getR (c' := (25, b, w)) fl_RX1_13 rfl rfl (ic_1 hv) dX1_work_182 rfl ?_
              refine w_iload_n dX1_work_185 rfl 0 rfl ?_
              refine w_iconst (v := 1) dX1_work_186 (by decide) ?_
              refine w_isubB dX1_work_187 (rfl : z611_.toInt = z611_.toInt) li_1 (lf_c_X1_work_373 v2_4 z611_ hv2_4 h607_ h612_ ) (fun z613_ h614_ => ?_)
              refine w_iald rfl rfl (ic_25 hv) (rfl : z613_.toInt = z613_.toInt) (lf_c_X1_work_374 v2_4 z611_ z613_ hv2_4 h607_ h612_ h614_ ) dX1_work_188 (fun j617_ h618_ z615_ e616_ => ?_)
              refine w_istore (ls' := [(6, vI z615_), (2, vI z611_), (5, vI z16_), (4, vI z12_), (3, vI v3_4), (0, vR (1, b, w)), (1, vR (29, b2, 0))]) dX1_work_189 (by decide) rfl ?_
              refine w_aload_n dX1_work_191 rfl 5 rfl ?_
              refine w_getR (c' := (25, b, w)) fl_RX1_13 rfl rfl (ic_1 hv) dX1_work_192 rfl ?_
              refine w_iload_n dX1_work_195 rfl 1 rfl ?_
              refine w_iald rfl rfl (ic_25 hv) (rfl : z611_.toInt = z611_.toInt) (lf_c_X1_work_375 v2_4 z611_ hv2_4 h607_ h612_ ) dX1_work_196 (fun j621_ h622_ z619_ e620_ => ?_)
              refine w_istore (ls' := [(7, vI z619_), (6, vI z615_), (2, vI z611_), (5, vI z16_), (4, vI z12_), (3, vI v3_4), (0, vR (1, b, w)), (1, vR (29, b2, 0))]) dX1_work_197 (by decide) rfl ?_
              refine w_iconst (v := 0) dX1_work_199 (by decide) ?_
              refine w_istore (ls' := [(8, vI 0), (7, vI z619_), (6, vI z615_), (2, vI z611_), (5, vI z16_), (4, vI z12_), (3, vI v3_4), (0, vR (1, b, w)), (1, vR (29, b2, 0))]) dX1_work_200 (by decide) rfl ?_
              refine w_iload dX1_work_202 5 rfl ?_
              refine w_sipush (v := 2000) dX1_work_204 (by decide) ?_
              refine w_isub dX1_work_207 (fun z623_ h624_ => ?_)
              rcases (lf_c_X1_work_376 z623_ ) with e625_ | e625_ | e625_ | e625_ | e625_ | e625_ | e625_ | e625_ | e625_ | e625_ | e625_ | e625_ | e625_ | e625_ | e625_ | e625_ | e625_ | e625_ | e625_ | e625_ | e625_ | e625_
              · refine w_tsIn (tgt := 379) (off := 171) dX1_work_208 e625_ (by decide) (by decide) rfl (by decide) ?_
                refine w_iload dX1_work_379 2 rfl ?_
                refine w_iload dX1_work_381 1 rfl ?_
                refine w_imul dX1_work_383 (fun z626_ h627_ => ?_)
                refine w_istore (ls' := [(8, vI z626_), (7, vI z619_), (6, vI z615_), (2, vI z611_), (5, vI z16_), (4, vI z12_), (3, vI v3_4), (0, vR (1, b, w)), (1, vR (29, b2, 0))]) dX1_work_384 (by decide) rfl ?_
                refine w_goto (tgt := 424) dX1_work_386 (by decide) ?_
                refine w_aload_n dX1_work_424 rfl 7 rfl ?_
                refine w_getR (c' := (25, b, w)) fl_RX1_13 rfl rfl (ic_1 hv) dX1_work_425 rfl ?_
                refine w_iload_n dX1_work_428 rfl 3 rfl ?_
                refine w_iconst (v := 1) dX1_work_429 (by decide) ?_
                refine w_isubB dX1_work_430 (rfl : z611_.toInt = z611_.toInt) li_1 (lf_c_X1_work_373 v2_4 z611_ hv2_4 h607_ h612_ ) (fun z628_ h629_ => ?_)
                refine w_iload dX1_work_431 0 rfl ?_
                refine w_iast CC_nd rfl rfl (ic_25 hv) (rfl : z628_.toInt = z628_.toInt) (lf_c_X1_work_374 v2_4 z611_ z628_ hv2_4 h607_ h612_ h629_ ) dX1_work_433 (fun j632_ h633_ M630_ hM631_ => ?_)
                have hI634_ := hI_4.put hM631_ trivial
                have hF635_ := hF_4.put hM631_ (Or.inl ⟨rfl, rfl, rfl⟩)
                refine w_iincB (j := 6) (f := fun z636_ => [(3, vI z636_), (8, vI z626_), (7, vI z619_), (6, vI z615_), (2, vI z611_), (5, vI z16_), (4, vI z12_), (0, vR (1, b, w)), (1, vR (29, b2, 0))]) dX1_work_434 rfl (by decide) (fun _ => rfl) (rfl : v3_4.toInt = v3_4.toInt) li_1 (lf_c_X1_work_1 v3_4 hv0_4 h8_ ) (fun z636_ h637_ => ?_)
                refine w_goto (tgt := 4) dX1_work_437 (by decide) ?_
                refine w_loc (ls' := [(3, vI z636_), (2, vI z611_), (0, vR (1, b, w)), (1, vR (29, b2, 0))]) [0, 4, 7, 8] rfl ?_
                exact ih_4 M630_ hI634_ hF635_ z636_ z611_ (lf_c_X5_takeFrom_3 v3_4 z636_ hv0_4 h637_ ) (lf_c_X1_work_381 v2_4 z611_ h607_ h612_ ) (lf_c_X1_work_15 v2_4 z611_ hv2_4 h612_ ) (RCH.tail hL_4 ⟨hv0_4, hv1_4, hv2_4, hI_4, hF_4, z2_, e3_, h4_, h8_, j14_, h15_, z12_, e13_, z16_, h17_, (Or.inr ⟨h18_, (Or.inl ⟨h607_, h608_, h609_, h610_, z611_, h612_, z613_, h614_, j617_, h618_, z615_, e616_, j621_, h622_, z619_, e620_, z623_, h624_, (Or.inl ⟨e625_, z626_, h627_, z628_, h629_, j632_, h633_, M630_, hM631_, z636_, h637_, rfl, rfl, rfl⟩)⟩)⟩)⟩) (Nat.lt_of_lt_of_le (lf_c_X1_work_3 v3_4 z636_ h8_ h637_ ) (Nat.le_of_lt_succ hm_4))
              · refine w_tsIn (tgt := 359) (off := 151) dX1_work_208 e625_ (by decide) (by decide) rfl (by decide) ?_
                refine w_iload dX1_work_359 2 rfl ?_
                refine w_iload dX1_work_361 1 rfl ?_
                refine w_iadd dX1_work_363 (fun z638_ h639_ => ?_)
                refine w_istore (ls' := [(8, vI z638_), (7, vI z619_), (6, vI z615_), (2, vI z611_), (5, vI z16_), (4, vI z12_), (3, vI v3_4), (0, vR (1, b, w)), (1, vR (29, b2, 0))]) dX1_work_364 (by decide) rfl ?_
                refine w_goto (tgt := 424) dX1_work_366 (by decide) ?_
                refine w_aload_n dX1_work_424 rfl 7 rfl ?_
                refine w_getR (c' := (25, b, w)) fl_RX1_13 rfl rfl (ic_1 hv) dX1_work_425 rfl ?_
                refine w_iload_n dX1_work_428 rfl 3 rfl ?_
                refine w_iconst (v := 1) dX1_work_429 (by decide) ?_
                refine w_isubB dX1_work_430 (rfl : z611_.toInt = z611_.toInt) li_1 (lf_c_X1_work_373 v2_4 z611_ hv2_4 h607_ h612_ ) (fun z640_ h641_ => ?_)
                refine w_iload dX1_work_431 0 rfl ?_
                refine w_iast CC_nd rfl rfl (ic_25 hv) (rfl : z640_.toInt = z640_.toInt) (lf_c_X1_work_374 v2_4 z611_ z640_ hv2_4 h607_ h612_ h641_ ) dX1_work_433 (fun j644_ h645_ M642_ hM643_ => ?_)
                have hI646_ := hI_4.put hM643_ trivial
                have hF647_ := hF_4.put hM643_ (Or.inl ⟨rfl, rfl, rfl⟩)
                refine w_iincB (j := 6) (f := fun z648_ => [(3, vI z648_), (8, vI z638_), (7, vI z619_), (6, vI z615_), (2, vI z611_), (5, vI z16_), (4, vI z12_), (0, vR (1, b, w)), (1, vR (29, b2, 0))]) dX1_work_434 rfl (by decide) (fun _ => rfl) (rfl : v3_4.toInt = v3_4.toInt) li_1 (lf_c_X1_work_1 v3_4 hv0_4 h8_ ) (fun z648_ h649_ => ?_)
                refine w_goto (tgt := 4) dX1_work_437 (by decide) ?_
                refine w_loc (ls' := [(3, vI z648_), (2, vI z611_), (0, vR (1, b, w)), (1, vR (29, b2, 0))]) [0, 4, 7, 8] rfl ?_
                exact ih_4 M642_ hI646_ hF647_ z648_ z611_ (lf_c_X5_takeFrom_3 v3_4 z648_ hv0_4 h649_ ) (lf_c_X1_work_381 v2_4 z611_ h607_ h612_ ) (lf_c_X1_work_15 v2_4 z611_ hv2_4 h612_ ) (RCH.tail hL_4 ⟨hv0_4, hv1_4, hv2_4, hI_4, hF_4, z2_, e3_, h4_, h8_, j14_, h15_, z12_, e13_, z16_, h17_, (Or.inr ⟨h18_, (Or.inl ⟨h607_, h608_, h609_, h610_, z611_, h612_, z613_, h614_, j617_, h618_, z615_, e616_, j621_, h622_, z619_, e620_, z623_, h624_, (Or.inr (Or.inl ⟨e625_, z638_, h639_, z640_, h641_, j644_, h645_, M642_, hM643_, z648_, h649_, rfl, rfl, rfl⟩))⟩)⟩)⟩) (Nat.lt_of_lt_of_le (lf_c_X1_work_3 v3_4 z648_ h8_ h649_ ) (Nat.le_of_lt_succ hm_4))
              · refine w_tsIn (tgt := 408) (off := 200) dX1_work_208 e625_ (by decide) (by decide) rfl (by decide) ?_
                refine w_iload dX1_work_408 1 rfl ?_
                refine w_if_ne (tgt := 417) dX1_work_410 (by decide) (rfl : z619_.toInt = z619_.toInt) (fun h650_ => ?_) (fun h650_ => ?_)
                · refine w_iload dX1_work_417 2 rfl ?_
                  refine w_iload dX1_work_419 1 rfl ?_
                  refine w_irem dX1_work_421 (lf_c_X1_work_391 M_4 b w v3_4 v2_4 z2_ j14_ z12_ z611_ z613_ j617_ z615_ j621_ z619_ hv hv0_4 hv1_4 hv2_4 e3_ h4_ h8_ h15_ e13_ h18_ h607_ h608_ h609_ h610_ h612_ h614_ h618_ e616_ h622_ e620_ h650_ ) (fun z651_ h652_ => ?_)
                  refine w_istore (ls' := [(8, vI z651_), (7, vI z619_), (6, vI z615_), (2, vI z611_), (5, vI z16_), (4, vI z12_), (3, vI v3_4), (0, vR (1, b, w)), (1, vR (29, b2, 0))]) dX1_work_422 (by decide) rfl ?_
                  refine w_aload_n dX1_work_424 rfl 7 rfl ?_
                  refine w_getR (c' := (25, b, w)) fl_RX1_13 rfl rfl (ic_1 hv) dX1_work_425 rfl ?_
                  refine w_iload_n dX1_work_428 rfl 3 rfl ?_
                  refine w_iconst (v := 1) dX1_work_429 (by decide) ?_
                  refine w_isubB dX1_work_430 (rfl : z611_.toInt = z611_.toInt) li_1 (lf_c_X1_work_373 v2_4 z611_ hv2_4 h607_ h612_ ) (fun z653_ h654_ => ?_)
                  refine w_iload dX1_work_431 0 rfl ?_
                  refine w_iast CC_nd rfl rfl (ic_25 hv) (rfl : z653_.toInt = z653_.toInt) (lf_c_X1_work_374 v2_4 z611_ z653_ hv2_4 h607_ h612_ h654_ ) dX1_work_433 (fun j657_ h658_ M655_ hM656_ => ?_)
                  have hI659_ := hI_4.put hM656_ trivial
                  have hF660_ := hF_4.put hM656_ (Or.inl ⟨rfl, rfl, rfl⟩)
                  refine w_iincB (j := 6) (f := fun z661_ => [(3, vI z661_), (8, vI z651_), (7, vI z619_), (6, vI z615_), (2, vI z611_), (5, vI z16_), (4, vI z12_), (0, vR (1, b, w)), (1, vR (29, b2, 0))]) dX1_work_434 rfl (by decide) (fun _ => rfl) (rfl : v3_4.toInt = v3_4.toInt) li_1 (lf_c_X1_work_1 v3_4 hv0_4 h8_ ) (fun z661_ h662_ => ?_)
                  refine w_goto (tgt := 4) dX1_work_437 (by decide) ?_
                  refine w_loc (ls' := [(3, vI z661_), (2, vI z611_), (0, vR (1, b, w)), (1, vR (29, b2, 0))]) [0, 4, 7, 8] rfl ?_
                  exact ih_4 M655_ hI659_ hF660_ z661_ z611_ (lf_c_X5_takeFrom_3 v3_4 z661_ hv0_4 h662_ ) (lf_c_X1_work_381 v2_4 z611_ h607_ h612_ ) (lf_c_X1_work_15 v2_4 z611_ hv2_4 h612_ ) (RCH.tail hL_4 ⟨hv0_4, hv1_4, hv2_4, hI_4, hF_4, z2_, e3_, h4_, h8_, j14_, h15_, z12_, e13_, z16_, h17_, (Or.inr ⟨h18_, (Or.inl ⟨h607_, h608_, h609_, h610_, z611_, h612_, z613_, h614_, j617_, h618_, z615_, e616_, j621_, h622_, z619_, e620_, z623_, h624_, (Or.inr (Or.inr (Or.inl ⟨e625_, (Or.inl ⟨h650_, z651_, h652_, z653_, h654_, j657_, h658_, M655_, hM656_, z661_, h662_, rfl, rfl, rfl⟩)⟩)))⟩)⟩)⟩) (Nat.lt_of_lt_of_le (lf_c_X1_work_3 v3_4 z661_ h8_ h662_ ) (Nat.le_of_lt_succ hm_4))
                · refine w_iconst (v := 0) dX1_work_413 (by decide) ?_
                  refine w_goto (tgt := 422) dX1_work_414 (by decide) ?_
                  refine w_istore (ls' := [(8, vI 0), (7, vI z619_), (6, vI z615_), (2, vI z611_), (5, vI z16_), (4, vI z12_), (3, vI v3_4), (0, vR (1, b, w)), (1, vR (29, b2, 0))]) dX1_work_422 (by decide) rfl ?_
                  refine w_aload_n dX1_work_424 rfl 7 rfl ?_
                  refine w_getR (c' := (25, b, w)) fl_RX1_13 rfl rfl (ic_1 hv) dX1_work_425 rfl ?_
                  refine w_iload_n dX1_work_428 rfl 3 rfl ?_
                  refine w_iconst (v := 1) dX1_work_429 (by decide) ?_
                  refine w_isubB dX1_work_430 (rfl : z611_.toInt = z611_.toInt) li_1 (lf_c_X1_work_373 v2_4 z611_ hv2_4 h607_ h612_ ) (fun z663_ h664_ => ?_)
                  refine w_iload dX1_work_431 0 rfl ?_
                  refine w_iast CC_nd rfl rfl (ic_25 hv) (rfl : z663_.toInt = z663_.toInt) (lf_c_X1_work_374 v2_4 z611_ z663_ hv2_4 h607_ h612_ h664_ ) dX1_work_433 (fun j667_ h668_ M665_ hM666_ => ?_)
                  have hI669_ := hI_4.put hM666_ trivial
                  have hF670_ := hF_4.put hM666_ (Or.inl ⟨rfl, rfl, rfl⟩)
                  refine w_iincB (j := 6) (f := fun z671_ => [(3, vI z671_), (8, vI 0), (7, vI z619_), (6, vI z615_), (2, vI z611_), (5, vI z16_), (4, vI z12_), (0, vR (1, b, w)), (1, vR (29, b2, 0))]) dX1_work_434 rfl (by decide) (fun _ => rfl) (rfl : v3_4.toInt = v3_4.toInt) li_1 (lf_c_X1_work_1 v3_4 hv0_4 h8_ ) (fun z671_ h672_ => ?_)
                  refine w_goto (tgt := 4) dX1_work_437 (by decide) ?_
                  refine w_loc (ls' := [(3, vI z671_), (2, vI z611_), (0, vR (1, b, w)), (1, vR (29, b2, 0))]) [0, 4, 7, 8] rfl ?_
                  exact ih_4 M665_ hI669_ hF670_ z671_ z611_ (lf_c_X5_takeFrom_3 v3_4 z671_ hv0_4 h672_ ) (lf_c_X1_work_381 v2_4 z611_ h607_ h612_ ) (lf_c_X1_work_15 v2_4 z611_ hv2_4 h612_ ) (RCH.tail hL_4 ⟨hv0_4, hv1_4, hv2_4, hI_4, hF_4, z2_, e3_, h4_, h8_, j14_, h15_, z12_, e13_, z16_, h17_, (Or.inr ⟨h18_, (Or.inl ⟨h607_, h608_, h609_, h610_, z611_, h612_, z613_, h614_, j617_, h618_, z615_, e616_, j621_, h622_, z619_, e620_, z623_, h624_, (Or.inr (Or.inr (Or.inl ⟨e625_, (Or.inr ⟨h650_, z663_, h664_, j667_, h668_, M665_, hM666_, z671_, h672_, rfl, rfl, rfl⟩)⟩)))⟩)⟩)⟩) (Nat.lt_of_lt_of_le (lf_c_X1_work_3 v3_4 z671_ h8_ h672_ ) (Nat.le_of_lt_succ hm_4))
              · refine w_tsIn (tgt := 369) (off := 161) dX1_work_208 e625_ (by decide) (by decide) rfl (by decide) ?_
                refine w_iload dX1_work_369 2 rfl ?_
                refine w_iload dX1_work_371 1 rfl ?_
                refine w_isub dX1_work_373 (fun z673_ h674_ => ?_)
                refine w_istore (ls' := [(8, vI z673_), (7, vI z619_), (6, vI z615_), (2, vI z611_), (5, vI z16_), (4, vI z12_), (3, vI v3_4), (0, vR (1, b, w)), (1, vR (29, b2, 0))]) dX1_work_374 (by decide) rfl ?_
                refine w_goto (tgt := 424) dX1_work_376 (by decide) ?_
                refine w_aload_n dX1_work_424 rfl 7 rfl ?_
                refine w_getR (c' := (25, b, w)) fl_RX1_13 rfl rfl (ic_1 hv) dX1_work_425 rfl ?_
                refine w_iload_n dX1_work_428 rfl 3 rfl ?_
                refine w_iconst (v := 1) dX1_work_429 (by decide) ?_
                refine w_isubB dX1_work_430 (rfl : z611_.toInt = z611_.toInt) li_1 (lf_c_X1_work_373 v2_4 z611_ hv2_4 h607_ h612_ ) (fun z675_ h676_ => ?_)
                refine w_iload dX1_work_431 0 rfl ?_
                refine w_iast CC_nd rfl rfl (ic_25 hv) (rfl : z675_.toInt = z675_.toInt) (lf_c_X1_work_374 v2_4 z611_ z675_ hv2_4 h607_ h612_ h676_ ) dX1_work_433 (fun j679_ h680_ M677_ hM678_ => ?_)
                have hI681_ := hI_4.put hM678_ trivial
                have hF682_ := hF_4.put hM678_ (Or.inl ⟨rfl, rfl, rfl⟩)
                refine w_iincB (j := 6) (f := fun z683_ => [(3, vI z683_), (8, vI z673_), (7, vI z619_), (6, vI z615_), (2, vI z611_), (5, vI z16_), (4, vI z12_), (0, vR (1, b, w)), (1, vR (29, b2, 0))]) dX1_work_434 rfl (by decide) (fun _ => rfl) (rfl : v3_4.toInt = v3_4.toInt) li_1 (lf_c_X1_work_1 v3_4 hv0_4 h8_ ) (fun z683_ h684_ => ?_)
                refine w_goto (tgt := 4) dX1_work_437 (by decide) ?_
                refine w_loc (ls' := [(3, vI z683_), (2, vI z611_), (0, vR (1, b, w)), (1, vR (29, b2, 0))]) [0, 4, 7, 8] rfl ?_
                exact ih_4 M677_ hI681_ hF682_ z683_ z611_ (lf_c_X5_takeFrom_3 v3_4 z683_ hv0_4 h684_ ) (lf_c_X1_work_381 v2_4 z611_ h607_ h612_ ) (lf_c_X1_work_15 v2_4 z611_ hv2_4 h612_ ) (RCH.tail hL_4 ⟨hv0_4, hv1_4, hv2_4, hI_4, hF_4, z2_, e3_, h4_, h8_, j14_, h15_, z12_, e13_, z16_, h17_, (Or.inr ⟨h18_, (Or.inl ⟨h607_, h608_, h609_, h610_, z611_, h612_, z613_, h614_, j617_, h618_, z615_, e616_, j621_, h622_, z619_, e620_, z623_, h624_, (Or.inr (Or.inr (Or.inr (Or.inl ⟨e625_, z673_, h674_, z675_, h676_, j679_, h680_, M677_, hM678_, z683_, h684_, rfl, rfl, rfl⟩))))⟩)⟩)⟩) (Nat.lt_of_lt_of_le (lf_c_X1_work_3 v3_4 z683_ h8_ h684_ ) (Nat.le_of_lt_succ hm_4))
              · refine w_tsIn (tgt := 408) (off := 200) dX1_work_208 e625_ (by decide) (by decide) rfl (by decide) ?_
                refine w_iload dX1_work_408 1 rfl ?_
                refine w_if_ne (tgt := 417) dX1_work_410 (by decide) (rfl : z619_.toInt = z619_.toInt) (fun h685_ => ?_) (fun h685_ => ?_)
                · refine w_iload dX1_work_417 2 rfl ?_
                  refine w_iload dX1_work_419 1 rfl ?_
                  refine w_irem dX1_work_421 (lf_c_X1_work_391 M_4 b w v3_4 v2_4 z2_ j14_ z12_ z611_ z613_ j617_ z615_ j621_ z619_ hv hv0_4 hv1_4 hv2_4 e3_ h4_ h8_ h15_ e13_ h18_ h607_ h608_ h609_ h610_ h612_ h614_ h618_ e616_ h622_ e620_ h685_ ) (fun z686_ h687_ => ?_)
                  refine w_istore (ls' := [(8, vI z686_), (7, vI z619_), (6, vI z615_), (2, vI z611_), (5, vI z16_), (4, vI z12_), (3, vI v3_4), (0, vR (1, b, w)), (1, vR (29, b2, 0))]) dX1_work_422 (by decide) rfl ?_
                  refine w_aload_n dX1_work_424 rfl 7 rfl ?_
                  refine w_getR (c' := (25, b, w)) fl_RX1_13 rfl rfl (ic_1 hv) dX1_work_425 rfl ?_
                  refine w_iload_n dX1_work_428 rfl 3 rfl ?_
                  refine w_iconst (v := 1) dX1_work_429 (by decide) ?_
                  refine w_isubB dX1_work_430 (rfl : z611_.toInt = z611_.toInt) li_1 (lf_c_X1_work_373 v2_4 z611_ hv2_4 h607_ h612_ ) (fun z688_ h689_ => ?_)
                  refine w_iload dX1_work_431 0 rfl ?_
                  refine w_iast CC_nd rfl rfl (ic_25 hv) (rfl : z688_.toInt = z688_.toInt) (lf_c_X1_work_374 v2_4 z611_ z688_ hv2_4 h607_ h612_ h689_ ) dX1_work_433 (fun j692_ h693_ M690_ hM691_ => ?_)
                  have hI694_ := hI_4.put hM691_ trivial
                  have hF695_ := hF_4.put hM691_ (Or.inl ⟨rfl, rfl, rfl⟩)
                  refine w_iincB (j := 6) (f := fun z696_ => [(3, vI z696_), (8, vI z686_), (7, vI z619_), (6, vI z615_), (2, vI z611_), (5, vI z16_), (4, vI z12_), (0, vR (1, b, w)), (1, vR (29, b2, 0))]) dX1_work_434 rfl (by decide) (fun _ => rfl) (rfl : v3_4.toInt = v3_4.toInt) li_1 (lf_c_X1_work_1 v3_4 hv0_4 h8_ ) (fun z696_ h697_ => ?_)
                  refine w_goto (tgt := 4) dX1_work_437 (by decide) ?_
                  refine w_loc (ls' := [(3, vI z696_), (2, vI z611_), (0, vR (1, b, w)), (1, vR (29, b2, 0))]) [0, 4, 7, 8] rfl ?_
                  exact ih_4 M690_ hI694_ hF695_ z696_ z611_ (lf_c_X5_takeFrom_3 v3_4 z696_ hv0_4 h697_ ) (lf_c_X1_work_381 v2_4 z611_ h607_ h612_ ) (lf_c_X1_work_15 v2_4 z611_ hv2_4 h612_ ) (RCH.tail hL_4 ⟨hv0_4, hv1_4, hv2_4, hI_4, hF_4, z2_, e3_, h4_, h8_, j14_, h15_, z12_, e13_, z16_, h17_, (Or.inr ⟨h18_, (Or.inl ⟨h607_, h608_, h609_, h610_, z611_, h612_, z613_, h614_, j617_, h618_, z615_, e616_, j621_, h622_, z619_, e620_, z623_, h624_, (Or.inr (Or.inr (Or.inr (Or.inr (Or.inl ⟨e625_, (Or.inl ⟨h685_, z686_, h687_, z688_, h689_, j692_, h693_, M690_, hM691_, z696_, h697_, rfl, rfl, rfl⟩)⟩)))))⟩)⟩)⟩) (Nat.lt_of_lt_of_le (lf_c_X1_work_3 v3_4 z696_ h8_ h697_ ) (Nat.le_of_lt_succ hm_4))
                · refine w_iconst (v := 0) dX1_work_413 (by decide) ?_
                  refine w_goto (tgt := 422) dX1_work_414 (by decide) ?_
                  refine w_istore (ls' := [(8, vI 0), (7, vI z619_), (6, vI z615_), (2, vI z611_), (5, vI z16_), (4, vI z12_), (3, vI v3_4), (0, vR (1, b, w)), (1, vR (29, b2, 0))]) dX1_work_422 (by decide) rfl ?_
                  refine w_aload_n dX1_work_424 rfl 7 rfl ?_
                  refine w_getR (c' := (25, b, w)) fl_RX1_13 rfl rfl (ic_1 hv) dX1_work_425 rfl ?_
                  refine w_iload_n dX1_work_428 rfl 3 rfl ?_
                  refine w_iconst (v := 1) dX1_work_429 (by decide) ?_
                  refine w_isubB dX1_work_430 (rfl : z611_.toInt = z611_.toInt) li_1 (lf_c_X1_work_373 v2_4 z611_ hv2_4 h607_ h612_ ) (fun z698_ h699_ => ?_)
                  refine w_iload dX1_work_431 0 rfl ?_
                  refine w_iast CC_nd rfl rfl (ic_25 hv) (rfl : z698_.toInt = z698_.toInt) (lf_c_X1_work_374 v2_4 z611_ z698_ hv2_4 h607_ h612_ h699_ ) dX1_work_433 (fun j702_ h703_ M700_ hM701_ => ?_)
                  have hI704_ := hI_4.put hM701_ trivial
                  have hF705_ := hF_4.put hM701_ (Or.inl ⟨rfl, rfl, rfl⟩)
                  refine w_iincB (j := 6) (f := fun z706_ => [(3, vI z706_), (8, vI 0), (7, vI z619_), (6, vI z615_), (2, vI z611_), (5, vI z16_), (4, vI z12_), (0, vR (1, b, w)), (1, vR (29, b2, 0))]) dX1_work_434 rfl (by decide) (fun _ => rfl) (rfl : v3_4.toInt = v3_4.toInt) li_1 (lf_c_X1_work_1 v3_4 hv0_4 h8_ ) (fun z706_ h707_ => ?_)
                  refine w_goto (tgt := 4) dX1_work_437 (by decide) ?_
                  refine w_loc (ls' := [(3, vI z706_), (2, vI z611_), (0, vR (1, b, w)), (1, vR (29, b2, 0))]) [0, 4, 7, 8] rfl ?_
                  exact ih_4 M700_ hI704_ hF705_ z706_ z611_ (lf_c_X5_takeFrom_3 v3_4 z706_ hv0_4 h707_ ) (lf_c_X1_work_381 v2_4 z611_ h607_ h612_ ) (lf_c_X1_work_15 v2_4 z611_ hv2_4 h612_ ) (RCH.tail hL_4 ⟨hv0_4, hv1_4, hv2_4, hI_4, hF_4, z2_, e3_, h4_, h8_, j14_, h15_, z12_, e13_, z16_, h17_, (Or.inr ⟨h18_, (Or.inl ⟨h607_, h608_, h609_, h610_, z611_, h612_, z613_, h614_, j617_, h618_, z615_, e616_, j621_, h622_, z619_, e620_, z623_, h624_, (Or.inr (Or.inr (Or.inr (Or.inr (Or.inl ⟨e625_, (Or.inr ⟨h685_, z698_, h699_, j702_, h703_, M700_, hM701_, z706_, h707_, rfl, rfl, rfl⟩)⟩)))))⟩)⟩)⟩) (Nat.lt_of_lt_of_le (lf_c_X1_work_3 v3_4 z706_ h8_ h707_ ) (Nat.le_of_lt_succ hm_4))
              · refine w_tsIn (tgt := 389) (off := 181) dX1_work_208 e625_ (by decide) (by decide) rfl (by decide) ?_
                refine w_iload dX1_work_389 1 rfl ?_
                refine w_if_ne (tgt := 398) dX1_work_391 (by decide) (rfl : z619_.toInt = z619_.toInt) (fun h708_ => ?_) (fun h708_ => ?_)
                · refine w_iload dX1_work_398 2 rfl ?_
                  refine w_iload dX1_work_400 1 rfl ?_
                  refine w_idiv dX1_work_402 (lf_c_X1_work_391 M_4 b w v3_4 v2_4 z2_ j14_ z12_ z611_ z613_ j617_ z615_ j621_ z619_ hv hv0_4 hv1_4 hv2_4 e3_ h4_ h8_ h15_ e13_ h18_ h607_ h608_ h609_ h610_ h612_ h614_ h618_ e616_ h622_ e620_ h708_ ) (fun z709_ h710_ => ?_)
                  refine w_istore (ls' := [(8, vI z709_), (7, vI z619_), (6, vI z615_), (2, vI z611_), (5, vI z16_), (4, vI z12_), (3, vI v3_4), (0, vR (1, b, w)), (1, vR (29, b2, 0))]) dX1_work_403 (by decide) rfl ?_
                  refine w_goto (tgt := 424) dX1_work_405 (by decide) ?_
                  refine w_aload_n dX1_work_424 rfl 7 rfl ?_
                  refine w_getR (c' := (25, b, w)) fl_RX1_13 rfl rfl (ic_1 hv) dX1_work_425 rfl ?_
                  refine w_iload_n dX1_work_428 rfl 3 rfl ?_
                  refine w_iconst (v := 1) dX1_work_429 (by decide) ?_
                  refine w_isubB dX1_work_430 (rfl : z611_.toInt = z611_.toInt) li_1 (lf_c_X1_work_373 v2_4 z611_ hv2_4 h607_ h612_ ) (fun z711_ h712_ => ?_)
                  refine w_iload dX1_work_431 0 rfl ?_
                  refine w_iast CC_nd rfl rfl (ic_25 hv) (rfl : z711_.toInt = z711_.toInt) (lf_c_X1_work_374 v2_4 z611_ z711_ hv2_4 h607_ h612_ h712_ ) dX1_work_433 (fun j715_ h716_ M713_ hM714_ => ?_)
                  have hI717_ := hI_4.put hM714_ trivial
                  have hF718_ := hF_4.put hM714_ (Or.inl ⟨rfl, rfl, rfl⟩)
                  refine w_iincB (j := 6) (f := fun z719_ => [(3, vI z719_), (8, vI z709_), (7, vI z619_), (6, vI z615_), (2, vI z611_), (5, vI z16_), (4, vI z12_), (0, vR (1, b, w)), (1, vR (29, b2, 0))]) dX1_work_434 rfl (by decide) (fun _ => rfl) (rfl : v3_4.toInt = v3_4.toInt) li_1 (lf_c_X1_work_1 v3_4 hv0_4 h8_ ) (fun z719_ h720_ => ?_)
                  refine w_goto (tgt := 4) dX1_work_437 (by decide) ?_
                  refine w_loc (ls' := [(3, vI z719_), (2, vI z611_), (0, vR (1, b, w)), (1, vR (29, b2, 0))]) [0, 4, 7, 8] rfl ?_
                  exact ih_4 M713_ hI717_ hF718_ z719_ z611_ (lf_c_X5_takeFrom_3 v3_4 z719_ hv0_4 h720_ ) (lf_c_X1_work_381 v2_4 z611_ h607_ h612_ ) (lf_c_X1_work_15 v2_4 z611_ hv2_4 h612_ ) (RCH.tail hL_4 ⟨hv0_4, hv1_4, hv2_4, hI_4, hF_4, z2_, e3_, h4_, h8_, j14_, h15_, z12_, e13_, z16_, h17_, (Or.inr ⟨h18_, (Or.inl ⟨h607_, h608_, h609_, h610_, z611_, h612_, z613_, h614_, j617_, h618_, z615_, e616_, j621_, h622_, z619_, e620_, z623_, h624_, (Or.inr (Or.inr (Or.inr (Or.inr (Or.inr (Or.inl ⟨e625_, (Or.inl ⟨h708_, z709_, h710_, z711_, h712_, j715_, h716_, M713_, hM714_, z719_, h720_, rfl, rfl, rfl⟩)⟩))))))⟩)⟩)⟩) (Nat.lt_of_lt_of_le (lf_c_X1_work_3 v3_4 z719_ h8_ h720_ ) (Nat.le_of_lt_succ hm_4))
                · refine w_iconst (v := 0) dX1_work_394 (by decide) ?_
                  refine w_goto (tgt := 403) dX1_work_395 (by decide) ?_
                  refine w_istore (ls' := [(8, vI 0), (7, vI z619_), (6, vI z615_), (2, vI z611_), (5, vI z16_), (4, vI z12_), (3, vI v3_4), (0, vR (1, b, w)), (1, vR (29, b2, 0))]) dX1_work_403 (by decide) rfl ?_
                  refine w_goto (tgt := 424) dX1_work_405 (by decide) ?_
                  refine w_aload_n dX1_work_424 rfl 7 rfl ?_
                  refine w_getR (c' := (25, b, w)) fl_RX1_13 rfl rfl (ic_1 hv) dX1_work_425 rfl ?_
                  refine w_iload_n dX1_work_428 rfl 3 rfl ?_
                  refine w_iconst (v := 1) dX1_work_429 (by decide) ?_
                  refine w_isubB dX1_work_430 (rfl : z611_.toInt = z611_.toInt) li_1 (lf_c_X1_work_373 v2_4 z611_ hv2_4 h607_ h612_ ) (fun z721_ h722_ => ?_)
                  refine w_iload dX1_work_431 0 rfl ?_
                  refine w_iast CC_nd rfl rfl (ic_25 hv) (rfl : z721_.toInt = z721_.toInt) (lf_c_X1_work_374 v2_4 z611_ z721_ hv2_4 h607_ h612_ h722_ ) dX1_work_433 (fun j725_ h726_ M723_ hM724_ => ?_)
                  have hI727_ := hI_4.put hM724_ trivial
                  have hF728_ := hF_4.put hM724_ (Or.inl ⟨rfl, rfl, rfl⟩)
                  refine w_iincB (j := 6) (f := fun z729_ => [(3, vI z729_), (8, vI 0), (7, vI z619_), (6, vI z615_), (2, vI z611_), (5, vI z16_), (4, vI z12_), (0, vR (1, b, w)), (1, vR (29, b2, 0))]) dX1_work_434 rfl (by decide) (fun _ => rfl) (rfl : v3_4.toInt = v3_4.toInt) li_1 (lf_c_X1_work_1 v3_4 hv0_4 h8_ ) (fun z729_ h730_ => ?_)
                  refine w_goto (tgt := 4) dX1_work_437 (by decide) ?_
                  refine w_loc (ls' := [(3, vI z729_), (2, vI z611_), (0, vR (1, b, w)), (1, vR (29, b2, 0))]) [0, 4, 7, 8] rfl ?_
                  exact ih_4 M723_ hI727_ hF728_ z729_ z611_ (lf_c_X5_takeFrom_3 v3_4 z729_ hv0_4 h730_ ) (lf_c_X1_work_381 v2_4 z611_ h607_ h612_ ) (lf_c_X1_work_15 v2_4 z611_ hv2_4 h612_ ) (RCH.tail hL_4 ⟨hv0_4, hv1_4, hv2_4, hI_4, hF_4, z2_, e3_, h4_, h8_, j14_, h15_, z12_, e13_, z16_, h17_, (Or.inr ⟨h18_, (Or.inl ⟨h607_, h608_, h609_, h610_, z611_, h612_, z613_, h614_, j617_, h618_, z615_, e616_, j621_, h622_, z619_, e620_, z623_, h624_, (Or.inr (Or.inr (Or.inr (Or.inr (Or.inr (Or.inl ⟨e625_, (Or.inr ⟨h708_, z721_, h722_, j725_, h726_, M723_, hM724_, z729_, h730_, rfl, rfl, rfl⟩)⟩))))))⟩)⟩)⟩) (Nat.lt_of_lt_of_le (lf_c_X1_work_3 v3_4 z729_ h8_ h730_ ) (Nat.le_of_lt_succ hm_4))
              · refine w_tsIn (tgt := 408) (off := 200) dX1_work_208 e625_ (by decide) (by decide) rfl (by decide) ?_
                refine w_iload dX1_work_408 1 rfl ?_
                refine w_if_ne (tgt := 417) dX1_work_410 (by decide) (rfl : z619_.toInt = z619_.toInt) (fun h731_ => ?_) (fun h731_ => ?_)
                · refine w_iload dX1_work_417 2 rfl ?_
                  refine w_iload dX1_work_419 1 rfl ?_
                  refine w_irem dX1_work_421 (lf_c_X1_work_391 M_4 b w v3_4 v2_4 z2_ j14_ z12_ z611_ z613_ j617_ z615_ j621_ z619_ hv hv0_4 hv1_4 hv2_4 e3_ h4_ h8_ h15_ e13_ h18_ h607_ h608_ h609_ h610_ h612_ h614_ h618_ e616_ h622_ e620_ h731_ ) (fun z732_ h733_ => ?_)
                  refine w_istore (ls' := [(8, vI z732_), (7, vI z619_), (6, vI z615_), (2, vI z611_), (5, vI z16_), (4, vI z12_), (3, vI v3_4), (0, vR (1, b, w)), (1, vR (29, b2, 0))]) dX1_work_422 (by decide) rfl ?_
                  refine w_aload_n dX1_work_424 rfl 7 rfl ?_
                  refine w_getR (c' := (25, b, w)) fl_RX1_13 rfl rfl (ic_1 hv) dX1_work_425 rfl ?_
                  refine w_iload_n dX1_work_428 rfl 3 rfl ?_
                  refine w_iconst (v := 1) dX1_work_429 (by decide) ?_
                  refine w_isubB dX1_work_430 (rfl : z611_.toInt = z611_.toInt) li_1 (lf_c_X1_work_373 v2_4 z611_ hv2_4 h607_ h612_ ) (fun z734_ h735_ => ?_)
                  refine w_iload dX1_work_431 0 rfl ?_
                  refine w_iast CC_nd rfl rfl (ic_25 hv) (rfl : z734_.toInt = z734_.toInt) (lf_c_X1_work_374 v2_4 z611_ z734_ hv2_4 h607_ h612_ h735_ ) dX1_work_433 (fun j738_ h739_ M736_ hM737_ => ?_)
                  have hI740_ := hI_4.put hM737_ trivial
                  have hF741_ := hF_4.put hM737_ (Or.inl ⟨rfl, rfl, rfl⟩)
                  refine w_iincB (j := 6) (f := fun z742_ => [(3, vI z742_), (8, vI z732_), (7, vI z619_), (6, vI z615_), (2, vI z611_), (5, vI z16_), (4, vI z12_), (0, vR (1, b, w)), (1, vR (29, b2, 0))]) dX1_work_434 rfl (by decide) (fun _ => rfl) (rfl : v3_4.toInt = v3_4.toInt) li_1 (lf_c_X1_work_1 v3_4 hv0_4 h8_ ) (fun z742_ h743_ => ?_)
                  refine w_goto (tgt := 4) dX1_work_437 (by decide) ?_
                  refine w_loc (ls' := [(3, vI z742_), (2, vI z611_), (0, vR (1, b, w)), (1, vR (29, b2, 0))]) [0, 4, 7, 8] rfl ?_
                  exact ih_4 M736_ hI740_ hF741_ z742_ z611_ (lf_c_X5_takeFrom_3 v3_4 z742_ hv0_4 h743_ ) (lf_c_X1_work_381 v2_4 z611_ h607_ h612_ ) (lf_c_X1_work_15 v2_4 z611_ hv2_4 h612_ ) (RCH.tail hL_4 ⟨hv0_4, hv1_4, hv2_4, hI_4, hF_4, z2_, e3_, h4_, h8_, j14_, h15_, z12_, e13_, z16_, h17_, (Or.inr ⟨h18_, (Or.inl ⟨h607_, h608_, h609_, h610_, z611_, h612_, z613_, h614_, j617_, h618_, z615_, e616_, j621_, h622_, z619_, e620_, z623_, h624_, (Or.inr (Or.inr (Or.inr (Or.inr (Or.inr (Or.inr (Or.inl ⟨e625_, (Or.inl ⟨h731_, z732_, h733_, z734_, h735_, j738_, h739_, M736_, hM737_, z742_, h743_, rfl, rfl, rfl⟩)⟩)))))))⟩)⟩)⟩) (Nat.lt_of_lt_of_le (lf_c_X1_work_3 v3_4 z742_ h8_ h743_ ) (Nat.le_of_lt_succ hm_4))
                · refine w_iconst (v := 0) dX1_work_413 (by decide) ?_
                  refine w_goto (tgt := 422) dX1_work_414 (by decide) ?_
                  refine w_istore (ls' := [(8, vI 0), (7, vI z619_), (6, vI z615_), (2, vI z611_), (5, vI z16_), (4, vI z12_), (3, vI v3_4), (0, vR (1, b, w)), (1, vR (29, b2, 0))]) dX1_work_422 (by decide) rfl ?_
                  refine w_aload_n dX1_work_424 rfl 7 rfl ?_
                  refine w_getR (c' := (25, b, w)) fl_RX1_13 rfl rfl (ic_1 hv) dX1_work_425 rfl ?_
                  refine w_iload_n dX1_work_428 rfl 3 rfl ?_
                  refine w_iconst (v := 1) dX1_work_429 (by decide) ?_
                  refine w_isubB dX1_work_430 (rfl : z611_.toInt = z611_.toInt) li_1 (lf_c_X1_work_373 v2_4 z611_ hv2_4 h607_ h612_ ) (fun z744_ h745_ => ?_)
                  refine w_iload dX1_work_431 0 rfl ?_
                  refine w_iast CC_nd rfl rfl (ic_25 hv) (rfl : z744_.toInt = z744_.toInt) (lf_c_X1_work_374 v2_4 z611_ z744_ hv2_4 h607_ h612_ h745_ ) dX1_work_433 (fun j748_ h749_ M746_ hM747_ => ?_)
                  have hI750_ := hI_4.put hM747_ trivial
                  have hF751_ := hF_4.put hM747_ (Or.inl ⟨rfl, rfl, rfl⟩)
                  refine w_iincB (j := 6) (f := fun z752_ => [(3, vI z752_), (8, vI 0), (7, vI z619_), (6, vI z615_), (2, vI z611_), (5, vI z16_), (4, vI z12_), (0, vR (1, b, w)), (1, vR (29, b2, 0))]) dX1_work_434 rfl (by decide) (fun _ => rfl) (rfl : v3_4.toInt = v3_4.toInt) li_1 (lf_c_X1_work_1 v3_4 hv0_4 h8_ ) (fun z752_ h753_ => ?_)
                  refine w_goto (tgt := 4) dX1_work_437 (by decide) ?_
                  refine w_loc (ls' := [(3, vI z752_), (2, vI z611_), (0, vR (1, b, w)), (1, vR (29, b2, 0))]) [0, 4, 7, 8] rfl ?_
                  exact ih_4 M746_ hI750_ hF751_ z752_ z611_ (lf_c_X5_takeFrom_3 v3_4 z752_ hv0_4 h753_ ) (lf_c_X1_work_381 v2_4 z611_ h607_ h612_ ) (lf_c_X1_work_15 v2_4 z611_ hv2_4 h612_ ) (RCH.tail hL_4 ⟨hv0_4, hv1_4, hv2_4, hI_4, hF_4, z2_, e3_, h4_, h8_, j14_, h15_, z12_, e13_, z16_, h17_, (Or.inr ⟨h18_, (Or.inl ⟨h607_, h608_, h609_, h610_, z611_, h612_, z613_, h614_, j617_, h618_, z615_, e616_, j621_, h622_, z619_, e620_, z623_, h624_, (Or.inr (Or.inr (Or.inr (Or.inr (Or.inr (Or.inr (Or.inl ⟨e625_, (Or.inr ⟨h731_, z744_, h745_, j748_, h749_, M746_, hM747_, z752_, h753_, rfl, rfl, rfl⟩)⟩)))))))⟩)⟩)⟩) (Nat.lt_of_lt_of_le (lf_c_X1_work_3 v3_4 z752_ h8_ h753_ ) (Nat.le_of_lt_succ hm_4))
              · refine w_tsIn (tgt := 408) (off := 200) dX1_work_208 e625_ (by decide) (by decide) rfl (by decide) ?_
                refine w_iload dX1_work_408 1 rfl ?_
                refine w_if_ne (tgt := 417) dX1_work_410 (by decide) (rfl : z619_.toInt = z619_.toInt) (fun h754_ => ?_) (fun h754_ => ?_)
                · refine w_iload dX1_work_417 2 rfl ?_
                  refine w_iload dX1_work_419 1 rfl ?_
                  refine w_irem dX1_work_421 (lf_c_X1_work_391 M_4 b w v3_4 v2_4 z2_ j14_ z12_ z611_ z613_ j617_ z615_ j621_ z619_ hv hv0_4 hv1_4 hv2_4 e3_ h4_ h8_ h15_ e13_ h18_ h607_ h608_ h609_ h610_ h612_ h614_ h618_ e616_ h622_ e620_ h754_ ) (fun z755_ h756_ => ?_)
                  refine w_istore (ls' := [(8, vI z755_), (7, vI z619_), (6, vI z615_), (2, vI z611_), (5, vI z16_), (4, vI z12_), (3, vI v3_4), (0, vR (1, b, w)), (1, vR (29, b2, 0))]) dX1_work_422 (by decide) rfl ?_
                  refine w_aload_n dX1_work_424 rfl 7 rfl ?_
                  refine w_getR (c' := (25, b, w)) fl_RX1_13 rfl rfl (ic_1 hv) dX1_work_425 rfl ?_
                  refine w_iload_n dX1_work_428 rfl 3 rfl ?_
                  refine w_iconst (v := 1) dX1_work_429 (by decide) ?_
                  refine w_isubB dX1_work_430 (rfl : z611_.toInt = z611_.toInt) li_1 (lf_c_X1_work_373 v2_4 z611_ hv2_4 h607_ h612_ ) (fun z757_ h758_ => ?_)
                  refine w_iload dX1_work_431 0 rfl ?_
                  refine w_iast CC_nd rfl rfl (ic_25 hv) (rfl : z757_.toInt = z757_.toInt) (lf_c_X1_work_374 v2_4 z611_ z757_ hv2_4 h607_ h612_ h758_ ) dX1_work_433 (fun j761_ h762_ M759_ hM760_ => ?_)
                  have hI763_ := hI_4.put hM760_ trivial
                  have hF764_ := hF_4.put hM760_ (Or.inl ⟨rfl, rfl, rfl⟩)
                  refine w_iincB (j := 6) (f := fun z765_ => [(3, vI z765_), (8, vI z755_), (7, vI z619_), (6, vI z615_), (2, vI z611_), (5, vI z16_), (4, vI z12_), (0, vR (1, b, w)), (1, vR (29, b2, 0))]) dX1_work_434 rfl (by decide) (fun _ => rfl) (rfl : v3_4.toInt = v3_4.toInt) li_1 (lf_c_X1_work_1 v3_4 hv0_4 h8_ ) (fun z765_ h766_ => ?_)
                  refine w_goto (tgt := 4) dX1_work_437 (by decide) ?_
                  refine w_loc (ls' := [(3, vI z765_), (2, vI z611_), (0, vR (1, b, w)), (1, vR (29, b2, 0))]) [0, 4, 7, 8] rfl ?_
                  exact ih_4 M759_ hI763_ hF764_ z765_ z611_ (lf_c_X5_takeFrom_3 v3_4 z765_ hv0_4 h766_ ) (lf_c_X1_work_381 v2_4 z611_ h607_ h612_ ) (lf_c_X1_work_15 v2_4 z611_ hv2_4 h612_ ) (RCH.tail hL_4 ⟨hv0_4, hv1_4, hv2_4, hI_4, hF_4, z2_, e3_, h4_, h8_, j14_, h15_, z12_, e13_, z16_, h17_, (Or.inr ⟨h18_, (Or.inl ⟨h607_, h608_, h609_, h610_, z611_, h612_, z613_, h614_, j617_, h618_, z615_, e616_, j621_, h622_, z619_, e620_, z623_, h624_, (Or.inr (Or.inr (Or.inr (Or.inr (Or.inr (Or.inr (Or.inr (Or.inl ⟨e625_, (Or.inl ⟨h754_, z755_, h756_, z757_, h758_, j761_, h762_, M759_, hM760_, z765_, h766_, rfl, rfl, rfl⟩)⟩))))))))⟩)⟩)⟩) (Nat.lt_of_lt_of_le (lf_c_X1_work_3 v3_4 z765_ h8_ h766_ ) (Nat.le_of_lt_succ hm_4))
                · refine w_iconst (v := 0) dX1_work_413 (by decide) ?_
                  refine w_goto (tgt := 422) dX1_work_414 (by decide) ?_
                  refine w_istore (ls' := [(8, vI 0), (7, vI z619_), (6, vI z615_), (2, vI z611_), (5, vI z16_), (4, vI z12_), (3, vI v3_4), (0, vR (1, b, w)), (1, vR (29, b2, 0))]) dX1_work_422 (by decide) rfl ?_
                  refine w_aload_n dX1_work_424 rfl 7 rfl ?_
                  refine w_getR (c' := (25, b, w)) fl_RX1_13 rfl rfl (ic_1 hv) dX1_work_425 rfl ?_
                  refine w_iload_n dX1_work_428 rfl 3 rfl ?_
                  refine w_iconst (v := 1) dX1_work_429 (by decide) ?_
                  refine w_isubB dX1_work_430 (rfl : z611_.toInt = z611_.toInt) li_1 (lf_c_X1_work_373 v2_4 z611_ hv2_4 h607_ h612_ ) (fun z767_ h768_ => ?_)
                  refine w_iload dX1_work_431 0 rfl ?_
                  refine w_iast CC_nd rfl rfl (ic_25 hv) (rfl : z767_.toInt = z767_.toInt) (lf_c_X1_work_374 v2_4 z611_ z767_ hv2_4 h607_ h612_ h768_ ) dX1_work_433 (fun j771_ h772_ M769_ hM770_ => ?_)
                  have hI773_ := hI_4.put hM770_ trivial
                  have hF774_ := hF_4.put hM770_ (Or.inl ⟨rfl, rfl, rfl⟩)
                  refine w_iincB (j := 6) (f := fun z775_ => [(3, vI z775_), (8, vI 0), (7, vI z619_), (6, vI z615_), (2, vI z611_), (5, vI z16_), (4, vI z12_), (0, vR (1, b, w)), (1, vR (29, b2, 0))]) dX1_work_434 rfl (by decide) (fun _ => rfl) (rfl : v3_4.toInt = v3_4.toInt) li_1 (lf_c_X1_work_1 v3_4 hv0_4 h8_ ) (fun z775_ h776_ => ?_)
                  refine w_goto (tgt := 4) dX1_work_437 (by decide) ?_
                  refine w_loc (ls' := [(3, vI z775_), (2, vI z611_), (0, vR (1, b, w)), (1, vR (29, b2, 0))]) [0, 4, 7, 8] rfl ?_
                  exact ih_4 M769_ hI773_ hF774_ z775_ z611_ (lf_c_X5_takeFrom_3 v3_4 z775_ hv0_4 h776_ ) (lf_c_X1_work_381 v2_4 z611_ h607_ h612_ ) (lf_c_X1_work_15 v2_4 z611_ hv2_4 h612_ ) (RCH.tail hL_4 ⟨hv0_4, hv1_4, hv2_4, hI_4, hF_4, z2_, e3_, h4_, h8_, j14_, h15_, z12_, e13_, z16_, h17_, (Or.inr ⟨h18_, (Or.inl ⟨h607_, h608_, h609_, h610_, z611_, h612_, z613_, h614_, j617_, h618_, z615_, e616_, j621_, h622_, z619_, e620_, z623_, h624_, (Or.inr (Or.inr (Or.inr (Or.inr (Or.inr (Or.inr (Or.inr (Or.inl ⟨e625_, (Or.inr ⟨h754_, z767_, h768_, j771_, h772_, M769_, hM770_, z775_, h776_, rfl, rfl, rfl⟩)⟩))))))))⟩)⟩)⟩) (Nat.lt_of_lt_of_le (lf_c_X1_work_3 v3_4 z775_ h8_ h776_ ) (Nat.le_of_lt_succ hm_4))
              · refine w_tsIn (tgt := 408) (off := 200) dX1_work_208 e625_ (by decide) (by decide) rfl (by decide) ?_
                refine w_iload dX1_work_408 1 rfl ?_
                refine w_if_ne (tgt := 417) dX1_work_410 (by decide) (rfl : z619_.toInt = z619_.toInt) (fun h777_ => ?_) (fun h777_ => ?_)
                · refine w_iload dX1_work_417 2 rfl ?_
                  refine w_iload dX1_work_419 1 rfl ?_
                  refine w_irem dX1_work_421 (lf_c_X1_work_391 M_4 b w v3_4 v2_4 z2_ j14_ z12_ z611_ z613_ j617_ z615_ j621_ z619_ hv hv0_4 hv1_4 hv2_4 e3_ h4_ h8_ h15_ e13_ h18_ h607_ h608_ h609_ h610_ h612_ h614_ h618_ e616_ h622_ e620_ h777_ ) (fun z778_ h779_ => ?_)
                  refine w_istore (ls' := [(8, vI z778_), (7, vI z619_), (6, vI z615_), (2, vI z611_), (5, vI z16_), (4, vI z12_), (3, vI v3_4), (0, vR (1, b, w)), (1, vR (29, b2, 0))]) dX1_work_422 (by decide) rfl ?_
                  refine w_aload_n dX1_work_424 rfl 7 rfl ?_
                  refine w_getR (c' := (25, b, w)) fl_RX1_13 rfl rfl (ic_1 hv) dX1_work_425 rfl ?_
                  refine w_iload_n dX1_work_428 rfl 3 rfl ?_
                  refine w_iconst (v := 1) dX1_work_429 (by decide) ?_
                  refine w_isubB dX1_work_430 (rfl : z611_.toInt = z611_.toInt) li_1 (lf_c_X1_work_373 v2_4 z611_ hv2_4 h607_ h612_ ) (fun z780_ h781_ => ?_)
                  refine w_iload dX1_work_431 0 rfl ?_
                  refine w_iast CC_nd rfl rfl (ic_25 hv) (rfl : z780_.toInt = z780_.toInt) (lf_c_X1_work_374 v2_4 z611_ z780_ hv2_4 h607_ h612_ h781_ ) dX1_work_433 (fun j784_ h785_ M782_ hM783_ => ?_)
                  have hI786_ := hI_4.put hM783_ trivial
                  have hF787_ := hF_4.put hM783_ (Or.inl ⟨rfl, rfl, rfl⟩)
                  refine w_iincB (j := 6) (f := fun z788_ => [(3, vI z788_), (8, vI z778_), (7, vI z619_), (6, vI z615_), (2, vI z611_), (5, vI z16_), (4, vI z12_), (0, vR (1, b, w)), (1, vR (29, b2, 0))]) dX1_work_434 rfl (by decide) (fun _ => rfl) (rfl : v3_4.toInt = v3_4.toInt) li_1 (lf_c_X1_work_1 v3_4 hv0_4 h8_ ) (fun z788_ h789_ => ?_)
                  refine w_goto (tgt := 4) dX1_work_437 (by decide) ?_
                  refine w_loc (ls' := [(3, vI z788_), (2, vI z611_), (0, vR (1, b, w)), (1, vR (29, b2, 0))]) [0, 4, 7, 8] rfl ?_
                  exact ih_4 M782_ hI786_ hF787_ z788_ z611_ (lf_c_X5_takeFrom_3 v3_4 z788_ hv0_4 h789_ ) (lf_c_X1_work_381 v2_4 z611_ h607_ h612_ ) (lf_c_X1_work_15 v2_4 z611_ hv2_4 h612_ ) (RCH.tail hL_4 ⟨hv0_4, hv1_4, hv2_4, hI_4, hF_4, z2_, e3_, h4_, h8_, j14_, h15_, z12_, e13_, z16_, h17_, (Or.inr ⟨h18_, (Or.inl ⟨h607_, h608_, h609_, h610_, z611_, h612_, z613_, h614_, j617_, h618_, z615_, e616_, j621_, h622_, z619_, e620_, z623_, h624_, (Or.inr (Or.inr (Or.inr (Or.inr (Or.inr (Or.inr (Or.inr (Or.inr (Or.inl ⟨e625_, (Or.inl ⟨h777_, z778_, h779_, z780_, h781_, j784_, h785_, M782_, hM783_, z788_, h789_, rfl, rfl, rfl⟩)⟩)))))))))⟩)⟩)⟩) (Nat.lt_of_lt_of_le (lf_c_X1_work_3 v3_4 z788_ h8_ h789_ ) (Nat.le_of_lt_succ hm_4))
                · refine w_iconst (v := 0) dX1_work_413 (by decide) ?_
                  refine w_goto (tgt := 422) dX1_work_414 (by decide) ?_
                  refine w_istore (ls' := [(8, vI 0), (7, vI z619_), (6, vI z615_), (2, vI z611_), (5, vI z16_), (4, vI z12_), (3, vI v3_4), (0, vR (1, b, w)), (1, vR (29, b2, 0))]) dX1_work_422 (by decide) rfl ?_
                  refine w_aload_n dX1_work_424 rfl 7 rfl ?_
                  refine w_getR (c' := (25, b, w)) fl_RX1_13 rfl rfl (ic_1 hv) dX1_work_425 rfl ?_
                  refine w_iload_n dX1_work_428 rfl 3 rfl ?_
                  refine w_iconst (v := 1) dX1_work_429 (by decide) ?_
                  refine w_isubB dX1_work_430 (rfl : z611_.toInt = z611_.toInt) li_1 (lf_c_X1_work_373 v2_4 z611_ hv2_4 h607_ h612_ ) (fun z790_ h791_ => ?_)
                  refine w_iload dX1_work_431 0 rfl ?_
                  refine w_iast CC_nd rfl rfl (ic_25 hv) (rfl : z790_.toInt = z790_.toInt) (lf_c_X1_work_374 v2_4 z611_ z790_ hv2_4 h607_ h612_ h791_ ) dX1_work_433 (fun j794_ h795_ M792_ hM793_ => ?_)
                  have hI796_ := hI_4.put hM793_ trivial
                  have hF797_ := hF_4.put hM793_ (Or.inl ⟨rfl, rfl, rfl⟩)
                  refine w_iincB (j := 6) (f := fun z798_ => [(3, vI z798_), (8, vI 0), (7, vI z619_), (6, vI z615_), (2, vI z611_), (5, vI z16_), (4, vI z12_), (0, vR (1, b, w)), (1, vR (29, b2, 0))]) dX1_work_434 rfl (by decide) (fun _ => rfl) (rfl : v3_4.toInt = v3_4.toInt) li_1 (lf_c_X1_work_1 v3_4 hv0_4 h8_ ) (fun z798_ h799_ => ?_)
                  refine w_goto (tgt := 4) dX1_work_437 (by decide) ?_
                  refine w_loc (ls' := [(3, vI z798_), (2, vI z611_), (0, vR (1, b, w)), (1, vR (29, b2, 0))]) [0, 4, 7, 8] rfl ?_
                  exact ih_4 M792_ hI796_ hF797_ z798_ z611_ (lf_c_X5_takeFrom_3 v3_4 z798_ hv0_4 h799_ ) (lf_c_X1_work_381 v2_4 z611_ h607_ h612_ ) (lf_c_X1_work_15 v2_4 z611_ hv2_4 h612_ ) (RCH.tail hL_4 ⟨hv0_4, hv1_4, hv2_4, hI_4, hF_4, z2_, e3_, h4_, h8_, j14_, h15_, z12_, e13_, z16_, h17_, (Or.inr ⟨h18_, (Or.inl ⟨h607_, h608_, h609_, h610_, z611_, h612_, z613_, h614_, j617_, h618_, z615_, e616_, j621_, h622_, z619_, e620_, z623_, h624_, (Or.inr (Or.inr (Or.inr (Or.inr (Or.inr (Or.inr (Or.inr (Or.inr (Or.inl ⟨e625_, (Or.inr ⟨h777_, z790_, h791_, j794_, h795_, M792_, hM793_, z798_, h799_, rfl, rfl, rfl⟩)⟩)))))))))⟩)⟩)⟩) (Nat.lt_of_lt_of_le (lf_c_X1_work_3 v3_4 z798_ h8_ h799_ ) (Nat.le_of_lt_succ hm_4))
              · refine w_tsIn (tgt := 408) (off := 200) dX1_work_208 e625_ (by decide) (by decide) rfl (by decide) ?_
                refine w_iload dX1_work_408 1 rfl ?_
                refine w_if_ne (tgt := 417) dX1_work_410 (by decide) (rfl : z619_.toInt = z619_.toInt) (fun h800_ => ?_) (fun h800_ => ?_)
                · refine w_iload dX1_work_417 2 rfl ?_
                  refine w_iload dX1_work_419 1 rfl ?_
                  refine w_irem dX1_work_421 (lf_c_X1_work_391 M_4 b w v3_4 v2_4 z2_ j14_ z12_ z611_ z613_ j617_ z615_ j621_ z619_ hv hv0_4 hv1_4 hv2_4 e3_ h4_ h8_ h15_ e13_ h18_ h607_ h608_ h609_ h610_ h612_ h614_ h618_ e616_ h622_ e620_ h800_ ) (fun z801_ h802_ => ?_)
                  refine w_istore (ls' := [(8, vI z801_), (7, vI z619_), (6, vI z615_), (2, vI z611_), (5, vI z16_), (4, vI z12_), (3, vI v3_4), (0, vR (1, b, w)), (1, vR (29, b2, 0))]) dX1_work_422 (by decide) rfl ?_
                  refine w_aload_n dX1_work_424 rfl 7 rfl ?_
                  refine w_getR (c' := (25, b, w)) fl_RX1_13 rfl rfl (ic_1 hv) dX1_work_425 rfl ?_
                  refine w_iload_n dX1_work_428 rfl 3 rfl ?_
                  refine w_iconst (v := 1) dX1_work_429 (by decide) ?_
                  refine w_isubB dX1_work_430 (rfl : z611_.toInt = z611_.toInt) li_1 (lf_c_X1_work_373 v2_4 z611_ hv2_4 h607_ h612_ ) (fun z803_ h804_ => ?_)
                  refine w_iload dX1_work_431 0 rfl ?_
                  refine w_iast CC_nd rfl rfl (ic_25 hv) (rfl : z803_.toInt = z803_.toInt) (lf_c_X1_work_374 v2_4 z611_ z803_ hv2_4 h607_ h612_ h804_ ) dX1_work_433 (fun j807_ h808_ M805_ hM806_ => ?_)
                  have hI809_ := hI_4.put hM806_ trivial
                  have hF810_ := hF_4.put hM806_ (Or.inl ⟨rfl, rfl, rfl⟩)
                  refine w_iincB (j := 6) (f := fun z811_ => [(3, vI z811_), (8, vI z801_), (7, vI z619_), (6, vI z615_), (2, vI z611_), (5, vI z16_), (4, vI z12_), (0, vR (1, b, w)), (1, vR (29, b2, 0))]) dX1_work_434 rfl (by decide) (fun _ => rfl) (rfl : v3_4.toInt = v3_4.toInt) li_1 (lf_c_X1_work_1 v3_4 hv0_4 h8_ ) (fun z811_ h812_ => ?_)
                  refine w_goto (tgt := 4) dX1_work_437 (by decide) ?_
                  refine w_loc (ls' := [(3, vI z811_), (2, vI z611_), (0, vR (1, b, w)), (1, vR (29, b2, 0))]) [0, 4, 7, 8] rfl ?_
                  exact ih_4 M805_ hI809_ hF810_ z811_ z611_ (lf_c_X5_takeFrom_3 v3_4 z811_ hv0_4 h812_ ) (lf_c_X1_work_381 v2_4 z611_ h607_ h612_ ) (lf_c_X1_work_15 v2_4 z611_ hv2_4 h612_ ) (RCH.tail hL_4 ⟨hv0_4, hv1_4, hv2_4, hI_4, hF_4, z2_, e3_, h4_, h8_, j14_, h15_, z12_, e13_, z16_, h17_, (Or.inr ⟨h18_, (Or.inl ⟨h607_, h608_, h609_, h610_, z611_, h612_, z613_, h614_, j617_, h618_, z615_, e616_, j621_, h622_, z619_, e620_, z623_, h624_, (Or.inr (Or.inr (Or.inr (Or.inr (Or.inr (Or.inr (Or.inr (Or.inr (Or.inr (Or.inl ⟨e625_, (Or.inl ⟨h800_, z801_, h802_, z803_, h804_, j807_, h808_, M805_, hM806_, z811_, h812_, rfl, rfl, rfl⟩)⟩))))))))))⟩)⟩)⟩) (Nat.lt_of_lt_of_le (lf_c_X1_work_3 v3_4 z811_ h8_ h812_ ) (Nat.le_of_lt_succ hm_4))
                · refine w_iconst (v := 0) dX1_work_413 (by decide) ?_
                  refine w_goto (tgt := 422) dX1_work_414 (by decide) ?_
                  refine w_istore (ls' := [(8, vI 0), (7, vI z619_), (6, vI z615_), (2, vI z611_), (5, vI z16_), (4, vI z12_), (3, vI v3_4), (0, vR (1, b, w)), (1, vR (29, b2, 0))]) dX1_work_422 (by decide) rfl ?_
                  refine w_aload_n dX1_work_424 rfl 7 rfl ?_
                  refine w_getR (c' := (25, b, w)) fl_RX1_13 rfl rfl (ic_1 hv) dX1_work_425 rfl ?_
                  refine w_iload_n dX1_work_428 rfl 3 rfl ?_
                  refine w_iconst (v := 1) dX1_work_429 (by decide) ?_
                  refine w_isubB dX1_work_430 (rfl : z611_.toInt = z611_.toInt) li_1 (lf_c_X1_work_373 v2_4 z611_ hv2_4 h607_ h612_ ) (fun z813_ h814_ => ?_)
                  refine w_iload dX1_work_431 0 rfl ?_
                  refine w_iast CC_nd rfl rfl (ic_25 hv) (rfl : z813_.toInt = z813_.toInt) (lf_c_X1_work_374 v2_4 z611_ z813_ hv2_4 h607_ h612_ h814_ ) dX1_work_433 (fun j817_ h818_ M815_ hM816_ => ?_)
                  have hI819_ := hI_4.put hM816_ trivial
                  have hF820_ := hF_4.put hM816_ (Or.inl ⟨rfl, rfl, rfl⟩)
                  refine w_iincB (j := 6) (f := fun z821_ => [(3, vI z821_), (8, vI 0), (7, vI z619_), (6, vI z615_), (2, vI z611_), (5, vI z16_), (4, vI z12_), (0, vR (1, b, w)), (1, vR (29, b2, 0))]) dX1_work_434 rfl (by decide) (fun _ => rfl) (rfl : v3_4.toInt = v3_4.toInt) li_1 (lf_c_X1_work_1 v3_4 hv0_4 h8_ ) (fun z821_ h822_ => ?_)
                  refine w_goto (tgt := 4) dX1_work_437 (by decide) ?_
                  refine w_loc (ls' := [(3, vI z821_), (2, vI z611_), (0, vR (1, b, w)), (1, vR (29, b2, 0))]) [0, 4, 7, 8] rfl ?_
                  exact ih_4 M815_ hI819_ hF820_ z821_ z611_ (lf_c_X5_takeFrom_3 v3_4 z821_ hv0_4 h822_ ) (lf_c_X1_work_381 v2_4 z611_ h607_ h612_ ) (lf_c_X1_work_15 v2_4 z611_ hv2_4 h612_ ) (RCH.tail hL_4 ⟨hv0_4, hv1_4, hv2_4, hI_4, hF_4, z2_, e3_, h4_, h8_, j14_, h15_, z12_, e13_, z16_, h17_, (Or.inr ⟨h18_, (Or.inl ⟨h607_, h608_, h609_, h610_, z611_, h612_, z613_, h614_, j617_, h618_, z615_, e616_, j621_, h622_, z619_, e620_, z623_, h624_, (Or.inr (Or.inr (Or.inr (Or.inr (Or.inr (Or.inr (Or.inr (Or.inr (Or.inr (Or.inl ⟨e625_, (Or.inr ⟨h800_, z813_, h814_, j817_, h818_, M815_, hM816_, z821_, h822_, rfl, rfl, rfl⟩)⟩))))))))))⟩)⟩)⟩) (Nat.lt_of_lt_of_le (lf_c_X1_work_3 v3_4 z821_ h8_ h822_ ) (Nat.le_of_lt_succ hm_4))
              · refine w_tsIn (tgt := 408) (off := 200) dX1_work_208 e625_ (by decide) (by decide) rfl (by decide) ?_
                refine w_iload dX1_work_408 1 rfl ?_
                refine w_if_ne (tgt := 417) dX1_work_410 (by decide) (rfl : z619_.toInt = z619_.toInt) (fun h823_ => ?_) (fun h823_ => ?_)
                · refine w_iload dX1_work_417 2 rfl ?_
                  refine w_iload dX1_work_419 1 rfl ?_
                  refine w_irem dX1_work_421 (lf_c_X1_work_391 M_4 b w v3_4 v2_4 z2_ j14_ z12_ z611_ z613_ j617_ z615_ j621_ z619_ hv hv0_4 hv1_4 hv2_4 e3_ h4_ h8_ h15_ e13_ h18_ h607_ h608_ h609_ h610_ h612_ h614_ h618_ e616_ h622_ e620_ h823_ ) (fun z824_ h825_ => ?_)
                  refine w_istore (ls' := [(8, vI z824_), (7, vI z619_), (6, vI z615_), (2, vI z611_), (5, vI z16_), (4, vI z12_), (3, vI v3_4), (0, vR (1, b, w)), (1, vR (29, b2, 0))]) dX1_work_422 (by decide) rfl ?_
                  refine w_aload_n dX1_work_424 rfl 7 rfl ?_
                  refine w_getR (c' := (25, b, w)) fl_RX1_13 rfl rfl (ic_1 hv) dX1_work_425 rfl ?_
                  refine w_iload_n dX1_work_428 rfl 3 rfl ?_
                  refine w_iconst (v := 1) dX1_work_429 (by decide) ?_
                  refine w_isubB dX1_work_430 (rfl : z611_.toInt = z611_.toInt) li_1 (lf_c_X1_work_373 v2_4 z611_ hv2_4 h607_ h612_ ) (fun z826_ h827_ => ?_)
                  refine w_iload dX1_work_431 0 rfl ?_
                  refine w_iast CC_nd rfl rfl (ic_25 hv) (rfl : z826_.toInt = z826_.toInt) (lf_c_X1_work_374 v2_4 z611_ z826_ hv2_4 h607_ h612_ h827_ ) dX1_work_433 (fun j830_ h831_ M828_ hM829_ => ?_)
                  have hI832_ := hI_4.put hM829_ trivial
                  have hF833_ := hF_4.put hM829_ (Or.inl ⟨rfl, rfl, rfl⟩)
                  refine w_iincB (j := 6) (f := fun z834_ => [(3, vI z834_), (8, vI z824_), (7, vI z619_), (6, vI z615_), (2, vI z611_), (5, vI z16_), (4, vI z12_), (0, vR (1, b, w)), (1, vR (29, b2, 0))]) dX1_work_434 rfl (by decide) (fun _ => rfl) (rfl : v3_4.toInt = v3_4.toInt) li_1 (lf_c_X1_work_1 v3_4 hv0_4 h8_ ) (fun z834_ h835_ => ?_)
                  refine w_goto (tgt := 4) dX1_work_437 (by decide) ?_
                  refine w_loc (ls' := [(3, vI z834_), (2, vI z611_), (0, vR (1, b, w)), (1, vR (29, b2, 0))]) [0, 4, 7, 8] rfl ?_
                  exact ih_4 M828_ hI832_ hF833_ z834_ z611_ (lf_c_X5_takeFrom_3 v3_4 z834_ hv0_4 h835_ ) (lf_c_X1_work_381 v2_4 z611_ h607_ h612_ ) (lf_c_X1_work_15 v2_4 z611_ hv2_4 h612_ ) (RCH.tail hL_4 ⟨hv0_4, hv1_4, hv2_4, hI_4, hF_4, z2_, e3_, h4_, h8_, j14_, h15_, z12_, e13_, z16_, h17_, (Or.inr ⟨h18_, (Or.inl ⟨h607_, h608_, h609_, h610_, z611_, h612_, z613_, h614_, j617_, h618_, z615_, e616_, j621_, h622_, z619_, e620_, z623_, h624_, (Or.inr (Or.inr (Or.inr (Or.inr (Or.inr (Or.inr (Or.inr (Or.inr (Or.inr (Or.inr (Or.inl ⟨e625_, (Or.inl ⟨h823_, z824_, h825_, z826_, h827_, j830_, h831_, M828_, hM829_, z834_, h835_, rfl, rfl, rfl⟩)⟩)))))))))))⟩)⟩)⟩) (Nat.lt_of_lt_of_le (lf_c_X1_work_3 v3_4 z834_ h8_ h835_ ) (Nat.le_of_lt_succ hm_4))
                · refine w_iconst (v := 0) dX1_work_413 (by decide) ?_
                  refine w_goto (tgt := 422) dX1_work_414 (by decide) ?_
                  refine w_istore (ls' := [(8, vI 0), (7, vI z619_), (6, vI z615_), (2, vI z611_), (5, vI z16_), (4, vI z12_), (3, vI v3_4), (0, vR (1, b, w)), (1, vR (29, b2, 0))]) dX1_work_422 (by decide) rfl ?_
                  refine w_aload_n dX1_work_424 rfl 7 rfl ?_
                  refine w_getR (c' := (25, b, w)) fl_RX1_13 rfl rfl (ic_1 hv) dX1_work_425 rfl ?_
                  refine w_iload_n dX1_work_428 rfl 3 rfl ?_
                  refine w_iconst (v := 1) dX1_work_429 (by decide) ?_
                  refine w_isubB dX1_work_430 (rfl : z611_.toInt = z611_.toInt) li_1 (lf_c_X1_work_373 v2_4 z611_ hv2_4 h607_ h612_ ) (fun z836_ h837_ => ?_)
                  refine w_iload dX1_work_431 0 rfl ?_
                  refine w_iast CC_nd rfl rfl (ic_25 hv) (rfl : z836_.toInt = z836_.toInt) (lf_c_X1_work_374 v2_4 z611_ z836_ hv2_4 h607_ h612_ h837_ ) dX1_work_433 (fun j840_ h841_ M838_ hM839_ => ?_)
                  have hI842_ := hI_4.put hM839_ trivial
                  have hF843_ := hF_4.put hM839_ (Or.inl ⟨rfl, rfl, rfl⟩)
                  refine w_iincB (j := 6) (f := fun z844_ => [(3, vI z844_), (8, vI 0), (7, vI z619_), (6, vI z615_), (2, vI z611_), (5, vI z16_), (4, vI z12_), (0, vR (1, b, w)), (1, vR (29, b2, 0))]) dX1_work_434 rfl (by decide) (fun _ => rfl) (rfl : v3_4.toInt = v3_4.toInt) li_1 (lf_c_X1_work_1 v3_4 hv0_4 h8_ ) (fun z844_ h845_ => ?_)
                  refine w_goto (tgt := 4) dX1_work_437 (by decide) ?_
                  refine w_loc (ls' := [(3, vI z844_), (2, vI z611_), (0, vR (1, b, w)), (1, vR (29, b2, 0))]) [0, 4, 7, 8] rfl ?_
                  exact ih_4 M838_ hI842_ hF843_ z844_ z611_ (lf_c_X5_takeFrom_3 v3_4 z844_ hv0_4 h845_ ) (lf_c_X1_work_381 v2_4 z611_ h607_ h612_ ) (lf_c_X1_work_15 v2_4 z611_ hv2_4 h612_ ) (RCH.tail hL_4 ⟨hv0_4, hv1_4, hv2_4, hI_4, hF_4, z2_, e3_, h4_, h8_, j14_, h15_, z12_, e13_, z16_, h17_, (Or.inr ⟨h18_, (Or.inl ⟨h607_, h608_, h609_, h610_, z611_, h612_, z613_, h614_, j617_, h618_, z615_, e616_, j621_, h622_, z619_, e620_, z623_, h624_, (Or.inr (Or.inr (Or.inr (Or.inr (Or.inr (Or.inr (Or.inr (Or.inr (Or.inr (Or.inr (Or.inl ⟨e625_, (Or.inr ⟨h823_, z836_, h837_, j840_, h841_, M838_, hM839_, z844_, h845_, rfl, rfl, rfl⟩)⟩)))))))))))⟩)⟩)⟩) (Nat.lt_of_lt_of_le (lf_c_X1_work_3 v3_4 z844_ h8_ h845_ ) (Nat.le_of_lt_succ hm_4))
              · refine w_tsIn (tgt := 408) (off := 200) dX1_work_208 e625_ (by decide) (by decide) rfl (by decide) ?_
                refine w_iload dX1_work_408 1 rfl ?_
                refine w_if_ne (tgt := 417) dX1_work_410 (by decide) (rfl : z619_.toInt = z619_.toInt) (fun h846_ => ?_) (fun h846_ => ?_)
                · refine w_iload dX1_work_417 2 rfl ?_
                  refine w_iload dX1_work_419 1 rfl ?_
                  refine w_irem dX1_work_421 (lf_c_X1_work_391 M_4 b w v3_4 v2_4 z2_ j14_ z12_ z611_ z613_ j617_ z615_ j621_ z619_ hv hv0_4 hv1_4 hv2_4 e3_ h4_ h8_ h15_ e13_ h18_ h607_ h608_ h609_ h610_ h612_ h614_ h618_ e616_ h622_ e620_ h846_ ) (fun z847_ h848_ => ?_)
                  refine w_istore (ls' := [(8, vI z847_), (7, vI z619_), (6, vI z615_), (2, vI z611_), (5, vI z16_), (4, vI z12_), (3, vI v3_4), (0, vR (1, b, w)), (1, vR (29, b2, 0))]) dX1_work_422 (by decide) rfl ?_
                  refine w_aload_n dX1_work_424 rfl 7 rfl ?_
                  refine w_getR (c' := (25, b, w)) fl_RX1_13 rfl rfl (ic_1 hv) dX1_work_425 rfl ?_
                  refine w_iload_n dX1_work_428 rfl 3 rfl ?_
                  refine w_iconst (v := 1) dX1_work_429 (by decide) ?_
                  refine w_isubB dX1_work_430 (rfl : z611_.toInt = z611_.toInt) li_1 (lf_c_X1_work_373 v2_4 z611_ hv2_4 h607_ h612_ ) (fun z849_ h850_ => ?_)
                  refine w_iload dX1_work_431 0 rfl ?_
                  refine w_iast CC_nd rfl rfl (ic_25 hv) (rfl : z849_.toInt = z849_.toInt) (lf_c_X1_work_374 v2_4 z611_ z849_ hv2_4 h607_ h612_ h850_ ) dX1_work_433 (fun j853_ h854_ M851_ hM852_ => ?_)
                  have hI855_ := hI_4.put hM852_ trivial
                  have hF856_ := hF_4.put hM852_ (Or.inl ⟨rfl, rfl, rfl⟩)
                  refine w_iincB (j := 6) (f := fun z857_ => [(3, vI z857_), (8, vI z847_), (7, vI z619_), (6, vI z615_), (2, vI z611_), (5, vI z16_), (4, vI z12_), (0, vR (1, b, w)), (1, vR (29, b2, 0))]) dX1_work_434 rfl (by decide) (fun _ => rfl) (rfl : v3_4.toInt = v3_4.toInt) li_1 (lf_c_X1_work_1 v3_4 hv0_4 h8_ ) (fun z857_ h858_ => ?_)
                  refine w_goto (tgt := 4) dX1_work_437 (by decide) ?_
                  refine w_loc (ls' := [(3, vI z857_), (2, vI z611_), (0, vR (1, b, w)), (1, vR (29, b2, 0))]) [0, 4, 7, 8] rfl ?_
                  exact ih_4 M851_ hI855_ hF856_ z857_ z611_ (lf_c_X5_takeFrom_3 v3_4 z857_ hv0_4 h858_ ) (lf_c_X1_work_381 v2_4 z611_ h607_ h612_ ) (lf_c_X1_work_15 v2_4 z611_ hv2_4 h612_ ) (RCH.tail hL_4 ⟨hv0_4, hv1_4, hv2_4, hI_4, hF_4, z2_, e3_, h4_, h8_, j14_, h15_, z12_, e13_, z16_, h17_, (Or.inr ⟨h18_, (Or.inl ⟨h607_, h608_, h609_, h610_, z611_, h612_, z613_, h614_, j617_, h618_, z615_, e616_, j621_, h622_, z619_, e620_, z623_, h624_, (Or.inr (Or.inr (Or.inr (Or.inr (Or.inr (Or.inr (Or.inr (Or.inr (Or.inr (Or.inr (Or.inr (Or.inl ⟨e625_, (Or.inl ⟨h846_, z847_, h848_, z849_, h850_, j853_, h854_, M851_, hM852_, z857_, h858_, rfl, rfl, rfl⟩)⟩))))))))))))⟩)⟩)⟩) (Nat.lt_of_lt_of_le (lf_c_X1_work_3 v3_4 z857_ h8_ h858_ ) (Nat.le_of_lt_succ hm_4))
                · refine w_iconst (v := 0) dX1_work_413 (by decide) ?_
                  refine w_goto (tgt := 422) dX1_work_414 (by decide) ?_
                  refine w_istore (ls' := [(8, vI 0), (7, vI z619_), (6, vI z615_), (2, vI z611_), (5, vI z16_), (4, vI z12_), (3, vI v3_4), (0, vR (1, b, w)), (1, vR (29, b2, 0))]) dX1_work_422 (by decide) rfl ?_
                  refine w_aload_n dX1_work_424 rfl 7 rfl ?_
                  refine w_getR (c' := (25, b, w)) fl_RX1_13 rfl rfl (ic_1 hv) dX1_work_425 rfl ?_
                  refine w_iload_n dX1_work_428 rfl 3 rfl ?_
                  refine w_iconst (v := 1) dX1_work_429 (by decide) ?_
                  refine w_isubB dX1_work_430 (rfl : z611_.toInt = z611_.toInt) li_1 (lf_c_X1_work_373 v2_4 z611_ hv2_4 h607_ h612_ ) (fun z859_ h860_ => ?_)
                  refine w_iload dX1_work_431 0 rfl ?_
                  refine w_iast CC_nd rfl rfl (ic_25 hv) (rfl : z859_.toInt = z859_.toInt) (lf_c_X1_work_374 v2_4 z611_ z859_ hv2_4 h607_ h612_ h860_ ) dX1_work_433 (fun j863_ h864_ M861_ hM862_ => ?_)
                  have hI865_ := hI_4.put hM862_ trivial
                  have hF866_ := hF_4.put hM862_ (Or.inl ⟨rfl, rfl, rfl⟩)
                  refine w_iincB (j := 6) (f := fun z867_ => [(3, vI z867_), (8, vI 0), (7, vI z619_), (6, vI z615_), (2, vI z611_), (5, vI z16_), (4, vI z12_), (0, vR (1, b, w)), (1, vR (29, b2, 0))]) dX1_work_434 rfl (by decide) (fun _ => rfl) (rfl : v3_4.toInt = v3_4.toInt) li_1 (lf_c_X1_work_1 v3_4 hv0_4 h8_ ) (fun z867_ h868_ => ?_)
                  refine w_goto (tgt := 4) dX1_work_437 (by decide) ?_
                  refine w_loc (ls' := [(3, vI z867_), (2, vI z611_), (0, vR (1, b, w)), (1, vR (29, b2, 0))]) [0, 4, 7, 8] rfl ?_
                  exact ih_4 M861_ hI865_ hF866_ z867_ z611_ (lf_c_X5_takeFrom_3 v3_4 z867_ hv0_4 h868_ ) (lf_c_X1_work_381 v2_4 z611_ h607_ h612_ ) (lf_c_X1_work_15 v2_4 z611_ hv2_4 h612_ ) (RCH.tail hL_4 ⟨hv0_4, hv1_4, hv2_4, hI_4, hF_4, z2_, e3_, h4_, h8_, j14_, h15_, z12_, e13_, z16_, h17_, (Or.inr ⟨h18_, (Or.inl ⟨h607_, h608_, h609_, h610_, z611_, h612_, z613_, h614_, j617_, h618_, z615_, e616_, j621_, h622_, z619_, e620_, z623_, h624_, (Or.inr (Or.inr (Or.inr (Or.inr (Or.inr (Or.inr (Or.inr (Or.inr (Or.inr (Or.inr (Or.inr (Or.inl ⟨e625_, (Or.inr ⟨h846_, z859_, h860_, j863_, h864_, M861_, hM862_, z867_, h868_, rfl, rfl, rfl⟩)⟩))))))))))))⟩)⟩)⟩) (Nat.lt_of_lt_of_le (lf_c_X1_work_3 v3_4 z867_ h8_ h868_ ) (Nat.le_of_lt_succ hm_4))
              · refine w_tsIn (tgt := 408) (off := 200) dX1_work_208 e625_ (by decide) (by decide) rfl (by decide) ?_
                refine w_iload dX1_work_408 1 rfl ?_
                refine w_if_ne (tgt := 417) dX1_work_410 (by decide) (rfl : z619_.toInt = z619_.toInt) (fun h869_ => ?_) (fun h869_ => ?_)
                · refine w_iload dX1_work_417 2 rfl ?_
                  refine w_iload dX1_work_419 1 rfl ?_
                  refine w_irem dX1_work_421 (lf_c_X1_work_391 M_4 b w v3_4 v2_4 z2_ j14_ z12_ z611_ z613_ j617_ z615_ j621_ z619_ hv hv0_4 hv1_4 hv2_4 e3_ h4_ h8_ h15_ e13_ h18_ h607_ h608_ h609_ h610_ h612_ h614_ h618_ e616_ h622_ e620_ h869_ ) (fun z870_ h871_ => ?_)
                  refine w_istore (ls' := [(8, vI z870_), (7, vI z619_), (6, vI z615_), (2, vI z611_), (5, vI z16_), (4, vI z12_), (3, vI v3_4), (0, vR (1, b, w)), (1, vR (29, b2, 0))]) dX1_work_422 (by decide) rfl ?_
                  refine w_aload_n dX1_work_424 rfl 7 rfl ?_
                  refine w_getR (c' := (25, b, w)) fl_RX1_13 rfl rfl (ic_1 hv) dX1_work_425 rfl ?_
                  refine w_iload_n dX1_work_428 rfl 3 rfl ?_
                  refine w_iconst (v := 1) dX1_work_429 (by decide) ?_
                  refine w_isubB dX1_work_430 (rfl : z611_.toInt = z611_.toInt) li_1 (lf_c_X1_work_373 v2_4 z611_ hv2_4 h607_ h612_ ) (fun z872_ h873_ => ?_)
                  refine w_iload dX1_work_431 0 rfl ?_
                  refine w_iast CC_nd rfl rfl (ic_25 hv) (rfl : z872_.toInt = z872_.toInt) (lf_c_X1_work_374 v2_4 z611_ z872_ hv2_4 h607_ h612_ h873_ ) dX1_work_433 (fun j876_ h877_ M874_ hM875_ => ?_)
                  have hI878_ := hI_4.put hM875_ trivial
                  have hF879_ := hF_4.put hM875_ (Or.inl ⟨rfl, rfl, rfl⟩)
                  refine w_iincB (j := 6) (f := fun z880_ => [(3, vI z880_), (8, vI z870_), (7, vI z619_), (6, vI z615_), (2, vI z611_), (5, vI z16_), (4, vI z12_), (0, vR (1, b, w)), (1, vR (29, b2, 0))]) dX1_work_434 rfl (by decide) (fun _ => rfl) (rfl : v3_4.toInt = v3_4.toInt) li_1 (lf_c_X1_work_1 v3_4 hv0_4 h8_ ) (fun z880_ h881_ => ?_)
                  refine w_goto (tgt := 4) dX1_work_437 (by decide) ?_
                  refine w_loc (ls' := [(3, vI z880_), (2, vI z611_), (0, vR (1, b, w)), (1, vR (29, b2, 0))]) [0, 4, 7, 8] rfl ?_
                  exact ih_4 M874_ hI878_ hF879_ z880_ z611_ (lf_c_X5_takeFrom_3 v3_4 z880_ hv0_4 h881_ ) (lf_c_X1_work_381 v2_4 z611_ h607_ h612_ ) (lf_c_X1_work_15 v2_4 z611_ hv2_4 h612_ ) (RCH.tail hL_4 ⟨hv0_4, hv1_4, hv2_4, hI_4, hF_4, z2_, e3_, h4_, h8_, j14_, h15_, z12_, e13_, z16_, h17_, (Or.inr ⟨h18_, (Or.inl ⟨h607_, h608_, h609_, h610_, z611_, h612_, z613_, h614_, j617_, h618_, z615_, e616_, j621_, h622_, z619_, e620_, z623_, h624_, (Or.inr (Or.inr (Or.inr (Or.inr (Or.inr (Or.inr (Or.inr (Or.inr (Or.inr (Or.inr (Or.inr (Or.inr (Or.inl ⟨e625_, (Or.inl ⟨h869_, z870_, h871_, z872_, h873_, j876_, h877_, M874_, hM875_, z880_, h881_, rfl, rfl, rfl⟩)⟩)))))))))))))⟩)⟩)⟩) (Nat.lt_of_lt_of_le (lf_c_X1_work_3 v3_4 z880_ h8_ h881_ ) (Nat.le_of_lt_succ hm_4))
                · refine w_iconst (v := 0) dX1_work_413 (by decide) ?_
                  refine w_goto (tgt := 422) dX1_work_414 (by decide) ?_
                  refine w_istore (ls' := [(8, vI 0), (7, vI z619_), (6, vI z615_), (2, vI z611_), (5, vI z16_), (4, vI z12_), (3, vI v3_4), (0, vR (1, b, w)), (1, vR (29, b2, 0))]) dX1_work_422 (by decide) rfl ?_
                  refine w_aload_n dX1_work_424 rfl 7 rfl ?_
                  refine w_getR (c' := (25, b, w)) fl_RX1_13 rfl rfl (ic_1 hv) dX1_work_425 rfl ?_
                  refine w_iload_n dX1_work_428 rfl 3 rfl ?_
                  refine w_iconst (v := 1) dX1_work_429 (by decide) ?_
                  refine w_isubB dX1_work_430 (rfl : z611_.toInt = z611_.toInt) li_1 (lf_c_X1_work_373 v2_4 z611_ hv2_4 h607_ h612_ ) (fun z882_ h883_ => ?_)
                  refine w_iload dX1_work_431 0 rfl ?_
                  refine w_iast CC_nd rfl rfl (ic_25 hv) (rfl : z882_.toInt = z882_.toInt) (lf_c_X1_work_374 v2_4 z611_ z882_ hv2_4 h607_ h612_ h883_ ) dX1_work_433 (fun j886_ h887_ M884_ hM885_ => ?_)
                  have hI888_ := hI_4.put hM885_ trivial
                  have hF889_ := hF_4.put hM885_ (Or.inl ⟨rfl, rfl, rfl⟩)
                  refine w_iincB (j := 6) (f := fun z890_ => [(3, vI z890_), (8, vI 0), (7, vI z619_), (6, vI z615_), (2, vI z611_), (5, vI z16_), (4, vI z12_), (0, vR (1, b, w)), (1, vR (29, b2, 0))]) dX1_work_434 rfl (by decide) (fun _ => rfl) (rfl : v3_4.toInt = v3_4.toInt) li_1 (lf_c_X1_work_1 v3_4 hv0_4 h8_ ) (fun z890_ h891_ => ?_)
                  refine w_goto (tgt := 4) dX1_work_437 (by decide) ?_
                  refine w_loc (ls' := [(3, vI z890_), (2, vI z611_), (0, vR (1, b, w)), (1, vR (29, b2, 0))]) [0, 4, 7, 8] rfl ?_
                  exact ih_4 M884_ hI888_ hF889_ z890_ z611_ (lf_c_X5_takeFrom_3 v3_4 z890_ hv0_4 h891_ ) (lf_c_X1_work_381 v2_4 z611_ h607_ h612_ ) (lf_c_X1_work_15 v2_4 z611_ hv2_4 h612_ ) (RCH.tail hL_4 ⟨hv0_4, hv1_4, hv2_4, hI_4, hF_4, z2_, e3_, h4_, h8_, j14_, h15_, z12_, e13_, z16_, h17_, (Or.inr ⟨h18_, (Or.inl ⟨h607_, h608_, h609_, h610_, z611_, h612_, z613_, h614_, j617_, h618_, z615_, e616_, j621_, h622_, z619_, e620_, z623_, h624_, (Or.inr (Or.inr (Or.inr (Or.inr (Or.inr (Or.inr (Or.inr (Or.inr (Or.inr (Or.inr (Or.inr (Or.inr (Or.inl ⟨e625_, (Or.inr ⟨h869_, z882_, h883_, j886_, h887_, M884_, hM885_, z890_, h891_, rfl, rfl, rfl⟩)⟩)))))))))))))⟩)⟩)⟩) (Nat.lt_of_lt_of_le (lf_c_X1_work_3 v3_4 z890_ h8_ h891_ ) (Nat.le_of_lt_succ hm_4))
              · refine w_tsIn (tgt := 408) (off := 200) dX1_work_208 e625_ (by decide) (by decide) rfl (by decide) ?_
                refine w_iload dX1_work_408 1 rfl ?_
                refine w_if_ne (tgt := 417) dX1_work_410 (by decide) (rfl : z619_.toInt = z619_.toInt) (fun h892_ => ?_) (fun h892_ => ?_)
                · refine w_iload dX1_work_417 2 rfl ?_
                  refine w_iload dX1_work_419 1 rfl ?_
                  refine w_irem dX1_work_421 (lf_c_X1_work_391 M_4 b w v3_4 v2_4 z2_ j14_ z12_ z611_ z613_ j617_ z615_ j621_ z619_ hv hv0_4 hv1_4 hv2_4 e3_ h4_ h8_ h15_ e13_ h18_ h607_ h608_ h609_ h610_ h612_ h614_ h618_ e616_ h622_ e620_ h892_ ) (fun z893_ h894_ => ?_)
                  refine w_istore (ls' := [(8, vI z893_), (7, vI z619_), (6, vI z615_), (2, vI z611_), (5, vI z16_), (4, vI z12_), (3, vI v3_4), (0, vR (1, b, w)), (1, vR (29, b2, 0))]) dX1_work_422 (by decide) rfl ?_
                  refine w_aload_n dX1_work_424 rfl 7 rfl ?_
                  refine w_getR (c' := (25, b, w)) fl_RX1_13 rfl rfl (ic_1 hv) dX1_work_425 rfl ?_
                  refine w_iload_n dX1_work_428 rfl 3 rfl ?_
                  refine w_iconst (v := 1) dX1_work_429 (by decide) ?_
                  refine w_isubB dX1_work_430 (rfl : z611_.toInt = z611_.toInt) li_1 (lf_c_X1_work_373 v2_4 z611_ hv2_4 h607_ h612_ ) (fun z895_ h896_ => ?_)
                  refine w_iload dX1_work_431 0 rfl ?_
                  refine w_iast CC_nd rfl rfl (ic_25 hv) (rfl : z895_.toInt = z895_.toInt) (lf_c_X1_work_374 v2_4 z611_ z895_ hv2_4 h607_ h612_ h896_ ) dX1_work_433 (fun j899_ h900_ M897_ hM898_ => ?_)
                  have hI901_ := hI_4.put hM898_ trivial
                  have hF902_ := hF_4.put hM898_ (Or.inl ⟨rfl, rfl, rfl⟩)
                  refine w_iincB (j := 6) (f := fun z903_ => [(3, vI z903_), (8, vI z893_), (7, vI z619_), (6, vI z615_), (2, vI z611_), (5, vI z16_), (4, vI z12_), (0, vR (1, b, w)), (1, vR (29, b2, 0))]) dX1_work_434 rfl (by decide) (fun _ => rfl) (rfl : v3_4.toInt = v3_4.toInt) li_1 (lf_c_X1_work_1 v3_4 hv0_4 h8_ ) (fun z903_ h904_ => ?_)
                  refine w_goto (tgt := 4) dX1_work_437 (by decide) ?_
                  refine w_loc (ls' := [(3, vI z903_), (2, vI z611_), (0, vR (1, b, w)), (1, vR (29, b2, 0))]) [0, 4, 7, 8] rfl ?_
                  exact ih_4 M897_ hI901_ hF902_ z903_ z611_ (lf_c_X5_takeFrom_3 v3_4 z903_ hv0_4 h904_ ) (lf_c_X1_work_381 v2_4 z611_ h607_ h612_ ) (lf_c_X1_work_15 v2_4 z611_ hv2_4 h612_ ) (RCH.tail hL_4 ⟨hv0_4, hv1_4, hv2_4, hI_4, hF_4, z2_, e3_, h4_, h8_, j14_, h15_, z12_, e13_, z16_, h17_, (Or.inr ⟨h18_, (Or.inl ⟨h607_, h608_, h609_, h610_, z611_, h612_, z613_, h614_, j617_, h618_, z615_, e616_, j621_, h622_, z619_, e620_, z623_, h624_, (Or.inr (Or.inr (Or.inr (Or.inr (Or.inr (Or.inr (Or.inr (Or.inr (Or.inr (Or.inr (Or.inr (Or.inr (Or.inr (Or.inl ⟨e625_, (Or.inl ⟨h892_, z893_, h894_, z895_, h896_, j899_, h900_, M897_, hM898_, z903_, h904_, rfl, rfl, rfl⟩)⟩))))))))))))))⟩)⟩)⟩) (Nat.lt_of_lt_of_le (lf_c_X1_work_3 v3_4 z903_ h8_ h904_ ) (Nat.le_of_lt_succ hm_4))
                · refine w_iconst (v := 0) dX1_work_413 (by decide) ?_
                  refine w_goto (tgt := 422) dX1_work_414 (by decide) ?_
                  refine w_istore (ls' := [(8, vI 0), (7, vI z619_), (6, vI z615_), (2, vI z611_), (5, vI z16_), (4, vI z12_), (3, vI v3_4), (0, vR (1, b, w)), (1, vR (29, b2, 0))]) dX1_work_422 (by decide) rfl ?_
                  refine w_aload_n dX1_work_424 rfl 7 rfl ?_
                  refine w_getR (c' := (25, b, w)) fl_RX1_13 rfl rfl (ic_1 hv) dX1_work_425 rfl ?_
                  refine w_iload_n dX1_work_428 rfl 3 rfl ?_
                  refine w_iconst (v := 1) dX1_work_429 (by decide) ?_
                  refine w_isubB dX1_work_430 (rfl : z611_.toInt = z611_.toInt) li_1 (lf_c_X1_work_373 v2_4 z611_ hv2_4 h607_ h612_ ) (fun z905_ h906_ => ?_)
                  refine w_iload dX1_work_431 0 rfl ?_
                  refine w_iast CC_nd rfl rfl (ic_25 hv) (rfl : z905_.toInt = z905_.toInt) (lf_c_X1_work_374 v2_4 z611_ z905_ hv2_4 h607_ h612_ h906_ ) dX1_work_433 (fun j909_ h910_ M907_ hM908_ => ?_)
                  have hI911_ := hI_4.put hM908_ trivial
                  have hF912_ := hF_4.put hM908_ (Or.inl ⟨rfl, rfl, rfl⟩)
                  refine w_iincB (j := 6) (f := fun z913_ => [(3, vI z913_), (8, vI 0), (7, vI z619_), (6, vI z615_), (2, vI z611_), (5, vI z16_), (4, vI z12_), (0, vR (1, b, w)), (1, vR (29, b2, 0))]) dX1_work_434 rfl (by decide) (fun _ => rfl) (rfl : v3_4.toInt = v3_4.toInt) li_1 (lf_c_X1_work_1 v3_4 hv0_4 h8_ ) (fun z913_ h914_ => ?_)
                  refine w_goto (tgt := 4) dX1_work_437 (by decide) ?_
                  refine w_loc (ls' := [(3, vI z913_), (2, vI z611_), (0, vR (1, b, w)), (1, vR (29, b2, 0))]) [0, 4, 7, 8] rfl ?_
                  exact ih_4 M907_ hI911_ hF912_ z913_ z611_ (lf_c_X5_takeFrom_3 v3_4 z913_ hv0_4 h914_ ) (lf_c_X1_work_381 v2_4 z611_ h607_ h612_ ) (lf_c_X1_work_15 v2_4 z611_ hv2_4 h612_ ) (RCH.tail hL_4 ⟨hv0_4, hv1_4, hv2_4, hI_4, hF_4, z2_, e3_, h4_, h8_, j14_, h15_, z12_, e13_, z16_, h17_, (Or.inr ⟨h18_, (Or.inl ⟨h607_, h608_, h609_, h610_, z611_, h612_, z613_, h614_, j617_, h618_, z615_, e616_, j621_, h622_, z619_, e620_, z623_, h624_, (Or.inr (Or.inr (Or.inr (Or.inr (Or.inr (Or.inr (Or.inr (Or.inr (Or.inr (Or.inr (Or.inr (Or.inr (Or.inr (Or.inl ⟨e625_, (Or.inr ⟨h892_, z905_, h906_, j909_, h910_, M907_, hM908_, z913_, h914_, rfl, rfl, rfl⟩)⟩))))))))))))))⟩)⟩)⟩) (Nat.lt_of_lt_of_le (lf_c_X1_work_3 v3_4 z913_ h8_ h914_ ) (Nat.le_of_lt_succ hm_4))
              · refine w_tsIn (tgt := 408) (off := 200) dX1_work_208 e625_ (by decide) (by decide) rfl (by decide) ?_
                refine w_iload dX1_work_408 1 rfl ?_
                refine w_if_ne (tgt := 417) dX1_work_410 (by decide) (rfl : z619_.toInt = z619_.toInt) (fun h915_ => ?_) (fun h915_ => ?_)
                · refine w_iload dX1_work_417 2 rfl ?_
                  refine w_iload dX1_work_419 1 rfl ?_
                  refine w_irem dX1_work_421 (lf_c_X1_work_391 M_4 b w v3_4 v2_4 z2_ j14_ z12_ z611_ z613_ j617_ z615_ j621_ z619_ hv hv0_4 hv1_4 hv2_4 e3_ h4_ h8_ h15_ e13_ h18_ h607_ h608_ h609_ h610_ h612_ h614_ h618_ e616_ h622_ e620_ h915_ ) (fun z916_ h917_ => ?_)
                  refine w_istore (ls' := [(8, vI z916_), (7, vI z619_), (6, vI z615_), (2, vI z611_), (5, vI z16_), (4, vI z12_), (3, vI v3_4), (0, vR (1, b, w)), (1, vR (29, b2, 0))]) dX1_work_422 (by decide) rfl ?_
                  refine w_aload_n dX1_work_424 rfl 7 rfl ?_
                  refine w_getR (c' := (25, b, w)) fl_RX1_13 rfl rfl (ic_1 hv) dX1_work_425 rfl ?_
                  refine w_iload_n dX1_work_428 rfl 3 rfl ?_
                  refine w_iconst (v := 1) dX1_work_429 (by decide) ?_
                  refine w_isubB dX1_work_430 (rfl : z611_.toInt = z611_.toInt) li_1 (lf_c_X1_work_373 v2_4 z611_ hv2_4 h607_ h612_ ) (fun z918_ h919_ => ?_)
                  refine w_iload dX1_work_431 0 rfl ?_
                  refine w_iast CC_nd rfl rfl (ic_25 hv) (rfl : z918_.toInt = z918_.toInt) (lf_c_X1_work_374 v2_4 z611_ z918_ hv2_4 h607_ h612_ h919_ ) dX1_work_433 (fun j922_ h923_ M920_ hM921_ => ?_)
                  have hI924_ := hI_4.put hM921_ trivial
                  have hF925_ := hF_4.put hM921_ (Or.inl ⟨rfl, rfl, rfl⟩)
                  refine w_iincB (j := 6) (f := fun z926_ => [(3, vI z926_), (8, vI z916_), (7, vI z619_), (6, vI z615_), (2, vI z611_), (5, vI z16_), (4, vI z12_), (0, vR (1, b, w)), (1, vR (29, b2, 0))]) dX1_work_434 rfl (by decide) (fun _ => rfl) (rfl : v3_4.toInt = v3_4.toInt) li_1 (lf_c_X1_work_1 v3_4 hv0_4 h8_ ) (fun z926_ h927_ => ?_)
                  refine w_goto (tgt := 4) dX1_work_437 (by decide) ?_
                  refine w_loc (ls' := [(3, vI z926_), (2, vI z611_), (0, vR (1, b, w)), (1, vR (29, b2, 0))]) [0, 4, 7, 8] rfl ?_
                  exact ih_4 M920_ hI924_ hF925_ z926_ z611_ (lf_c_X5_takeFrom_3 v3_4 z926_ hv0_4 h927_ ) (lf_c_X1_work_381 v2_4 z611_ h607_ h612_ ) (lf_c_X1_work_15 v2_4 z611_ hv2_4 h612_ ) (RCH.tail hL_4 ⟨hv0_4, hv1_4, hv2_4, hI_4, hF_4, z2_, e3_, h4_, h8_, j14_, h15_, z12_, e13_, z16_, h17_, (Or.inr ⟨h18_, (Or.inl ⟨h607_, h608_, h609_, h610_, z611_, h612_, z613_, h614_, j617_, h618_, z615_, e616_, j621_, h622_, z619_, e620_, z623_, h624_, (Or.inr (Or.inr (Or.inr (Or.inr (Or.inr (Or.inr (Or.inr (Or.inr (Or.inr (Or.inr (Or.inr (Or.inr (Or.inr (Or.inr (Or.inl ⟨e625_, (Or.inl ⟨h915_, z916_, h917_, z918_, h919_, j922_, h923_, M920_, hM921_, z926_, h927_, rfl, rfl, rfl⟩)⟩)))))))))))))))⟩)⟩)⟩) (Nat.lt_of_lt_of_le (lf_c_X1_work_3 v3_4 z926_ h8_ h927_ ) (Nat.le_of_lt_succ hm_4))
                · refine w_iconst (v := 0) dX1_work_413 (by decide) ?_
                  refine w_goto (tgt := 422) dX1_work_414 (by decide) ?_
                  refine w_istore (ls' := [(8, vI 0), (7, vI z619_), (6, vI z615_), (2, vI z611_), (5, vI z16_), (4, vI z12_), (3, vI v3_4), (0, vR (1, b, w)), (1, vR (29, b2, 0))]) dX1_work_422 (by decide) rfl ?_
                  refine w_aload_n dX1_work_424 rfl 7 rfl ?_
                  refine w_getR (c' := (25, b, w)) fl_RX1_13 rfl rfl (ic_1 hv) dX1_work_425 rfl ?_
                  refine w_iload_n dX1_work_428 rfl 3 rfl ?_
                  refine w_iconst (v := 1) dX1_work_429 (by decide) ?_
                  refine w_isubB dX1_work_430 (rfl : z611_.toInt = z611_.toInt) li_1 (lf_c_X1_work_373 v2_4 z611_ hv2_4 h607_ h612_ ) (fun z928_ h929_ => ?_)
                  refine w_iload dX1_work_431 0 rfl ?_
                  refine w_iast CC_nd rfl rfl (ic_25 hv) (rfl : z928_.toInt = z928_.toInt) (lf_c_X1_work_374 v2_4 z611_ z928_ hv2_4 h607_ h612_ h929_ ) dX1_work_433 (fun j932_ h933_ M930_ hM931_ => ?_)
                  have hI934_ := hI_4.put hM931_ trivial
                  have hF935_ := hF_4.put hM931_ (Or.inl ⟨rfl, rfl, rfl⟩)
                  refine w_iincB (j := 6) (f := fun z936_ => [(3, vI z936_), (8, vI 0), (7, vI z619_), (6, vI z615_), (2, vI z611_), (5, vI z16_), (4, vI z12_), (0, vR (1, b, w)), (1, vR (29, b2, 0))]) dX1_work_434 rfl (by decide) (fun _ => rfl) (rfl : v3_4.toInt = v3_4.toInt) li_1 (lf_c_X1_work_1 v3_4 hv0_4 h8_ ) (fun z936_ h937_ => ?_)
                  refine w_goto (tgt := 4) dX1_work_437 (by decide) ?_
                  refine w_loc (ls' := [(3, vI z936_), (2, vI z611_), (0, vR (1, b, w)), (1, vR (29, b2, 0))]) [0, 4, 7, 8] rfl ?_
                  exact ih_4 M930_ hI934_ hF935_ z936_ z611_ (lf_c_X5_takeFrom_3 v3_4 z936_ hv0_4 h937_ ) (lf_c_X1_work_381 v2_4 z611_ h607_ h612_ ) (lf_c_X1_work_15 v2_4 z611_ hv2_4 h612_ ) (RCH.tail hL_4 ⟨hv0_4, hv1_4, hv2_4, hI_4, hF_4, z2_, e3_, h4_, h8_, j14_, h15_, z12_, e13_, z16_, h17_, (Or.inr ⟨h18_, (Or.inl ⟨h607_, h608_, h609_, h610_, z611_, h612_, z613_, h614_, j617_, h618_, z615_, e616_, j621_, h622_, z619_, e620_, z623_, h624_, (Or.inr (Or.inr (Or.inr (Or.inr (Or.inr (Or.inr (Or.inr (Or.inr (Or.inr (Or.inr (Or.inr (Or.inr (Or.inr (Or.inr (Or.inl ⟨e625_, (Or.inr ⟨h915_, z928_, h929_, j932_, h933_, M930_, hM931_, z936_, h937_, rfl, rfl, rfl⟩)⟩)))))))))))))))⟩)⟩)⟩) (Nat.lt_of_lt_of_le (lf_c_X1_work_3 v3_4 z936_ h8_ h937_ ) (Nat.le_of_lt_succ hm_4))
              · refine w_tsIn (tgt := 408) (off := 200) dX1_work_208 e625_ (by decide) (by decide) rfl (by decide) ?_
                refine w_iload dX1_work_408 1 rfl ?_
                refine w_if_ne (tgt := 417) dX1_work_410 (by decide) (rfl : z619_.toInt = z619_.toInt) (fun h938_ => ?_) (fun h938_ => ?_)
                · refine w_iload dX1_work_417 2 rfl ?_
                  refine w_iload dX1_work_419 1 rfl ?_
                  refine w_irem dX1_work_421 (lf_c_X1_work_391 M_4 b w v3_4 v2_4 z2_ j14_ z12_ z611_ z613_ j617_ z615_ j621_ z619_ hv hv0_4 hv1_4 hv2_4 e3_ h4_ h8_ h15_ e13_ h18_ h607_ h608_ h609_ h610_ h612_ h614_ h618_ e616_ h622_ e620_ h938_ ) (fun z939_ h940_ => ?_)
                  refine w_istore (ls' := [(8, vI z939_), (7, vI z619_), (6, vI z615_), (2, vI z611_), (5, vI z16_), (4, vI z12_), (3, vI v3_4), (0, vR (1, b, w)), (1, vR (29, b2, 0))]) dX1_work_422 (by decide) rfl ?_
                  refine w_aload_n dX1_work_424 rfl 7 rfl ?_
                  refine w_getR (c' := (25, b, w)) fl_RX1_13 rfl rfl (ic_1 hv) dX1_work_425 rfl ?_
                  refine w_iload_n dX1_work_428 rfl 3 rfl ?_
                  refine w_iconst (v := 1) dX1_work_429 (by decide) ?_
                  refine w_isubB dX1_work_430 (rfl : z611_.toInt = z611_.toInt) li_1 (lf_c_X1_work_373 v2_4 z611_ hv2_4 h607_ h612_ ) (fun z941_ h942_ => ?_)
                  refine w_iload dX1_work_431 0 rfl ?_
                  refine w_iast CC_nd rfl rfl (ic_25 hv) (rfl : z941_.toInt = z941_.toInt) (lf_c_X1_work_374 v2_4 z611_ z941_ hv2_4 h607_ h612_ h942_ ) dX1_work_433 (fun j945_ h946_ M943_ hM944_ => ?_)
                  have hI947_ := hI_4.put hM944_ trivial
                  have hF948_ := hF_4.put hM944_ (Or.inl ⟨rfl, rfl, rfl⟩)
                  refine w_iincB (j := 6) (f := fun z949_ => [(3, vI z949_), (8, vI z939_), (7, vI z619_), (6, vI z615_), (2, vI z611_), (5, vI z16_), (4, vI z12_), (0, vR (1, b, w)), (1, vR (29, b2, 0))]) dX1_work_434 rfl (by decide) (fun _ => rfl) (rfl : v3_4.toInt = v3_4.toInt) li_1 (lf_c_X1_work_1 v3_4 hv0_4 h8_ ) (fun z949_ h950_ => ?_)
                  refine w_goto (tgt := 4) dX1_work_437 (by decide) ?_
                  refine w_loc (ls' := [(3, vI z949_), (2, vI z611_), (0, vR (1, b, w)), (1, vR (29, b2, 0))]) [0, 4, 7, 8] rfl ?_
                  exact ih_4 M943_ hI947_ hF948_ z949_ z611_ (lf_c_X5_takeFrom_3 v3_4 z949_ hv0_4 h950_ ) (lf_c_X1_work_381 v2_4 z611_ h607_ h612_ ) (lf_c_X1_work_15 v2_4 z611_ hv2_4 h612_ ) (RCH.tail hL_4 ⟨hv0_4, hv1_4, hv2_4, hI_4, hF_4, z2_, e3_, h4_, h8_, j14_, h15_, z12_, e13_, z16_, h17_, (Or.inr ⟨h18_, (Or.inl ⟨h607_, h608_, h609_, h610_, z611_, h612_, z613_, h614_, j617_, h618_, z615_, e616_, j621_, h622_, z619_, e620_, z623_, h624_, (Or.inr (Or.inr (Or.inr (Or.inr (Or.inr (Or.inr (Or.inr (Or.inr (Or.inr (Or.inr (Or.inr (Or.inr (Or.inr (Or.inr (Or.inr (Or.inl ⟨e625_, (Or.inl ⟨h938_, z939_, h940_, z941_, h942_, j945_, h946_, M943_, hM944_, z949_, h950_, rfl, rfl, rfl⟩)⟩))))))))))))))))⟩)⟩)⟩) (Nat.lt_of_lt_of_le (lf_c_X1_work_3 v3_4 z949_ h8_ h950_ ) (Nat.le_of_lt_succ hm_4))
                · refine w_iconst (v := 0) dX1_work_413 (by decide) ?_
                  refine w_goto (tgt := 422) dX1_work_414 (by decide) ?_
                  refine w_istore (ls' := [(8, vI 0), (7, vI z619_), (6, vI z615_), (2, vI z611_), (5, vI z16_), (4, vI z12_), (3, vI v3_4), (0, vR (1, b, w)), (1, vR (29, b2, 0))]) dX1_work_422 (by decide) rfl ?_
                  refine w_aload_n dX1_work_424 rfl 7 rfl ?_
                  refine w_getR (c' := (25, b, w)) fl_RX1_13 rfl rfl (ic_1 hv) dX1_work_425 rfl ?_
                  refine w_iload_n dX1_work_428 rfl 3 rfl ?_
                  refine w_iconst (v := 1) dX1_work_429 (by decide) ?_
                  refine w_isubB dX1_work_430 (rfl : z611_.toInt = z611_.toInt) li_1 (lf_c_X1_work_373 v2_4 z611_ hv2_4 h607_ h612_ ) (fun z951_ h952_ => ?_)
                  refine w_iload dX1_work_431 0 rfl ?_
                  refine w_iast CC_nd rfl rfl (ic_25 hv) (rfl : z951_.toInt = z951_.toInt) (lf_c_X1_work_374 v2_4 z611_ z951_ hv2_4 h607_ h612_ h952_ ) dX1_work_433 (fun j955_ h956_ M953_ hM954_ => ?_)
                  have hI957_ := hI_4.put hM954_ trivial
                  have hF958_ := hF_4.put hM954_ (Or.inl ⟨rfl, rfl, rfl⟩)
                  refine w_iincB (j := 6) (f := fun z959_ => [(3, vI z959_), (8, vI 0), (7, vI z619_), (6, vI z615_), (2, vI z611_), (5, vI z16_), (4, vI z12_), (0, vR (1, b, w)), (1, vR (29, b2, 0))]) dX1_work_434 rfl (by decide) (fun _ => rfl) (rfl : v3_4.toInt = v3_4.toInt) li_1 (lf_c_X1_work_1 v3_4 hv0_4 h8_ ) (fun z959_ h960_ => ?_)
                  refine w_goto (tgt := 4) dX1_work_437 (by decide) ?_
                  refine w_loc (ls' := [(3, vI z959_), (2, vI z611_), (0, vR (1, b, w)), (1, vR (29, b2, 0))]) [0, 4, 7, 8] rfl ?_
                  exact ih_4 M953_ hI957_ hF958_ z959_ z611_ (lf_c_X5_takeFrom_3 v3_4 z959_ hv0_4 h960_ ) (lf_c_X1_work_381 v2_4 z611_ h607_ h612_ ) (lf_c_X1_work_15 v2_4 z611_ hv2_4 h612_ ) (RCH.tail hL_4 ⟨hv0_4, hv1_4, hv2_4, hI_4, hF_4, z2_, e3_, h4_, h8_, j14_, h15_, z12_, e13_, z16_, h17_, (Or.inr ⟨h18_, (Or.inl ⟨h607_, h608_, h609_, h610_, z611_, h612_, z613_, h614_, j617_, h618_, z615_, e616_, j621_, h622_, z619_, e620_, z623_, h624_, (Or.inr (Or.inr (Or.inr (Or.inr (Or.inr (Or.inr (Or.inr (Or.inr (Or.inr (Or.inr (Or.inr (Or.inr (Or.inr (Or.inr (Or.inr (Or.inl ⟨e625_, (Or.inr ⟨h938_, z951_, h952_, j955_, h956_, M953_, hM954_, z959_, h960_, rfl, rfl, rfl⟩)⟩))))))))))))))))⟩)⟩)⟩) (Nat.lt_of_lt_of_le (lf_c_X1_work_3 v3_4 z959_ h8_ h960_ ) (Nat.le_of_lt_succ hm_4))
              · refine w_tsIn (tgt := 408) (off := 200) dX1_work_208 e625_ (by decide) (by decide) rfl (by decide) ?_
                refine w_iload dX1_work_408 1 rfl ?_
                refine w_if_ne (tgt := 417) dX1_work_410 (by decide) (rfl : z619_.toInt = z619_.toInt) (fun h961_ => ?_) (fun h961_ => ?_)
                · refine w_iload dX1_work_417 2 rfl ?_
                  refine w_iload dX1_work_419 1 rfl ?_
                  refine w_irem dX1_work_421 (lf_c_X1_work_391 M_4 b w v3_4 v2_4 z2_ j14_ z12_ z611_ z613_ j617_ z615_ j621_ z619_ hv hv0_4 hv1_4 hv2_4 e3_ h4_ h8_ h15_ e13_ h18_ h607_ h608_ h609_ h610_ h612_ h614_ h618_ e616_ h622_ e620_ h961_ ) (fun z962_ h963_ => ?_)
                  refine w_istore (ls' := [(8, vI z962_), (7, vI z619_), (6, vI z615_), (2, vI z611_), (5, vI z16_), (4, vI z12_), (3, vI v3_4), (0, vR (1, b, w)), (1, vR (29, b2, 0))]) dX1_work_422 (by decide) rfl ?_
                  refine w_aload_n dX1_work_424 rfl 7 rfl ?_
                  refine w_getR (c' := (25, b, w)) fl_RX1_13 rfl rfl (ic_1 hv) dX1_work_425 rfl ?_
                  refine w_iload_n dX1_work_428 rfl 3 rfl ?_
                  refine w_iconst (v := 1) dX1_work_429 (by decide) ?_
                  refine w_isubB dX1_work_430 (rfl : z611_.toInt = z611_.toInt) li_1 (lf_c_X1_work_373 v2_4 z611_ hv2_4 h607_ h612_ ) (fun z964_ h965_ => ?_)
                  refine w_iload dX1_work_431 0 rfl ?_
                  refine w_iast CC_nd rfl rfl (ic_25 hv) (rfl : z964_.toInt = z964_.toInt) (lf_c_X1_work_374 v2_4 z611_ z964_ hv2_4 h607_ h612_ h965_ ) dX1_work_433 (fun j968_ h969_ M966_ hM967_ => ?_)
                  have hI970_ := hI_4.put hM967_ trivial
                  have hF971_ := hF_4.put hM967_ (Or.inl ⟨rfl, rfl, rfl⟩)
                  refine w_iincB (j := 6) (f := fun z972_ => [(3, vI z972_), (8, vI z962_), (7, vI z619_), (6, vI z615_), (2, vI z611_), (5, vI z16_), (4, vI z12_), (0, vR (1, b, w)), (1, vR (29, b2, 0))]) dX1_work_434 rfl (by decide) (fun _ => rfl) (rfl : v3_4.toInt = v3_4.toInt) li_1 (lf_c_X1_work_1 v3_4 hv0_4 h8_ ) (fun z972_ h973_ => ?_)
                  refine w_goto (tgt := 4) dX1_work_437 (by decide) ?_
                  refine w_loc (ls' := [(3, vI z972_), (2, vI z611_), (0, vR (1, b, w)), (1, vR (29, b2, 0))]) [0, 4, 7, 8] rfl ?_
                  exact ih_4 M966_ hI970_ hF971_ z972_ z611_ (lf_c_X5_takeFrom_3 v3_4 z972_ hv0_4 h973_ ) (lf_c_X1_work_381 v2_4 z611_ h607_ h612_ ) (lf_c_X1_work_15 v2_4 z611_ hv2_4 h612_ ) (RCH.tail hL_4 ⟨hv0_4, hv1_4, hv2_4, hI_4, hF_4, z2_, e3_, h4_, h8_, j14_, h15_, z12_, e13_, z16_, h17_, (Or.inr ⟨h18_, (Or.inl ⟨h607_, h608_, h609_, h610_, z611_, h612_, z613_, h614_, j617_, h618_, z615_, e616_, j621_, h622_, z619_, e620_, z623_, h624_, (Or.inr (Or.inr (Or.inr (Or.inr (Or.inr (Or.inr (Or.inr (Or.inr (Or.inr (Or.inr (Or.inr (Or.inr (Or.inr (Or.inr (Or.inr (Or.inr (Or.inl ⟨e625_, (Or.inl ⟨h961_, z962_, h963_, z964_, h965_, j968_, h969_, M966_, hM967_, z972_, h973_, rfl, rfl, rfl⟩)⟩)))))))))))))))))⟩)⟩)⟩) (Nat.lt_of_lt_of_le (lf_c_X1_work_3 v3_4 z972_ h8_ h973_ ) (Nat.le_of_lt_succ hm_4))
                · refine w_iconst (v := 0) dX1_work_413 (by decide) ?_
                  refine w_goto (tgt := 422) dX1_work_414 (by decide) ?_
                  refine w_istore (ls' := [(8, vI 0), (7, vI z619_), (6, vI z615_), (2, vI z611_), (5, vI z16_), (4, vI z12_), (3, vI v3_4), (0, vR (1, b, w)), (1, vR (29, b2, 0))]) dX1_work_422 (by decide) rfl ?_
                  refine w_aload_n dX1_work_424 rfl 7 rfl ?_
                  refine w_getR (c' := (25, b, w)) fl_RX1_13 rfl rfl (ic_1 hv) dX1_work_425 rfl ?_
                  refine w_iload_n dX1_work_428 rfl 3 rfl ?_
                  refine w_iconst (v := 1) dX1_work_429 (by decide) ?_
                  refine w_isubB dX1_work_430 (rfl : z611_.toInt = z611_.toInt) li_1 (lf_c_X1_work_373 v2_4 z611_ hv2_4 h607_ h612_ ) (fun z974_ h975_ => ?_)
                  refine w_iload dX1_work_431 0 rfl ?_
                  refine w_iast CC_nd rfl rfl (ic_25 hv) (rfl : z974_.toInt = z974_.toInt) (lf_c_X1_work_374 v2_4 z611_ z974_ hv2_4 h607_ h612_ h975_ ) dX1_work_433 (fun j978_ h979_ M976_ hM977_ => ?_)
                  have hI980_ := hI_4.put hM977_ trivial
                  have hF981_ := hF_4.put hM977_ (Or.inl ⟨rfl, rfl, rfl⟩)
                  refine w_iincB (j := 6) (f := fun z982_ => [(3, vI z982_), (8, vI 0), (7, vI z619_), (6, vI z615_), (2, vI z611_), (5, vI z16_), (4, vI z12_), (0, vR (1, b, w)), (1, vR (29, b2, 0))]) dX1_work_434 rfl (by decide) (fun _ => rfl) (rfl : v3_4.toInt = v3_4.toInt) li_1 (lf_c_X1_work_1 v3_4 hv0_4 h8_ ) (fun z982_ h983_ => ?_)
                  refine w_goto (tgt := 4) dX1_work_437 (by decide) ?_
                  refine w_loc (ls' := [(3, vI z982_), (2, vI z611_), (0, vR (1, b, w)), (1, vR (29, b2, 0))]) [0, 4, 7, 8] rfl ?_
                  exact ih_4 M976_ hI980_ hF981_ z982_ z611_ (lf_c_X5_takeFrom_3 v3_4 z982_ hv0_4 h983_ ) (lf_c_X1_work_381 v2_4 z611_ h607_ h612_ ) (lf_c_X1_work_15 v2_4 z611_ hv2_4 h612_ ) (RCH.tail hL_4 ⟨hv0_4, hv1_4, hv2_4, hI_4, hF_4, z2_, e3_, h4_, h8_, j14_, h15_, z12_, e13_, z16_, h17_, (Or.inr ⟨h18_, (Or.inl ⟨h607_, h608_, h609_, h610_, z611_, h612_, z613_, h614_, j617_, h618_, z615_, e616_, j621_, h622_, z619_, e620_, z623_, h624_, (Or.inr (Or.inr (Or.inr (Or.inr (Or.inr (Or.inr (Or.inr (Or.inr (Or.inr (Or.inr (Or.inr (Or.inr (Or.inr (Or.inr (Or.inr (Or.inr (Or.inl ⟨e625_, (Or.inr ⟨h961_, z974_, h975_, j978_, h979_, M976_, hM977_, z982_, h983_, rfl, rfl, rfl⟩)⟩)))))))))))))))))⟩)⟩)⟩) (Nat.lt_of_lt_of_le (lf_c_X1_work_3 v3_4 z982_ h8_ h983_ ) (Nat.le_of_lt_succ hm_4))
              · refine w_tsIn (tgt := 408) (off := 200) dX1_work_208 e625_ (by decide) (by decide) rfl (by decide) ?_
                refine w_iload dX1_work_408 1 rfl ?_
                refine w_if_ne (tgt := 417) dX1_work_410 (by decide) (rfl : z619_.toInt = z619_.toInt) (fun h984_ => ?_) (fun h984_ => ?_)
                · refine w_iload dX1_work_417 2 rfl ?_
                  refine w_iload dX1_work_419 1 rfl ?_
                  refine w_irem dX1_work_421 (lf_c_X1_work_391 M_4 b w v3_4 v2_4 z2_ j14_ z12_ z611_ z613_ j617_ z615_ j621_ z619_ hv hv0_4 hv1_4 hv2_4 e3_ h4_ h8_ h15_ e13_ h18_ h607_ h608_ h609_ h610_ h612_ h614_ h618_ e616_ h622_ e620_ h984_ ) (fun z985_ h986_ => ?_)
                  refine w_istore (ls' := [(8, vI z985_), (7, vI z619_), (6, vI z615_), (2, vI z611_), (5, vI z16_), (4, vI z12_), (3, vI v3_4), (0, vR (1, b, w)), (1, vR (29, b2, 0))]) dX1_work_422 (by decide) rfl ?_
                  refine w_aload_n dX1_work_424 rfl 7 rfl ?_
                  refine w_getR (c' := (25, b, w)) fl_RX1_13 rfl rfl (ic_1 hv) dX1_work_425 rfl ?_
                  refine w_iload_n dX1_work_428 rfl 3 rfl ?_
                  refine w_iconst (v := 1) dX1_work_429 (by decide) ?_
                  refine w_isubB dX1_work_430 (rfl : z611_.toInt = z611_.toInt) li_1 (lf_c_X1_work_373 v2_4 z611_ hv2_4 h607_ h612_ ) (fun z987_ h988_ => ?_)
                  refine w_iload dX1_work_431 0 rfl ?_
                  refine w_iast CC_nd rfl rfl (ic_25 hv) (rfl : z987_.toInt = z987_.toInt) (lf_c_X1_work_374 v2_4 z611_ z987_ hv2_4 h607_ h612_ h988_ ) dX1_work_433 (fun j991_ h992_ M989_ hM990_ => ?_)
                  have hI993_ := hI_4.put hM990_ trivial
                  have hF994_ := hF_4.put hM990_ (Or.inl ⟨rfl, rfl, rfl⟩)
                  refine w_iincB (j := 6) (f := fun z995_ => [(3, vI z995_), (8, vI z985_), (7, vI z619_), (6, vI z615_), (2, vI z611_), (5, vI z16_), (4, vI z12_), (0, vR (1, b, w)), (1, vR (29, b2, 0))]) dX1_work_434 rfl (by decide) (fun _ => rfl) (rfl : v3_4.toInt = v3_4.toInt) li_1 (lf_c_X1_work_1 v3_4 hv0_4 h8_ ) (fun z995_ h996_ => ?_)
                  refine w_goto (tgt := 4) dX1_work_437 (by decide) ?_
                  refine w_loc (ls' := [(3, vI z995_), (2, vI z611_), (0, vR (1, b, w)), (1, vR (29, b2, 0))]) [0, 4, 7, 8] rfl ?_
                  exact ih_4 M989_ hI993_ hF994_ z995_ z611_ (lf_c_X5_takeFrom_3 v3_4 z995_ hv0_4 h996_ ) (lf_c_X1_work_381 v2_4 z611_ h607_ h612_ ) (lf_c_X1_work_15 v2_4 z611_ hv2_4 h612_ ) (RCH.tail hL_4 ⟨hv0_4, hv1_4, hv2_4, hI_4, hF_4, z2_, e3_, h4_, h8_, j14_, h15_, z12_, e13_, z16_, h17_, (Or.inr ⟨h18_, (Or.inl ⟨h607_, h608_, h609_, h610_, z611_, h612_, z613_, h614_, j617_, h618_, z615_, e616_, j621_, h622_, z619_, e620_, z623_, h624_, (Or.inr (Or.inr (Or.inr (Or.inr (Or.inr (Or.inr (Or.inr (Or.inr (Or.inr (Or.inr (Or.inr (Or.inr (Or.inr (Or.inr (Or.inr (Or.inr (Or.inr (Or.inl ⟨e625_, (Or.inl ⟨h984_, z985_, h986_, z987_, h988_, j991_, h992_, M989_, hM990_, z995_, h996_, rfl, rfl, rfl⟩)⟩))))))))))))))))))⟩)⟩)⟩) (Nat.lt_of_lt_of_le (lf_c_X1_work_3 v3_4 z995_ h8_ h996_ ) (Nat.le_of_lt_succ hm_4))
                · refine w_iconst (v := 0) dX1_work_413 (by decide) ?_
                  refine w_goto (tgt := 422) dX1_work_414 (by decide) ?_
                  refine w_istore (ls' := [(8, vI 0), (7, vI z619_), (6, vI z615_), (2, vI z611_), (5, vI z16_), (4, vI z12_), (3, vI v3_4), (0, vR (1, b, w)), (1, vR (29, b2, 0))]) dX1_work_422 (by decide) rfl ?_
                  refine w_aload_n dX1_work_424 rfl 7 rfl ?_
                  refine w_getR (c' := (25, b, w)) fl_RX1_13 rfl rfl (ic_1 hv) dX1_work_425 rfl ?_
                  refine w_iload_n dX1_work_428 rfl 3 rfl ?_
                  refine w_iconst (v := 1) dX1_work_429 (by decide) ?_
                  refine w_isubB dX1_work_430 (rfl : z611_.toInt = z611_.toInt) li_1 (lf_c_X1_work_373 v2_4 z611_ hv2_4 h607_ h612_ ) (fun z997_ h998_ => ?_)
                  refine w_iload dX1_work_431 0 rfl ?_
                  refine w_iast CC_nd rfl rfl (ic_25 hv) (rfl : z997_.toInt = z997_.toInt) (lf_c_X1_work_374 v2_4 z611_ z997_ hv2_4 h607_ h612_ h998_ ) dX1_work_433 (fun j1001_ h1002_ M999_ hM1000_ => ?_)
                  have hI1003_ := hI_4.put hM1000_ trivial
                  have hF1004_ := hF_4.put hM1000_ (Or.inl ⟨rfl, rfl, rfl⟩)
                  refine w_iincB (j := 6) (f := fun z1005_ => [(3, vI z1005_), (8, vI 0), (7, vI z619_), (6, vI z615_), (2, vI z611_), (5, vI z16_), (4, vI z12_), (0, vR (1, b, w)), (1, vR (29, b2, 0))]) dX1_work_434 rfl (by decide) (fun _ => rfl) (rfl : v3_4.toInt = v3_4.toInt) li_1 (lf_c_X1_work_1 v3_4 hv0_4 h8_ ) (fun z1005_ h1006_ => ?_)
                  refine w_goto (tgt := 4) dX1_work_437 (by decide) ?_
                  refine w_loc (ls' := [(3, vI z1005_), (2, vI z611_), (0, vR (1, b, w)), (1, vR (29, b2, 0))]) [0, 4, 7, 8] rfl ?_
                  exact ih_4 M999_ hI1003_ hF1004_ z1005_ z611_ (lf_c_X5_takeFrom_3 v3_4 z1005_ hv0_4 h1006_ ) (lf_c_X1_work_381 v2_4 z611_ h607_ h612_ ) (lf_c_X1_work_15 v2_4 z611_ hv2_4 h612_ ) (RCH.tail hL_4 ⟨hv0_4, hv1_4, hv2_4, hI_4, hF_4, z2_, e3_, h4_, h8_, j14_, h15_, z12_, e13_, z16_, h17_, (Or.inr ⟨h18_, (Or.inl ⟨h607_, h608_, h609_, h610_, z611_, h612_, z613_, h614_, j617_, h618_, z615_, e616_, j621_, h622_, z619_, e620_, z623_, h624_, (Or.inr (Or.inr (Or.inr (Or.inr (Or.inr (Or.inr (Or.inr (Or.inr (Or.inr (Or.inr (Or.inr (Or.inr (Or.inr (Or.inr (Or.inr (Or.inr (Or.inr (Or.inl ⟨e625_, (Or.inr ⟨h984_, z997_, h998_, j1001_, h1002_, M999_, hM1000_, z1005_, h1006_, rfl, rfl, rfl⟩)⟩))))))))))))))))))⟩)⟩)⟩) (Nat.lt_of_lt_of_le (lf_c_X1_work_3 v3_4 z1005_ h8_ h1006_ ) (Nat.le_of_lt_succ hm_4))
              · refine w_tsIn (tgt := 308) (off := 100) dX1_work_208 e625_ (by decide) (by decide) rfl (by decide) ?_
                refine w_iload dX1_work_308 2 rfl ?_
                refine w_iload dX1_work_310 1 rfl ?_
                refine w_icmp_ge (tgt := 319) dX1_work_312 (by decide) (rfl : z615_.toInt = z615_.toInt) (rfl : z619_.toInt = z619_.toInt) (fun h1007_ => ?_) (fun h1007_ => ?_)
                · refine w_iconst (v := 0) dX1_work_319 (by decide) ?_
                  refine w_istore (ls' := [(8, vI 0), (7, vI z619_), (6, vI z615_), (2, vI z611_), (5, vI z16_), (4, vI z12_), (3, vI v3_4), (0, vR (1, b, w)), (1, vR (29, b2, 0))]) dX1_work_320 (by decide) rfl ?_
                  refine w_goto (tgt := 424) dX1_work_322 (by decide) ?_
                  refine w_aload_n dX1_work_424 rfl 7 rfl ?_
                  refine w_getR (c' := (25, b, w)) fl_RX1_13 rfl rfl (ic_1 hv) dX1_work_425 rfl ?_
                  refine w_iload_n dX1_work_428 rfl 3 rfl ?_
                  refine w_iconst (v := 1) dX1_work_429 (by decide) ?_
                  refine w_isubB dX1_work_430 (rfl : z611_.toInt = z611_.toInt) li_1 (lf_c_X1_work_373 v2_4 z611_ hv2_4 h607_ h612_ ) (fun z1008_ h1009_ => ?_)
                  refine w_iload dX1_work_431 0 rfl ?_
                  refine w_iast CC_nd rfl rfl (ic_25 hv) (rfl : z1008_.toInt = z1008_.toInt) (lf_c_X1_work_374 v2_4 z611_ z1008_ hv2_4 h607_ h612_ h1009_ ) dX1_work_433 (fun j1012_ h1013_ M1010_ hM1011_ => ?_)
                  have hI1014_ := hI_4.put hM1011_ trivial
                  have hF1015_ := hF_4.put hM1011_ (Or.inl ⟨rfl, rfl, rfl⟩)
                  refine w_iincB (j := 6) (f := fun z1016_ => [(3, vI z1016_), (8, vI 0), (7, vI z619_), (6, vI z615_), (2, vI z611_), (5, vI z16_), (4, vI z12_), (0, vR (1, b, w)), (1, vR (29, b2, 0))]) dX1_work_434 rfl (by decide) (fun _ => rfl) (rfl : v3_4.toInt = v3_4.toInt) li_1 (lf_c_X1_work_1 v3_4 hv0_4 h8_ ) (fun z1016_ h1017_ => ?_)
                  refine w_goto (tgt := 4) dX1_work_437 (by decide) ?_
                  refine w_loc (ls' := [(3, vI z1016_), (2, vI z611_), (0, vR (1, b, w)), (1, vR (29, b2, 0))]) [0, 4, 7, 8] rfl ?_
                  exact ih_4 M1010_ hI1014_ hF1015_ z1016_ z611_ (lf_c_X5_takeFrom_3 v3_4 z1016_ hv0_4 h1017_ ) (lf_c_X1_work_381 v2_4 z611_ h607_ h612_ ) (lf_c_X1_work_15 v2_4 z611_ hv2_4 h612_ ) (RCH.tail hL_4 ⟨hv0_4, hv1_4, hv2_4, hI_4, hF_4, z2_, e3_, h4_, h8_, j14_, h15_, z12_, e13_, z16_, h17_, (Or.inr ⟨h18_, (Or.inl ⟨h607_, h608_, h609_, h610_, z611_, h612_, z613_, h614_, j617_, h618_, z615_, e616_, j621_, h622_, z619_, e620_, z623_, h624_, (Or.inr (Or.inr (Or.inr (Or.inr (Or.inr (Or.inr (Or.inr (Or.inr (Or.inr (Or.inr (Or.inr (Or.inr (Or.inr (Or.inr (Or.inr (Or.inr (Or.inr (Or.inr (Or.inl ⟨e625_, (Or.inl ⟨h1007_, z1008_, h1009_, j1012_, h1013_, M1010_, hM1011_, z1016_, h1017_, rfl, rfl, rfl⟩)⟩)))))))))))))))))))⟩)⟩)⟩) (Nat.lt_of_lt_of_le (lf_c_X1_work_3 v3_4 z1016_ h8_ h1017_ ) (Nat.le_of_lt_succ hm_4))
                · refine w_iconst (v := 1) dX1_work_315 (by decide) ?_
                  refine w_goto (tgt := 320) dX1_work_316 (by decide) ?_
                  refine w_istore (ls' := [(8, vI 1), (7, vI z619_), (6, vI z615_), (2, vI z611_), (5, vI z16_), (4, vI z12_), (3, vI v3_4), (0, vR (1, b, w)), (1, vR (29, b2, 0))]) dX1_work_320 (by decide) rfl ?_
                  refine w_goto (tgt := 424) dX1_work_322 (by decide) ?_
                  refine w_aload_n dX1_work_424 rfl 7 rfl ?_
                  refine w_getR (c' := (25, b, w)) fl_RX1_13 rfl rfl (ic_1 hv) dX1_work_425 rfl ?_
                  refine w_iload_n dX1_work_428 rfl 3 rfl ?_
                  refine w_iconst (v := 1) dX1_work_429 (by decide) ?_
                  refine w_isubB dX1_work_430 (rfl : z611_.toInt = z611_.toInt) li_1 (lf_c_X1_work_373 v2_4 z611_ hv2_4 h607_ h612_ ) (fun z1018_ h1019_ => ?_)
                  refine w_iload dX1_work_431 0 rfl ?_
                  refine w_iast CC_nd rfl rfl (ic_25 hv) (rfl : z1018_.toInt = z1018_.toInt) (lf_c_X1_work_374 v2_4 z611_ z1018_ hv2_4 h607_ h612_ h1019_ ) dX1_work_433 (fun j1022_ h1023_ M1020_ hM1021_ => ?_)
                  have hI1024_ := hI_4.put hM1021_ trivial
                  have hF1025_ := hF_4.put hM1021_ (Or.inl ⟨rfl, rfl, rfl⟩)
                  refine w_iincB (j := 6) (f := fun z1026_ => [(3, vI z1026_), (8, vI 1), (7, vI z619_), (6, vI z615_), (2, vI z611_), (5, vI z16_), (4, vI z12_), (0, vR (1, b, w)), (1, vR (29, b2, 0))]) dX1_work_434 rfl (by decide) (fun _ => rfl) (rfl : v3_4.toInt = v3_4.toInt) li_1 (lf_c_X1_work_1 v3_4 hv0_4 h8_ ) (fun z1026_ h1027_ => ?_)
                  refine w_goto (tgt := 4) dX1_work_437 (by decide) ?_
                  refine w_loc (ls' := [(3, vI z1026_), (2, vI z611_), (0, vR (1, b, w)), (1, vR (29, b2, 0))]) [0, 4, 7, 8] rfl ?_
                  exact ih_4 M1020_ hI1024_ hF1025_ z1026_ z611_ (lf_c_X5_takeFrom_3 v3_4 z1026_ hv0_4 h1027_ ) (lf_c_X1_work_381 v2_4 z611_ h607_ h612_ ) (lf_c_X1_work_15 v2_4 z611_ hv2_4 h612_ ) (RCH.tail hL_4 ⟨hv0_4, hv1_4, hv2_4, hI_4, hF_4, z2_, e3_, h4_, h8_, j14_, h15_, z12_, e13_, z16_, h17_, (Or.inr ⟨h18_, (Or.inl ⟨h607_, h608_, h609_, h610_, z611_, h612_, z613_, h614_, j617_, h618_, z615_, e616_, j621_, h622_, z619_, e620_, z623_, h624_, (Or.inr (Or.inr (Or.inr (Or.inr (Or.inr (Or.inr (Or.inr (Or.inr (Or.inr (Or.inr (Or.inr (Or.inr (Or.inr (Or.inr (Or.inr (Or.inr (Or.inr (Or.inr (Or.inl ⟨e625_, (Or.inr ⟨h1007_, z1018_, h1019_, j1022_, h1023_, M1020_, hM1021_, z1026_, h1027_, rfl, rfl, rfl⟩)⟩)))))))))))))))))))⟩)⟩)⟩) (Nat.lt_of_lt_of_le (lf_c_X1_work_3 v3_4 z1026_ h8_ h1027_ ) (Nat.le_of_lt_succ hm_4))
              · refine w_tsIn (tgt := 325) (off := 117) dX1_work_208 e625_ (by decide) (by decide) rfl (by decide) ?_
                refine w_iload dX1_work_325 2 rfl ?_
                refine w_iload dX1_work_327 1 rfl ?_
                refine w_icmp_ne (tgt := 336) dX1_work_329 (by decide) (rfl : z615_.toInt = z615_.toInt) (rfl : z619_.toInt = z619_.toInt) (fun h1028_ => ?_) (fun h1028_ => ?_)
                · refine w_iconst (v := 0) dX1_work_336 (by decide) ?_
                  refine w_istore (ls' := [(8, vI 0), (7, vI z619_), (6, vI z615_), (2, vI z611_), (5, vI z16_), (4, vI z12_), (3, vI v3_4), (0, vR (1, b, w)), (1, vR (29, b2, 0))]) dX1_work_337 (by decide) rfl ?_
                  refine w_goto (tgt := 424) dX1_work_339 (by decide) ?_
                  refine w_aload_n dX1_work_424 rfl 7 rfl ?_
                  refine w_getR (c' := (25, b, w)) fl_RX1_13 rfl rfl (ic_1 hv) dX1_work_425 rfl ?_
                  refine w_iload_n dX1_work_428 rfl 3 rfl ?_
                  refine w_iconst (v := 1) dX1_work_429 (by decide) ?_
                  refine w_isubB dX1_work_430 (rfl : z611_.toInt = z611_.toInt) li_1 (lf_c_X1_work_373 v2_4 z611_ hv2_4 h607_ h612_ ) (fun z1029_ h1030_ => ?_)
                  refine w_iload dX1_work_431 0 rfl ?_
                  refine w_iast CC_nd rfl rfl (ic_25 hv) (rfl : z1029_.toInt = z1029_.toInt) (lf_c_X1_work_374 v2_4 z611_ z1029_ hv2_4 h607_ h612_ h1030_ ) dX1_work_433 (fun j1033_ h1034_ M1031_ hM1032_ => ?_)
                  have hI1035_ := hI_4.put hM1032_ trivial
                  have hF1036_ := hF_4.put hM1032_ (Or.inl ⟨rfl, rfl, rfl⟩)
                  refine w_iincB (j := 6) (f := fun z1037_ => [(3, vI z1037_), (8, vI 0), (7, vI z619_), (6, vI z615_), (2, vI z611_), (5, vI z16_), (4, vI z12_), (0, vR (1, b, w)), (1, vR (29, b2, 0))]) dX1_work_434 rfl (by decide) (fun _ => rfl) (rfl : v3_4.toInt = v3_4.toInt) li_1 (lf_c_X1_work_1 v3_4 hv0_4 h8_ ) (fun z1037_ h1038_ => ?_)
                  refine w_goto (tgt := 4) dX1_work_437 (by decide) ?_
                  refine w_loc (ls' := [(3, vI z1037_), (2, vI z611_), (0, vR (1, b, w)), (1, vR (29, b2, 0))]) [0, 4, 7, 8] rfl ?_
                  exact ih_4 M1031_ hI1035_ hF1036_ z1037_ z611_ (lf_c_X5_takeFrom_3 v3_4 z1037_ hv0_4 h1038_ ) (lf_c_X1_work_381 v2_4 z611_ h607_ h612_ ) (lf_c_X1_work_15 v2_4 z611_ hv2_4 h612_ ) (RCH.tail hL_4 ⟨hv0_4, hv1_4, hv2_4, hI_4, hF_4, z2_, e3_, h4_, h8_, j14_, h15_, z12_, e13_, z16_, h17_, (Or.inr ⟨h18_, (Or.inl ⟨h607_, h608_, h609_, h610_, z611_, h612_, z613_, h614_, j617_, h618_, z615_, e616_, j621_, h622_, z619_, e620_, z623_, h624_, (Or.inr (Or.inr (Or.inr (Or.inr (Or.inr (Or.inr (Or.inr (Or.inr (Or.inr (Or.inr (Or.inr (Or.inr (Or.inr (Or.inr (Or.inr (Or.inr (Or.inr (Or.inr (Or.inr (Or.inl ⟨e625_, (Or.inl ⟨h1028_, z1029_, h1030_, j1033_, h1034_, M1031_, hM1032_, z1037_, h1038_, rfl, rfl, rfl⟩)⟩))))))))))))))))))))⟩)⟩)⟩) (Nat.lt_of_lt_of_le (lf_c_X1_work_3 v3_4 z1037_ h8_ h1038_ ) (Nat.le_of_lt_succ hm_4))
                · refine w_iconst (v := 1) dX1_work_332 (by decide) ?_
                  refine w_goto (tgt := 337) dX1_work_333 (by decide) ?_
                  refine w_istore (ls' := [(8, vI 1), (7, vI z619_), (6, vI z615_), (2, vI z611_), (5, vI z16_), (4, vI z12_), (3, vI v3_4), (0, vR (1, b, w)), (1, vR (29, b2, 0))]) dX1_work_337 (by decide) rfl ?_
                  refine w_goto (tgt := 424) dX1_work_339 (by decide) ?_
                  refine w_aload_n dX1_work_424 rfl 7 rfl ?_
                  refine w_getR (c' := (25, b, w)) fl_RX1_13 rfl rfl (ic_1 hv) dX1_work_425 rfl ?_
                  refine w_iload_n dX1_work_428 rfl 3 rfl ?_
                  refine w_iconst (v := 1) dX1_work_429 (by decide) ?_
                  refine w_isubB dX1_work_430 (rfl : z611_.toInt = z611_.toInt) li_1 (lf_c_X1_work_373 v2_4 z611_ hv2_4 h607_ h612_ ) (fun z1039_ h1040_ => ?_)
                  refine w_iload dX1_work_431 0 rfl ?_
                  refine w_iast CC_nd rfl rfl (ic_25 hv) (rfl : z1039_.toInt = z1039_.toInt) (lf_c_X1_work_374 v2_4 z611_ z1039_ hv2_4 h607_ h612_ h1040_ ) dX1_work_433 (fun j1043_ h1044_ M1041_ hM1042_ => ?_)
                  have hI1045_ := hI_4.put hM1042_ trivial
                  have hF1046_ := hF_4.put hM1042_ (Or.inl ⟨rfl, rfl, rfl⟩)
                  refine w_iincB (j := 6) (f := fun z1047_ => [(3, vI z1047_), (8, vI 1), (7, vI z619_), (6, vI z615_), (2, vI z611_), (5, vI z16_), (4, vI z12_), (0, vR (1, b, w)), (1, vR (29, b2, 0))]) dX1_work_434 rfl (by decide) (fun _ => rfl) (rfl : v3_4.toInt = v3_4.toInt) li_1 (lf_c_X1_work_1 v3_4 hv0_4 h8_ ) (fun z1047_ h1048_ => ?_)
                  refine w_goto (tgt := 4) dX1_work_437 (by decide) ?_
                  refine w_loc (ls' := [(3, vI z1047_), (2, vI z611_), (0, vR (1, b, w)), (1, vR (29, b2, 0))]) [0, 4, 7, 8] rfl ?_
                  exact ih_4 M1041_ hI1045_ hF1046_ z1047_ z611_ (lf_c_X5_takeFrom_3 v3_4 z1047_ hv0_4 h1048_ ) (lf_c_X1_work_381 v2_4 z611_ h607_ h612_ ) (lf_c_X1_work_15 v2_4 z611_ hv2_4 h612_ ) (RCH.tail hL_4 ⟨hv0_4, hv1_4, hv2_4, hI_4, hF_4, z2_, e3_, h4_, h8_, j14_, h15_, z12_, e13_, z16_, h17_, (Or.inr ⟨h18_, (Or.inl ⟨h607_, h608_, h609_, h610_, z611_, h612_, z613_, h614_, j617_, h618_, z615_, e616_, j621_, h622_, z619_, e620_, z623_, h624_, (Or.inr (Or.inr (Or.inr (Or.inr (Or.inr (Or.inr (Or.inr (Or.inr (Or.inr (Or.inr (Or.inr (Or.inr (Or.inr (Or.inr (Or.inr (Or.inr (Or.inr (Or.inr (Or.inr (Or.inl ⟨e625_, (Or.inr ⟨h1028_, z1039_, h1040_, j1043_, h1044_, M1041_, hM1042_, z1047_, h1048_, rfl, rfl, rfl⟩)⟩))))))))))))))))))))⟩)⟩)⟩) (Nat.lt_of_lt_of_le (lf_c_X1_work_3 v3_4 z1047_ h8_ h1048_ ) (Nat.le_of_lt_succ hm_4))
              · refine w_tsIn (tgt := 342) (off := 134) dX1_work_208 e625_ (by decide) (by decide) rfl (by decide) ?_
                refine w_iload dX1_work_342 2 rfl ?_
                refine w_iload dX1_work_344 1 rfl ?_
                refine w_icmp_le (tgt := 353) dX1_work_346 (by decide) (rfl : z615_.toInt = z615_.toInt) (rfl : z619_.toInt = z619_.toInt) (fun h1049_ => ?_) (fun h1049_ => ?_)
                · refine w_iconst (v := 0) dX1_work_353 (by decide) ?_
                  refine w_istore (ls' := [(8, vI 0), (7, vI z619_), (6, vI z615_), (2, vI z611_), (5, vI z16_), (4, vI z12_), (3, vI v3_4), (0, vR (1, b, w)), (1, vR (29, b2, 0))]) dX1_work_354 (by decide) rfl ?_
                  refine w_goto (tgt := 424) dX1_work_356 (by decide) ?_
                  refine w_aload_n dX1_work_424 rfl 7 rfl ?_
                  refine w_getR (c' := (25, b, w)) fl_RX1_13 rfl rfl (ic_1 hv) dX1_work_425 rfl ?_
                  refine w_iload_n dX1_work_428 rfl 3 rfl ?_
                  refine w_iconst (v := 1) dX1_work_429 (by decide) ?_
                  refine w_isubB dX1_work_430 (rfl : z611_.toInt = z611_.toInt) li_1 (lf_c_X1_work_373 v2_4 z611_ hv2_4 h607_ h612_ ) (fun z1050_ h1051_ => ?_)
                  refine w_iload dX1_work_431 0 rfl ?_
                  refine w_iast CC_nd rfl rfl (ic_25 hv) (rfl : z1050_.toInt = z1050_.toInt) (lf_c_X1_work_374 v2_4 z611_ z1050_ hv2_4 h607_ h612_ h1051_ ) dX1_work_433 (fun j1054_ h1055_ M1052_ hM1053_ => ?_)
                  have hI1056_ := hI_4.put hM1053_ trivial
                  have hF1057_ := hF_4.put hM1053_ (Or.inl ⟨rfl, rfl, rfl⟩)
                  refine w_iincB (j := 6) (f := fun z1058_ => [(3, vI z1058_), (8, vI 0), (7, vI z619_), (6, vI z615_), (2, vI z611_), (5, vI z16_), (4, vI z12_), (0, vR (1, b, w)), (1, vR (29, b2, 0))]) dX1_work_434 rfl (by decide) (fun _ => rfl) (rfl : v3_4.toInt = v3_4.toInt) li_1 (lf_c_X1_work_1 v3_4 hv0_4 h8_ ) (fun z1058_ h1059_ => ?_)
                  refine w_goto (tgt := 4) dX1_work_437 (by decide) ?_
                  refine w_loc (ls' := [(3, vI z1058_), (2, vI z611_), (0, vR (1, b, w)), (1, vR (29, b2, 0))]) [0, 4, 7, 8] rfl ?_
                  exact ih_4 M1052_ hI1056_ hF1057_ z1058_ z611_ (lf_c_X5_takeFrom_3 v3_4 z1058_ hv0_4 h1059_ ) (lf_c_X1_work_381 v2_4 z611_ h607_ h612_ ) (lf_c_X1_work_15 v2_4 z611_ hv2_4 h612_ ) (RCH.tail hL_4 ⟨hv0_4, hv1_4, hv2_4, hI_4, hF_4, z2_, e3_, h4_, h8_, j14_, h15_, z12_, e13_, z16_, h17_, (Or.inr ⟨h18_, (Or.inl ⟨h607_, h608_, h609_, h610_, z611_, h612_, z613_, h614_, j617_, h618_, z615_, e616_, j621_, h622_, z619_, e620_, z623_, h624_, (Or.inr (Or.inr (Or.inr (Or.inr (Or.inr (Or.inr (Or.inr (Or.inr (Or.inr (Or.inr (Or.inr (Or.inr (Or.inr (Or.inr (Or.inr (Or.inr (Or.inr (Or.inr (Or.inr (Or.inr (Or.inl ⟨e625_, (Or.inl ⟨h1049_, z1050_, h1051_, j1054_, h1055_, M1052_, hM1053_, z1058_, h1059_, rfl, rfl, rfl⟩)⟩)))))))))))))))))))))⟩)⟩)⟩) (Nat.lt_of_lt_of_le (lf_c_X1_work_3 v3_4 z1058_ h8_ h1059_ ) (Nat.le_of_lt_succ hm_4))
                · refine w_iconst (v := 1) dX1_work_349 (by decide) ?_
                  refine w_goto (tgt := 354) dX1_work_350 (by decide) ?_
                  refine w_istore (ls' := [(8, vI 1), (7, vI z619_), (6, vI z615_), (2, vI z611_), (5, vI z16_), (4, vI z12_), (3, vI v3_4), (0, vR (1, b, w)), (1, vR (29, b2, 0))]) dX1_work_354 (by decide) rfl ?_
                  refine w_goto (tgt := 424) dX1_work_356 (by decide) ?_
                  refine w_aload_n dX1_work_424 rfl 7 rfl ?_
                  refine w_getR (c' := (25, b, w)) fl_RX1_13 rfl rfl (ic_1 hv) dX1_work_425 rfl ?_
                  refine w_iload_n dX1_work_428 rfl 3 rfl ?_
                  refine w_iconst (v := 1) dX1_work_429 (by decide) ?_
                  refine w_isubB dX1_work_430 (rfl : z611_.toInt = z611_.toInt) li_1 (lf_c_X1_work_373 v2_4 z611_ hv2_4 h607_ h612_ ) (fun z1060_ h1061_ => ?_)
                  refine w_iload dX1_work_431 0 rfl ?_
                  refine w_iast CC_nd rfl rfl (ic_25 hv) (rfl : z1060_.toInt = z1060_.toInt) (lf_c_X1_work_374 v2_4 z611_ z1060_ hv2_4 h607_ h612_ h1061_ ) dX1_work_433 (fun j1064_ h1065_ M1062_ hM1063_ => ?_)
                  have hI1066_ := hI_4.put hM1063_ trivial
                  have hF1067_ := hF_4.put hM1063_ (Or.inl ⟨rfl, rfl, rfl⟩)
                  refine w_iincB (j := 6) (f := fun z1068_ => [(3, vI z1068_), (8, vI 1), (7, vI z619_), (6, vI z615_), (2, vI z611_), (5, vI z16_), (4, vI z12_), (0, vR (1, b, w)), (1, vR (29, b2, 0))]) dX1_work_434 rfl (by decide) (fun _ => rfl) (rfl : v3_4.toInt = v3_4.toInt) li_1 (lf_c_X1_work_1 v3_4 hv0_4 h8_ ) (fun z1068_ h1069_ => ?_)
                  refine w_goto (tgt := 4) dX1_work_437 (by decide) ?_
                  refine w_loc (ls' := [(3, vI z1068_), (2, vI z611_), (0, vR (1, b, w)), (1, vR (29, b2, 0))]) [0, 4, 7, 8] rfl ?_
                  exact ih_4 M1062_ hI1066_ hF1067_ z1068_ z611_ (lf_c_X5_takeFrom_3 v3_4 z1068_ hv0_4 h1069_ ) (lf_c_X1_work_381 v2_4 z611_ h607_ h612_ ) (lf_c_X1_work_15 v2_4 z611_ hv2_4 h612_ ) (RCH.tail hL_4 ⟨hv0_4, hv1_4, hv2_4, hI_4, hF_4, z2_, e3_, h4_, h8_, j14_, h15_, z12_, e13_, z16_, h17_, (Or.inr ⟨h18_, (Or.inl ⟨h607_, h608_, h609_, h610_, z611_, h612_, z613_, h614_, j617_, h618_, z615_, e616_, j621_, h622_, z619_, e620_, z623_, h624_, (Or.inr (Or.inr (Or.inr (Or.inr (Or.inr (Or.inr (Or.inr (Or.inr (Or.inr (Or.inr (Or.inr (Or.inr (Or.inr (Or.inr (Or.inr (Or.inr (Or.inr (Or.inr (Or.inr (Or.inr (Or.inl ⟨e625_, (Or.inr ⟨h1049_, z1060_, h1061_, j1064_, h1065_, M1062_, hM1063_, z1068_, h1069_, rfl, rfl, rfl⟩)⟩)))))))))))))))))))))⟩)⟩)⟩) (Nat.lt_of_lt_of_le (lf_c_X1_work_3 v3_4 z1068_ h8_ h1069_ ) (Nat.le_of_lt_succ hm_4))
              · refine w_tsOut (tgt := 408) dX1_work_208 rfl (lf_c_X1_work_665 z623_ e625_ ) (by decide) ?_
                refine w_iload dX1_work_408 1 rfl ?_
                refine w_if_ne (tgt := 417) dX1_work_410 (by decide) (rfl : z619_.toInt = z619_.toInt) (fun h1070_ => ?_) (fun h1070_ => ?_)
                · refine w_iload dX1_work_417 2 rfl ?_
                  refine w_iload dX1_work_419 1 rfl ?_
                  refine w_irem dX1_work_421 (lf_c_X1_work_391 M_4 b w v3_4 v2_4 z2_ j14_ z12_ z611_ z613_ j617_ z615_ j621_ z619_ hv hv0_4 hv1_4 hv2_4 e3_ h4_ h8_ h15_ e13_ h18_ h607_ h608_ h609_ h610_ h612_ h614_ h618_ e616_ h622_ e620_ h1070_ ) (fun z1071_ h1072_ => ?_)
                  refine w_istore (ls' := [(8, vI z1071_), (7, vI z619_), (6, vI z615_), (2, vI z611_), (5, vI z16_), (4, vI z12_), (3, vI v3_4), (0, vR (1, b, w)), (1, vR (29, b2, 0))]) dX1_work_422 (by decide) rfl ?_
                  refine w_aload_n dX1_work_424 rfl 7 rfl ?_
                  refine w_getR (c' := (25, b, w)) fl_RX1_13 rfl rfl (ic_1 hv) dX1_work_425 rfl ?_
                  refine w_iload_n dX1_work_428 rfl 3 rfl ?_
                  refine w_iconst (v := 1) dX1_work_429 (by decide) ?_
                  refine w_isubB dX1_work_430 (rfl : z611_.toInt = z611_.toInt) li_1 (lf_c_X1_work_373 v2_4 z611_ hv2_4 h607_ h612_ ) (fun z1073_ h1074_ => ?_)
                  refine w_iload dX1_work_431 0 rfl ?_
                  refine w_iast CC_nd rfl rfl (ic_25 hv) (rfl : z1073_.toInt = z1073_.toInt) (lf_c_X1_work_374 v2_4 z611_ z1073_ hv2_4 h607_ h612_ h1074_ ) dX1_work_433 (fun j1077_ h1078_ M1075_ hM1076_ => ?_)
                  have hI1079_ := hI_4.put hM1076_ trivial
                  have hF1080_ := hF_4.put hM1076_ (Or.inl ⟨rfl, rfl, rfl⟩)
                  refine w_iincB (j := 6) (f := fun z1081_ => [(3, vI z1081_), (8, vI z1071_), (7, vI z619_), (6, vI z615_), (2, vI z611_), (5, vI z16_), (4, vI z12_), (0, vR (1, b, w)), (1, vR (29, b2, 0))]) dX1_work_434 rfl (by decide) (fun _ => rfl) (rfl : v3_4.toInt = v3_4.toInt) li_1 (lf_c_X1_work_1 v3_4 hv0_4 h8_ ) (fun z1081_ h1082_ => ?_)
                  refine w_goto (tgt := 4) dX1_work_437 (by decide) ?_
                  refine w_loc (ls' := [(3, vI z1081_), (2, vI z611_), (0, vR (1, b, w)), (1, vR (29, b2, 0))]) [0, 4, 7, 8] rfl ?_
                  exact ih_4 M1075_ hI1079_ hF1080_ z1081_ z611_ (lf_c_X5_takeFrom_3 v3_4 z1081_ hv0_4 h1082_ ) (lf_c_X1_work_381 v2_4 z611_ h607_ h612_ ) (lf_c_X1_work_15 v2_4 z611_ hv2_4 h612_ ) (RCH.tail hL_4 ⟨hv0_4, hv1_4, hv2_4, hI_4, hF_4, z2_, e3_, h4_, h8_, j14_, h15_, z12_, e13_, z16_, h17_, (Or.inr ⟨h18_, (Or.inl ⟨h607_, h608_, h609_, h610_, z611_, h612_, z613_, h614_, j617_, h618_, z615_, e616_, j621_, h622_, z619_, e620_, z623_, h624_, (Or.inr (Or.inr (Or.inr (Or.inr (Or.inr (Or.inr (Or.inr (Or.inr (Or.inr (Or.inr (Or.inr (Or.inr (Or.inr (Or.inr (Or.inr (Or.inr (Or.inr (Or.inr (Or.inr (Or.inr (Or.inr ⟨e625_, (Or.inl ⟨h1070_, z1071_, h1072_, z1073_, h1074_, j1077_, h1078_, M1075_, hM1076_, z1081_, h1082_, rfl, rfl, rfl⟩)⟩)))))))))))))))))))))⟩)⟩)⟩) (Nat.lt_of_lt_of_le (lf_c_X1_work_3 v3_4 z1081_ h8_ h1082_ ) (Nat.le_of_lt_succ hm_4))
                · refine w_iconst (v := 0) dX1_work_413 (by decide) ?_
                  refine w_goto (tgt := 422) dX1_work_414 (by decide) ?_
                  refine w_istore (ls' := [(8, vI 0), (7, vI z619_), (6, vI z615_), (2, vI z611_), (5, vI z16_), (4, vI z12_), (3, vI v3_4), (0, vR (1, b, w)), (1, vR (29, b2, 0))]) dX1_work_422 (by decide) rfl ?_
                  refine w_aload_n dX1_work_424 rfl 7 rfl ?_
                  refine w_getR (c' := (25, b, w)) fl_RX1_13 rfl rfl (ic_1 hv) dX1_work_425 rfl ?_
                  refine w_iload_n dX1_work_428 rfl 3 rfl ?_
                  refine w_iconst (v := 1) dX1_work_429 (by decide) ?_
                  refine w_isubB dX1_work_430 (rfl : z611_.toInt = z611_.toInt) li_1 (lf_c_X1_work_373 v2_4 z611_ hv2_4 h607_ h612_ ) (fun z1083_ h1084_ => ?_)
                  refine w_iload dX1_work_431 0 rfl ?_
                  refine w_iast CC_nd rfl rfl (ic_25 hv) (rfl : z1083_.toInt = z1083_.toInt) (lf_c_X1_work_374 v2_4 z611_ z1083_ hv2_4 h607_ h612_ h1084_ ) dX1_work_433 (fun j1087_ h1088_ M1085_ hM1086_ => ?_)
                  have hI1089_ := hI_4.put hM1086_ trivial
                  have hF1090_ := hF_4.put hM1086_ (Or.inl ⟨rfl, rfl, rfl⟩)
                  refine w_iincB (j := 6) (f := fun z1091_ => [(3, vI z1091_), (8, vI 0), (7, vI z619_), (6, vI z615_), (2, vI z611_), (5, vI z16_), (4, vI z12_), (0, vR (1, b, w)), (1, vR (29, b2, 0))]) dX1_work_434 rfl (by decide) (fun _ => rfl) (rfl : v3_4.toInt = v3_4.toInt) li_1 (lf_c_X1_work_1 v3_4 hv0_4 h8_ ) (fun z1091_ h1092_ => ?_)
                  refine w_goto (tgt := 4) dX1_work_437 (by decide) ?_
                  refine w_loc (ls' := [(3, vI z1091_), (2, vI z611_), (0, vR (1, b, w)), (1, vR (29, b2, 0))]) [0, 4, 7, 8] rfl ?_
                  exact ih_4 M1085_ hI1089_ hF1090_ z1091_ z611_ (lf_c_X5_takeFrom_3 v3_4 z1091_ hv0_4 h1092_ ) (lf_c_X1_work_381 v2_4 z611_ h607_ h612_ ) (lf_c_X1_work_15 v2_4 z611_ hv2_4 h612_ ) (RCH.tail hL_4 ⟨hv0_4, hv1_4, hv2_4, hI_4, hF_4, z2_, e3_, h4_, h8_, j14_, h15_, z12_, e13_, z16_, h17_, (Or.inr ⟨h18_, (Or.inl ⟨h607_, h608_, h609_, h610_, z611_, h612_, z613_, h614_, j617_, h618_, z615_, e616_, j621_, h622_, z619_, e620_, z623_, h624_, (Or.inr (Or.inr (Or.inr (Or.inr (Or.inr (Or.inr (Or.inr (Or.inr (Or.inr (Or.inr (Or.inr (Or.inr (Or.inr (Or.inr (Or.inr (Or.inr (Or.inr (Or.inr (Or.inr (Or.inr (Or.inr ⟨e625_, (Or.inr ⟨h1070_, z1083_, h1084_, j1087_, h1088_, M1085_, hM1086_, z1091_, h1092_, rfl, rfl, rfl⟩)⟩)))))))))))))))))))))⟩)⟩)⟩) (Nat.lt_of_lt_of_le (lf_c_X1_work_3 v3_4 z1091_ h8_ h1092_ ) (Nat.le_of_lt_succ hm_4))
            · refine w_aload_n dX1_work_48 rfl 4 rfl ?_
              refine w_getR (c' := (25, b, w)) fl_RX1_13 rfl rfl (ic_1 hv) dX1_work_49 rfl ?_
              refine w_iload_n dX1_work_52 rfl 3 rfl ?_
              refine w_iload dX1_work_53 0 rfl ?_
              refine w_if_ge (tgt := 63) dX1_work_55 (by decide) (rfl : z16_.toInt = z16_.toInt) (fun h1093_ => ?_) (fun h1093_ => ?_)
              · refine w_iload dX1_work_63 0 rfl ?_
                refine w_aload_n dX1_work_65 rfl 5 rfl ?_
                refine w_alen (v := 5) (by decide) rfl rfl (ic_29 hb2) dX1_work_66 rfl ?_
                refine w_icmp_ge (tgt := 77) dX1_work_67 (by decide) (rfl : z16_.toInt = z16_.toInt) li_5 (fun h1094_ => ?_) (fun h1094_ => ?_)
                · refine w_iconst (v := 0) dX1_work_77 (by decide) ?_
                  refine w_iast CC_nd rfl rfl (ic_25 hv) (rfl : v2_4.toInt = v2_4.toInt) (lf_c_X1_add_0 v2_4 hv1_4 h607_ ) dX1_work_78 (fun j1097_ h1098_ M1095_ hM1096_ => ?_)
                  have hI1099_ := hI_4.put hM1096_ trivial
                  have hF1100_ := hF_4.put hM1096_ (Or.inl ⟨rfl, rfl, rfl⟩)
                  refine w_iincB (j := 3) (f := fun z1101_ => [(2, vI z1101_), (5, vI z16_), (4, vI z12_), (3, vI v3_4), (0, vR (1, b, w)), (1, vR (29, b2, 0))]) dX1_work_79 rfl (by decide) (fun _ => rfl) (rfl : v2_4.toInt = v2_4.toInt) li_1 (lf_c_X1_work_1 v2_4 hv1_4 h607_ ) (fun z1101_ h1102_ => ?_)
                  refine w_goto (tgt := 434) dX1_work_82 (by decide) ?_
                  refine w_iincB (j := 3) (f := fun z1103_ => [(3, vI z1103_), (2, vI z1101_), (5, vI z16_), (4, vI z12_), (0, vR (1, b, w)), (1, vR (29, b2, 0))]) dX1_work_434 rfl (by decide) (fun _ => rfl) (rfl : v3_4.toInt = v3_4.toInt) li_1 (lf_c_X1_work_1 v3_4 hv0_4 h8_ ) (fun z1103_ h1104_ => ?_)
                  refine w_goto (tgt := 4) dX1_work_437 (by decide) ?_
                  refine w_loc (ls' := [(3, vI z1103_), (2, vI z1101_), (0, vR (1, b, w)), (1, vR (29, b2, 0))]) [0, 1, 4, 5] rfl ?_
                  exact ih_4 M1095_ hI1099_ hF1100_ z1103_ z1101_ (lf_c_X5_takeFrom_3 v3_4 z1103_ hv0_4 h1104_ ) (lf_c_X5_takeFrom_3 v2_4 z1101_ hv1_4 h1102_ ) (lf_c_X1_work_686 v2_4 z1101_ h607_ h1102_ ) (RCH.tail hL_4 ⟨hv0_4, hv1_4, hv2_4, hI_4, hF_4, z2_, e3_, h4_, h8_, j14_, h15_, z12_, e13_, z16_, h17_, (Or.inr ⟨h18_, (Or.inr ⟨h607_, (Or.inl ⟨h1093_, (Or.inl ⟨h1094_, j1097_, h1098_, M1095_, hM1096_, z1101_, h1102_, z1103_, h1104_, rfl, rfl, rfl⟩)⟩)⟩)⟩)⟩) (Nat.lt_of_lt_of_le (lf_c_X1_work_3 v3_4 z1103_ h8_ h1104_ ) (Nat.le_of_lt_succ hm_4))
                · refine w_aload_n dX1_work_70 rfl 5 rfl ?_
                  refine w_iload dX1_work_71 0 rfl ?_
                  refine w_iald rfl rfl (ic_29 hb2) (rfl : z16_.toInt = z16_.toInt) (lf_c_X1_work_688 z16_ h1093_ h1094_ ) dX1_work_73 (fun j1107_ h1108_ z1105_ e1106_ => ?_)
                  refine w_goto (tgt := 78) dX1_work_74 (by decide) ?_
                  refine w_iast CC_nd rfl rfl (ic_25 hv) (rfl : v2_4.toInt = v2_4.toInt) (lf_c_X1_add_0 v2_4 hv1_4 h607_ ) dX1_work_78 (fun j1111_ h1112_ M1109_ hM1110_ => ?_)
                  have hI1113_ := hI_4.put hM1110_ trivial
                  have hF1114_ := hF_4.put hM1110_ (Or.inl ⟨rfl, rfl, rfl⟩)
                  refine w_iincB (j := 3) (f := fun z1115_ => [(2, vI z1115_), (5, vI z16_), (4, vI z12_), (3, vI v3_4), (0, vR (1, b, w)), (1, vR (29, b2, 0))]) dX1_work_79 rfl (by decide) (fun _ => rfl) (rfl : v2_4.toInt = v2_4.toInt) li_1 (lf_c_X1_work_1 v2_4 hv1_4 h607_ ) (fun z1115_ h1116_ => ?_)
                  refine w_goto (tgt := 434) dX1_work_82 (by decide) ?_
                  refine w_iincB (j := 3) (f := fun z1117_ => [(3, vI z1117_), (2, vI z1115_), (5, vI z16_), (4, vI z12_), (0, vR (1, b, w)), (1, vR (29, b2, 0))]) dX1_work_434 rfl (by decide) (fun _ => rfl) (rfl : v3_4.toInt = v3_4.toInt) li_1 (lf_c_X1_work_1 v3_4 hv0_4 h8_ ) (fun z1117_ h1118_ => ?_)
                  refine w_goto (tgt := 4) dX1_work_437 (by decide) ?_
                  refine w_loc (ls' := [(3, vI z1117_), (2, vI z1115_), (0, vR (1, b, w)), (1, vR (29, b2, 0))]) [0, 1, 4, 5] rfl ?_
                  exact ih_4 M1109_ hI1113_ hF1114_ z1117_ z1115_ (lf_c_X5_takeFrom_3 v3_4 z1117_ hv0_4 h1118_ ) (lf_c_X5_takeFrom_3 v2_4 z1115_ hv1_4 h1116_ ) (lf_c_X1_work_686 v2_4 z1115_ h607_ h1116_ ) (RCH.tail hL_4 ⟨hv0_4, hv1_4, hv2_4, hI_4, hF_4, z2_, e3_, h4_, h8_, j14_, h15_, z12_, e13_, z16_, h17_, (Or.inr ⟨h18_, (Or.inr ⟨h607_, (Or.inl ⟨h1093_, (Or.inr ⟨h1094_, j1107_, h1108_, z1105_, e1106_, j1111_, h1112_, M1109_, hM1110_, z1115_, h1116_, z1117_, h1118_, rfl, rfl, rfl⟩)⟩)⟩)⟩)⟩) (Nat.lt_of_lt_of_le (lf_c_X1_work_3 v3_4 z1117_ h8_ h1118_ ) (Nat.le_of_lt_succ hm_4))
              · refine w_iload dX1_work_58 1 rfl ?_
                refine w_goto (tgt := 78) dX1_work_60 (by decide) ?_
                refine w_iast CC_nd rfl rfl (ic_25 hv) (rfl : v2_4.toInt = v2_4.toInt) (lf_c_X1_add_0 v2_4 hv1_4 h607_ ) dX1_work_78 (fun j1121_ h1122_ M1119_ hM1120_ => ?_)
                have hI1123_ := hI_4.put hM1120_ trivial
                have hF1124_ := hF_4.put hM1120_ (Or.inl ⟨rfl, rfl, rfl⟩)
                refine w_iincB (j := 3) (f := fun z1125_ => [(2, vI z1125_), (5, vI z16_), (4, vI z12_), (3, vI v3_4), (0, vR (1, b, w)), (1, vR (29, b2, 0))]) dX1_work_79 rfl (by decide) (fun _ => rfl) (rfl : v2_4.toInt = v2_4.toInt) li_1 (lf_c_X1_work_1 v2_4 hv1_4 h607_ ) (fun z1125_ h1126_ => ?_)
                refine w_goto (tgt := 434) dX1_work_82 (by decide) ?_
                refine w_iincB (j := 3) (f := fun z1127_ => [(3, vI z1127_), (2, vI z1125_), (5, vI z16_), (4, vI z12_), (0, vR (1, b, w)), (1, vR (29, b2, 0))]) dX1_work_434 rfl (by decide) (fun _ => rfl) (rfl : v3_4.toInt = v3_4.toInt) li_1 (lf_c_X1_work_1 v3_4 hv0_4 h8_ ) (fun z1127_ h1128_ => ?_)
                refine w_goto (tgt := 4) dX1_work_437 (by decide) ?_
                refine w_loc (ls' := [(3, vI z1127_), (2, vI z1125_), (0, vR (1, b, w)), (1, vR (29, b2, 0))]) [0, 1, 4, 5] rfl ?_
                exact ih_4 M1119_ hI1123_ hF1124_ z1127_ z1125_ (lf_c_X5_takeFrom_3 v3_4 z1127_ hv0_4 h1128_ ) (lf_c_X5_takeFrom_3 v2_4 z1125_ hv1_4 h1126_ ) (lf_c_X1_work_686 v2_4 z1125_ h607_ h1126_ ) (RCH.tail hL_4 ⟨hv0_4, hv1_4, hv2_4, hI_4, hF_4, z2_, e3_, h4_, h8_, j14_, h15_, z12_, e13_, z16_, h17_, (Or.inr ⟨h18_, (Or.inr ⟨h607_, (Or.inr ⟨h1093_, j1121_, h1122_, M1119_, hM1120_, z1125_, h1126_, z1127_, h1128_, rfl, rfl, rfl⟩)⟩)⟩)⟩) (Nat.lt_of_lt_of_le (lf_c_X1_work_3 v3_4 z1127_ h8_ h1128_ ) (Nat.le_of_lt_succ hm_4))
  exact lp1_ _ Mz hIz hFz 0 0 (lf_c_X5_takeFrom_5 ) (lf_c_X5_takeFrom_5 ) (lf_c_X1_work_705 ) RCH.refl (Nat.lt_succ_self _)
def S_c_X1_takeFrom (b : Nat) (w : Nat) (b2 : Nat) (w2 : Nat) : rf → Nat → Prop := fun c k => (c.1 = 1 ∧ c.2.1 = b ∧ c.2.2 = w ∧ k = 2) ∨ (c.1 = 24 ∧ c.2.1 = b ∧ c.2.2 = w) ∨ False
def SP_X1_takeFrom (b : Nat) (w : Nat) (b2 : Nat) (w2 : Nat) (Mz : mM) (M_ : mM) : Prop := ∃ z1_ : Int32, (z1_ = Mz.1 (1, b2, w2) 2) ∧ ∃ M3_ : mM, (M3_ = up Mz (1, b, w) 2 z1_) ∧ ∃ M7_ : mM, (M7_ = cp M3_ (24, b2, w2) (24, b, w) (0 : Int32).toNatClampNeg (0 : Int32).toNatClampNeg (48 : Int32).toNatClampNeg) ∧ M_ = M7_
set_option maxHeartbeats 4000000 in
set_option maxRecDepth 100000 in
theorem c_X1_takeFrom (l : Launch) (G : va_G) (cy : Nat → ClassId) (ad : rf → Nat) (d : Nat) (b : Nat) (w : Nat) (b2 : Nat) (w2 : Nat) (Mz : mM) (hIz : Inv Mz) (hv : vF b w) (hv2 : vF b2 w2) : WP CC l G cy ad yX1_takeFrom cX1_takeFrom 2 none (d + 1) 0 [(0, vR (1, b, w)), (1, vR (1, b2, w2))] [] Mz (fun r M' => Inv M' ∧ FR (S_c_X1_takeFrom b w b2 w2) Mz M' ∧ (True) ∧ SP_X1_takeFrom b w b2 w2 Mz M') := by
  have hFz : FR (S_c_X1_takeFrom b w b2 w2) Mz Mz := FR.self
  refine w_aload_n dX1_takeFrom_0 rfl 0 rfl ?_
  refine w_aload_n dX1_takeFrom_1 rfl 1 rfl ?_
  refine w_getI fl_RX1_16 rfl rfl (ic_1 hv2) dX1_takeFrom_2 (fun z1_ e2_ => ?_)
  refine w_putI CC_nd fl_RX1_16 rfl rfl (ic_1 hv) dX1_takeFrom_5 (fun M3_ hM4_ => ?_)
  have hI5_ := hIz.put hM4_ trivial
  have hF6_ := hFz.put hM4_ (Or.inl ⟨rfl, rfl, rfl, rfl⟩)
  refine w_aload_n dX1_takeFrom_8 rfl 1 rfl ?_
  refine w_getR (c' := (24, b2, w2)) fl_RX1_9 rfl rfl (ic_1 hv2) dX1_takeFrom_9 rfl ?_
  refine w_iconst (v := 0) dX1_takeFrom_12 (by decide) ?_
  refine w_aload_n dX1_takeFrom_13 rfl 0 rfl ?_
  refine w_getR (c' := (24, b, w)) fl_RX1_9 rfl rfl (ic_1 hv) dX1_takeFrom_14 rfl ?_
  refine w_iconst (v := 0) dX1_takeFrom_17 (by decide) ?_
  refine w_bipush (v := 48) dX1_takeFrom_18 (by decide) ?_
  refine w_copy CC_nd rfl rfl (ic_24 hv2) rfl rfl (ic_24 hv) m_828 m_830 m_829 m_98 li_0 li_0 li_48 (by decide) rfl (by omega) dX1_takeFrom_20 (fun M7_ hM8_ => ?_)
  have hI9_ := hI5_.cpy hM8_ (fun _ _ => trivial)
  have hF10_ := hF6_.cpy hM8_ (fun _ => (Or.inr (Or.inl ⟨rfl, rfl, rfl⟩)))
  exact w_vret rfl dX1_takeFrom_23 ⟨hI9_, hF10_, trivial, ⟨z1_, e2_, M3_, hM4_, M7_, hM8_, rfl⟩⟩
end
section
/-! words of the tables that are used, by their places; decode rows; fields -/
theorem li_40 : (40 : Int32).toInt = 40 := by decide
theorem m_13 : Cond.selects yX7_letThingGo.cls yX7_letThingGo yX7_letThingGo ∈ BASE := bmem 13 (by decide +kernel) rfl
set_option maxRecDepth 20000 in
theorem m_121 : Cond.fieldLink RX7 9 "ClickStreet$Street" "occupants" "[I" ∈ BASE := bmT1 43 rfl rfl
set_option maxRecDepth 20000 in
theorem m_124 : Cond.fieldLink RX7 13 "ClickStreet$Street" "kinds" "[I" ∈ BASE := bmT1 46 rfl rfl
set_option maxRecDepth 20000 in
theorem m_126 : Cond.fieldLink RX7 16 "ClickStreet$Street" "cells" "[I" ∈ BASE := bmT1 48 rfl rfl
set_option maxRecDepth 20000 in
theorem m_128 : Cond.fieldLink RX7 19 "ClickStreet$Street" "sides" "[I" ∈ BASE := bmT1 50 rfl rfl
set_option maxRecDepth 20000 in
theorem m_130 : Cond.fieldLink RX7 22 "ClickStreet$Street" "steps" "[I" ∈ BASE := bmT1 52 rfl rfl
set_option maxRecDepth 20000 in
theorem m_132 : Cond.fieldLink RX7 25 "ClickStreet$Street" "things" "I" ∈ BASE := bmT1 54 rfl rfl
set_option maxRecDepth 20000 in
theorem m_506 : Cond.instanceMethod yX7_isFree ∈ BASE := bmT2 188 rfl rfl
set_option maxRecDepth 20000 in
theorem m_507 : Cond.selects yX7_isFree.cls yX7_isFree yX7_isFree ∈ BASE := bmT2 189 rfl rfl
set_option maxRecDepth 20000 in
theorem m_508 : Cond.code yX7_isFree cX7_isFree 2 (some .boolean) ∈ BASE := bmT2 190 rfl rfl
set_option maxRecDepth 20000 in
theorem m_518 : Cond.methodLink RX7 42 yX7_settle ∈ BASE := bmT2 200 rfl rfl
set_option maxRecDepth 20000 in
theorem m_519 : Cond.instanceMethod yX7_settle ∈ BASE := bmT2 201 rfl rfl
set_option maxRecDepth 20000 in
theorem m_520 : Cond.selects yX7_settle.cls yX7_settle yX7_settle ∈ BASE := bmT2 202 rfl rfl
set_option maxRecDepth 20000 in
theorem m_521 : Cond.code yX7_settle cX7_settle 3 none ∈ BASE := bmT2 203 rfl rfl
set_option maxRecDepth 20000 in
theorem m_527 : Cond.instanceMethod yX7_hasThing ∈ BASE := bmT2 209 rfl rfl
set_option maxRecDepth 20000 in
theorem m_528 : Cond.selects yX7_hasThing.cls yX7_hasThing yX7_hasThing ∈ BASE := bmT2 210 rfl rfl
set_option maxRecDepth 20000 in
theorem m_529 : Cond.code yX7_hasThing cX7_hasThing 2 (some .boolean) ∈ BASE := bmT2 211 rfl rfl
set_option maxRecDepth 20000 in
theorem m_534 : Cond.methodLink RX7 46 yX7_hasThing ∈ BASE := bmT2 216 rfl rfl
set_option maxRecDepth 20000 in
theorem m_850 : Cond.static yX7_cellFrom ∈ BASE := bmT4 52 rfl rfl
set_option maxRecDepth 20000 in
theorem m_851 : Cond.code yX7_cellFrom cX7_cellFrom 5 (some .int) ∈ BASE := bmT4 53 rfl rfl
set_option maxRecDepth 20000 in
theorem m_1033 : Cond.methodLink RX7 49 yX7_letThingGo ∈ BASE := bmT4 235 rfl rfl
set_option maxRecDepth 20000 in
theorem m_1035 : Cond.instanceMethod yX7_letThingGo ∈ BASE := bmT4 237 rfl rfl
set_option maxRecDepth 20000 in
theorem m_1036 : Cond.code yX7_letThingGo cX7_letThingGo 3 none ∈ BASE := bmT4 238 rfl rfl
set_option maxRecDepth 20000 in
theorem m_1037 : Cond.methodLink RX7 53 yX7_cellFrom ∈ BASE := bmT4 239 rfl rfl
set_option maxRecDepth 20000 in
theorem m_1038 : Cond.methodLink RX7 57 yX7_isFree ∈ BASE := bmT5 0 rfl rfl
set_option maxRecDepth 20000 in
theorem m_1262 : Cond.methodLink RX7 60 arraycopyName ∈ BASE := bmT5 224 rfl rfl
theorem kS_X7_cellFrom : KS yX7_cellFrom cX7_cellFrom 5 (some .int) 3 := ⟨m_850, m_81, m_851, nhM_1, nhV_1, pdn_3⟩
theorem kV_X7_hasThing : KV yX7_hasThing cX7_hasThing 2 (some .boolean) 1 := ⟨m_527, m_528, m_81, m_529, nhM_1, nhV_1, pdn_1⟩
theorem kV_X7_isFree : KV yX7_isFree cX7_isFree 2 (some .boolean) 1 := ⟨m_506, m_507, m_81, m_508, nhM_1, nhV_1, pdn_1⟩
theorem kV_X7_letThingGo : KV yX7_letThingGo cX7_letThingGo 3 none 1 := ⟨m_1035, m_13, m_81, m_1036, nhM_1, nhV_1, pdn_4⟩
theorem kV_X7_settle : KV yX7_settle cX7_settle 3 none 2 := ⟨m_519, m_520, m_81, m_521, nhM_1, nhV_1, pdn_5⟩
theorem inB7 : ∀ w ∈ u_ws RX7 TX7 6, w ∈ BASE := bmems (u_ws RX7 TX7 6) [133, 135, 137, 139, 141, 143] (by decide +kernel) (by decide +kernel)
theorem fl_RX7_13 : FLK RX7 13 7 1 (.array .int) true := ⟨RX7, TX7, 6, tyX7, rfl, inB7, tyX7_ok, nmX7, by decide, rfl, rfl, Or.inl m_124⟩
theorem fl_RX7_16 : FLK RX7 16 7 2 (.array .int) true := ⟨RX7, TX7, 6, tyX7, rfl, inB7, tyX7_ok, nmX7, by decide, rfl, rfl, Or.inl m_126⟩
theorem fl_RX7_19 : FLK RX7 19 7 3 (.array .int) true := ⟨RX7, TX7, 6, tyX7, rfl, inB7, tyX7_ok, nmX7, by decide, rfl, rfl, Or.inl m_128⟩
theorem fl_RX7_22 : FLK RX7 22 7 4 (.array .int) true := ⟨RX7, TX7, 6, tyX7, rfl, inB7, tyX7_ok, nmX7, by decide, rfl, rfl, Or.inl m_130⟩
theorem fl_RX7_25 : FLK RX7 25 7 5 .int false := ⟨RX7, TX7, 6, tyX7, rfl, inB7, tyX7_ok, nmX7, by decide, rfl, rfl, Or.inl m_132⟩
theorem fl_RX7_9 : FLK RX7 9 7 0 (.array .int) true := ⟨RX7, TX7, 6, tyX7, rfl, inB7, tyX7_ok, nmX7, by decide, rfl, rfl, Or.inl m_121⟩
theorem ch_cX7_addThing_0 : (cX7_addThing.data.toList.drop 0).take 36 = [42, 180, 0, 25, 62, 29, 155, 0, 9, 29, 16, 40, 161, 0, 5, 2, 172, 42, 180, 0, 13, 29, 27, 79, 42, 180, 0, 16, 29, 28, 79, 42, 180, 0, 19, 29] := by decide +kernel
theorem dX7_addThing_0 : decode cX7_addThing 0 = .ok (.aload_n 0, 1) := do_42 (rdb (p := 0) (i := 0) ch_cX7_addThing_0 rfl)
theorem dX7_addThing_1 : decode cX7_addThing 1 = .ok (.getfield 25, 3) := do_180 (rdb (p := 0) (i := 1) ch_cX7_addThing_0 rfl) (rdb (p := 0) (i := 2) ch_cX7_addThing_0 rfl) (rdb (p := 0) (i := 3) ch_cX7_addThing_0 rfl) rfl
theorem dX7_addThing_4 : decode cX7_addThing 4 = .ok (.istore_n 3, 1) := do_62 (rdb (p := 0) (i := 4) ch_cX7_addThing_0 rfl)
theorem dX7_addThing_5 : decode cX7_addThing 5 = .ok (.iload_n 3, 1) := do_29 (rdb (p := 0) (i := 5) ch_cX7_addThing_0 rfl)
theorem dX7_addThing_6 : decode cX7_addThing 6 = .ok (.ifCond .lt 9, 3) := do_155 (rdb (p := 0) (i := 6) ch_cX7_addThing_0 rfl) (rdb (p := 0) (i := 7) ch_cX7_addThing_0 rfl) (rdb (p := 0) (i := 8) ch_cX7_addThing_0 rfl) (by decide +kernel)
theorem dX7_addThing_9 : decode cX7_addThing 9 = .ok (.iload_n 3, 1) := do_29 (rdb (p := 0) (i := 9) ch_cX7_addThing_0 rfl)
theorem dX7_addThing_10 : decode cX7_addThing 10 = .ok (.bipush 40, 2) := do_16 (rdb (p := 0) (i := 10) ch_cX7_addThing_0 rfl) (rdb (p := 0) (i := 11) ch_cX7_addThing_0 rfl) (by decide +kernel)
theorem dX7_addThing_12 : decode cX7_addThing 12 = .ok (.if_icmp .lt 5, 3) := do_161 (rdb (p := 0) (i := 12) ch_cX7_addThing_0 rfl) (rdb (p := 0) (i := 13) ch_cX7_addThing_0 rfl) (rdb (p := 0) (i := 14) ch_cX7_addThing_0 rfl) (by decide +kernel)
theorem dX7_addThing_15 : decode cX7_addThing 15 = .ok (.iconst (-1), 1) := do_2 (rdb (p := 0) (i := 15) ch_cX7_addThing_0 rfl)
theorem dX7_addThing_16 : decode cX7_addThing 16 = .ok (.ireturn, 1) := do_172 (rdb (p := 0) (i := 16) ch_cX7_addThing_0 rfl)
theorem dX7_addThing_17 : decode cX7_addThing 17 = .ok (.aload_n 0, 1) := do_42 (rdb (p := 0) (i := 17) ch_cX7_addThing_0 rfl)
theorem dX7_addThing_18 : decode cX7_addThing 18 = .ok (.getfield 13, 3) := do_180 (rdb (p := 0) (i := 18) ch_cX7_addThing_0 rfl) (rdb (p := 0) (i := 19) ch_cX7_addThing_0 rfl) (rdb (p := 0) (i := 20) ch_cX7_addThing_0 rfl) rfl
theorem dX7_addThing_21 : decode cX7_addThing 21 = .ok (.iload_n 3, 1) := do_29 (rdb (p := 0) (i := 21) ch_cX7_addThing_0 rfl)
theorem dX7_addThing_22 : decode cX7_addThing 22 = .ok (.iload_n 1, 1) := do_27 (rdb (p := 0) (i := 22) ch_cX7_addThing_0 rfl)
theorem dX7_addThing_23 : decode cX7_addThing 23 = .ok (.iastore, 1) := do_79 (rdb (p := 0) (i := 23) ch_cX7_addThing_0 rfl)
theorem dX7_addThing_24 : decode cX7_addThing 24 = .ok (.aload_n 0, 1) := do_42 (rdb (p := 0) (i := 24) ch_cX7_addThing_0 rfl)
theorem dX7_addThing_25 : decode cX7_addThing 25 = .ok (.getfield 16, 3) := do_180 (rdb (p := 0) (i := 25) ch_cX7_addThing_0 rfl) (rdb (p := 0) (i := 26) ch_cX7_addThing_0 rfl) (rdb (p := 0) (i := 27) ch_cX7_addThing_0 rfl) rfl
theorem dX7_addThing_28 : decode cX7_addThing 28 = .ok (.iload_n 3, 1) := do_29 (rdb (p := 0) (i := 28) ch_cX7_addThing_0 rfl)
theorem dX7_addThing_29 : decode cX7_addThing 29 = .ok (.iload_n 2, 1) := do_28 (rdb (p := 0) (i := 29) ch_cX7_addThing_0 rfl)
theorem dX7_addThing_30 : decode cX7_addThing 30 = .ok (.iastore, 1) := do_79 (rdb (p := 0) (i := 30) ch_cX7_addThing_0 rfl)
theorem dX7_addThing_31 : decode cX7_addThing 31 = .ok (.aload_n 0, 1) := do_42 (rdb (p := 0) (i := 31) ch_cX7_addThing_0 rfl)
theorem ch_cX7_addThing_32 : (cX7_addThing.data.toList.drop 32).take 36 = [180, 0, 19, 29, 3, 79, 42, 180, 0, 22, 29, 3, 79, 42, 28, 29, 182, 0, 42, 42, 89, 180, 0, 25, 4, 96, 181, 0, 25, 29, 172] := by decide +kernel
theorem dX7_addThing_32 : decode cX7_addThing 32 = .ok (.getfield 19, 3) := do_180 (rdb (p := 32) (i := 0) ch_cX7_addThing_32 rfl) (rdb (p := 32) (i := 1) ch_cX7_addThing_32 rfl) (rdb (p := 32) (i := 2) ch_cX7_addThing_32 rfl) rfl
theorem dX7_addThing_35 : decode cX7_addThing 35 = .ok (.iload_n 3, 1) := do_29 (rdb (p := 32) (i := 3) ch_cX7_addThing_32 rfl)
theorem dX7_addThing_36 : decode cX7_addThing 36 = .ok (.iconst 0, 1) := do_3 (rdb (p := 32) (i := 4) ch_cX7_addThing_32 rfl)
theorem dX7_addThing_37 : decode cX7_addThing 37 = .ok (.iastore, 1) := do_79 (rdb (p := 32) (i := 5) ch_cX7_addThing_32 rfl)
theorem dX7_addThing_38 : decode cX7_addThing 38 = .ok (.aload_n 0, 1) := do_42 (rdb (p := 32) (i := 6) ch_cX7_addThing_32 rfl)
theorem dX7_addThing_39 : decode cX7_addThing 39 = .ok (.getfield 22, 3) := do_180 (rdb (p := 32) (i := 7) ch_cX7_addThing_32 rfl) (rdb (p := 32) (i := 8) ch_cX7_addThing_32 rfl) (rdb (p := 32) (i := 9) ch_cX7_addThing_32 rfl) rfl
theorem dX7_addThing_42 : decode cX7_addThing 42 = .ok (.iload_n 3, 1) := do_29 (rdb (p := 32) (i := 10) ch_cX7_addThing_32 rfl)
theorem dX7_addThing_43 : decode cX7_addThing 43 = .ok (.iconst 0, 1) := do_3 (rdb (p := 32) (i := 11) ch_cX7_addThing_32 rfl)
theorem dX7_addThing_44 : decode cX7_addThing 44 = .ok (.iastore, 1) := do_79 (rdb (p := 32) (i := 12) ch_cX7_addThing_32 rfl)
theorem dX7_addThing_45 : decode cX7_addThing 45 = .ok (.aload_n 0, 1) := do_42 (rdb (p := 32) (i := 13) ch_cX7_addThing_32 rfl)
theorem dX7_addThing_46 : decode cX7_addThing 46 = .ok (.iload_n 2, 1) := do_28 (rdb (p := 32) (i := 14) ch_cX7_addThing_32 rfl)
theorem dX7_addThing_47 : decode cX7_addThing 47 = .ok (.iload_n 3, 1) := do_29 (rdb (p := 32) (i := 15) ch_cX7_addThing_32 rfl)
theorem dX7_addThing_48 : decode cX7_addThing 48 = .ok (.invokevirtual 42, 3) := do_182 (rdb (p := 32) (i := 16) ch_cX7_addThing_32 rfl) (rdb (p := 32) (i := 17) ch_cX7_addThing_32 rfl) (rdb (p := 32) (i := 18) ch_cX7_addThing_32 rfl) rfl
theorem dX7_addThing_51 : decode cX7_addThing 51 = .ok (.aload_n 0, 1) := do_42 (rdb (p := 32) (i := 19) ch_cX7_addThing_32 rfl)
theorem dX7_addThing_52 : decode cX7_addThing 52 = .ok (.dup, 1) := do_89 (rdb (p := 32) (i := 20) ch_cX7_addThing_32 rfl)
theorem dX7_addThing_53 : decode cX7_addThing 53 = .ok (.getfield 25, 3) := do_180 (rdb (p := 32) (i := 21) ch_cX7_addThing_32 rfl) (rdb (p := 32) (i := 22) ch_cX7_addThing_32 rfl) (rdb (p := 32) (i := 23) ch_cX7_addThing_32 rfl) rfl
theorem dX7_addThing_56 : decode cX7_addThing 56 = .ok (.iconst 1, 1) := do_4 (rdb (p := 32) (i := 24) ch_cX7_addThing_32 rfl)
theorem dX7_addThing_57 : decode cX7_addThing 57 = .ok (.iadd, 1) := do_96 (rdb (p := 32) (i := 25) ch_cX7_addThing_32 rfl)
theorem dX7_addThing_58 : decode cX7_addThing 58 = .ok (.putfield 25, 3) := do_181 (rdb (p := 32) (i := 26) ch_cX7_addThing_32 rfl) (rdb (p := 32) (i := 27) ch_cX7_addThing_32 rfl) (rdb (p := 32) (i := 28) ch_cX7_addThing_32 rfl) rfl
theorem dX7_addThing_61 : decode cX7_addThing 61 = .ok (.iload_n 3, 1) := do_29 (rdb (p := 32) (i := 29) ch_cX7_addThing_32 rfl)
theorem dX7_addThing_62 : decode cX7_addThing 62 = .ok (.ireturn, 1) := do_172 (rdb (p := 32) (i := 30) ch_cX7_addThing_32 rfl)
theorem dX7_countThings_0 : decode cX7_countThings 0 = .ok (.iconst 0, 1) := by decide +kernel
theorem dX7_countThings_1 : decode cX7_countThings 1 = .ok (.istore_n 1, 1) := by decide +kernel
theorem dX7_countThings_2 : decode cX7_countThings 2 = .ok (.iconst 0, 1) := by decide +kernel
theorem dX7_countThings_3 : decode cX7_countThings 3 = .ok (.istore_n 2, 1) := by decide +kernel
theorem dX7_countThings_4 : decode cX7_countThings 4 = .ok (.iload_n 2, 1) := by decide +kernel
theorem dX7_countThings_5 : decode cX7_countThings 5 = .ok (.aload_n 0, 1) := by decide +kernel
theorem dX7_countThings_6 : decode cX7_countThings 6 = .ok (.getfield 25, 3) := by decide +kernel
theorem dX7_countThings_9 : decode cX7_countThings 9 = .ok (.if_icmp .ge 27, 3) := by decide +kernel
theorem dX7_countThings_12 : decode cX7_countThings 12 = .ok (.iload_n 2, 1) := by decide +kernel
theorem dX7_countThings_13 : decode cX7_countThings 13 = .ok (.bipush 40, 2) := by decide +kernel
theorem dX7_countThings_15 : decode cX7_countThings 15 = .ok (.if_icmp .ge 21, 3) := by decide +kernel
theorem dX7_countThings_18 : decode cX7_countThings 18 = .ok (.aload_n 0, 1) := by decide +kernel
theorem dX7_countThings_19 : decode cX7_countThings 19 = .ok (.getfield 16, 3) := by decide +kernel
theorem dX7_countThings_22 : decode cX7_countThings 22 = .ok (.iload_n 2, 1) := by decide +kernel
theorem dX7_countThings_23 : decode cX7_countThings 23 = .ok (.iaload, 1) := by decide +kernel
theorem dX7_countThings_24 : decode cX7_countThings 24 = .ok (.ifCond .lt 6, 3) := by decide +kernel
theorem dX7_countThings_27 : decode cX7_countThings 27 = .ok (.iinc 1 1, 3) := by decide +kernel
theorem dX7_countThings_30 : decode cX7_countThings 30 = .ok (.iinc 2 1, 3) := by decide +kernel
theorem dX7_countThings_33 : decode cX7_countThings 33 = .ok (.goto (-29), 3) := by decide +kernel
theorem dX7_countThings_36 : decode cX7_countThings 36 = .ok (.iload_n 1, 1) := by decide +kernel
theorem dX7_countThings_37 : decode cX7_countThings 37 = .ok (.ireturn, 1) := by decide +kernel
theorem ch_cX7_factOf_0 : (cX7_factOf.data.toList.drop 0).take 36 = [42, 27, 182, 0, 46, 154, 0, 5, 3, 172, 28, 170, 0, 0, 0, 46, 0, 0, 0, 0, 0, 0, 0, 2, 0, 0, 0, 25, 0, 0, 0, 32, 0, 0, 0, 39] := by decide +kernel
theorem dX7_factOf_0 : decode cX7_factOf 0 = .ok (.aload_n 0, 1) := do_42 (rdb (p := 0) (i := 0) ch_cX7_factOf_0 rfl)
theorem dX7_factOf_1 : decode cX7_factOf 1 = .ok (.iload_n 1, 1) := do_27 (rdb (p := 0) (i := 1) ch_cX7_factOf_0 rfl)
theorem dX7_factOf_2 : decode cX7_factOf 2 = .ok (.invokevirtual 46, 3) := do_182 (rdb (p := 0) (i := 2) ch_cX7_factOf_0 rfl) (rdb (p := 0) (i := 3) ch_cX7_factOf_0 rfl) (rdb (p := 0) (i := 4) ch_cX7_factOf_0 rfl) rfl
theorem dX7_factOf_5 : decode cX7_factOf 5 = .ok (.ifCond .ne 5, 3) := do_154 (rdb (p := 0) (i := 5) ch_cX7_factOf_0 rfl) (rdb (p := 0) (i := 6) ch_cX7_factOf_0 rfl) (rdb (p := 0) (i := 7) ch_cX7_factOf_0 rfl) (by decide +kernel)
theorem dX7_factOf_8 : decode cX7_factOf 8 = .ok (.iconst 0, 1) := do_3 (rdb (p := 0) (i := 8) ch_cX7_factOf_0 rfl)
theorem dX7_factOf_9 : decode cX7_factOf 9 = .ok (.ireturn, 1) := do_172 (rdb (p := 0) (i := 9) ch_cX7_factOf_0 rfl)
theorem dX7_factOf_10 : decode cX7_factOf 10 = .ok (.iload_n 2, 1) := do_28 (rdb (p := 0) (i := 10) ch_cX7_factOf_0 rfl)
theorem dX7_factOf_11 : decode cX7_factOf 11 = .ok (.tableswitch 46 0 2 #[25, 32, 39], 25) := by decide +kernel
theorem ch_cX7_factOf_32 : (cX7_factOf.data.toList.drop 32).take 36 = [0, 0, 0, 39, 42, 180, 0, 13, 27, 46, 172, 42, 180, 0, 16, 27, 46, 172, 42, 180, 0, 19, 27, 46, 172, 42, 180, 0, 22, 27, 46, 172] := by decide +kernel
theorem dX7_factOf_36 : decode cX7_factOf 36 = .ok (.aload_n 0, 1) := do_42 (rdb (p := 32) (i := 4) ch_cX7_factOf_32 rfl)
theorem dX7_factOf_37 : decode cX7_factOf 37 = .ok (.getfield 13, 3) := do_180 (rdb (p := 32) (i := 5) ch_cX7_factOf_32 rfl) (rdb (p := 32) (i := 6) ch_cX7_factOf_32 rfl) (rdb (p := 32) (i := 7) ch_cX7_factOf_32 rfl) rfl
theorem dX7_factOf_40 : decode cX7_factOf 40 = .ok (.iload_n 1, 1) := do_27 (rdb (p := 32) (i := 8) ch_cX7_factOf_32 rfl)
theorem dX7_factOf_41 : decode cX7_factOf 41 = .ok (.iaload, 1) := do_46 (rdb (p := 32) (i := 9) ch_cX7_factOf_32 rfl)
theorem dX7_factOf_42 : decode cX7_factOf 42 = .ok (.ireturn, 1) := do_172 (rdb (p := 32) (i := 10) ch_cX7_factOf_32 rfl)
theorem dX7_factOf_43 : decode cX7_factOf 43 = .ok (.aload_n 0, 1) := do_42 (rdb (p := 32) (i := 11) ch_cX7_factOf_32 rfl)
theorem dX7_factOf_44 : decode cX7_factOf 44 = .ok (.getfield 16, 3) := do_180 (rdb (p := 32) (i := 12) ch_cX7_factOf_32 rfl) (rdb (p := 32) (i := 13) ch_cX7_factOf_32 rfl) (rdb (p := 32) (i := 14) ch_cX7_factOf_32 rfl) rfl
theorem dX7_factOf_47 : decode cX7_factOf 47 = .ok (.iload_n 1, 1) := do_27 (rdb (p := 32) (i := 15) ch_cX7_factOf_32 rfl)
theorem dX7_factOf_48 : decode cX7_factOf 48 = .ok (.iaload, 1) := do_46 (rdb (p := 32) (i := 16) ch_cX7_factOf_32 rfl)
theorem dX7_factOf_49 : decode cX7_factOf 49 = .ok (.ireturn, 1) := do_172 (rdb (p := 32) (i := 17) ch_cX7_factOf_32 rfl)
theorem dX7_factOf_50 : decode cX7_factOf 50 = .ok (.aload_n 0, 1) := do_42 (rdb (p := 32) (i := 18) ch_cX7_factOf_32 rfl)
theorem dX7_factOf_51 : decode cX7_factOf 51 = .ok (.getfield 19, 3) := do_180 (rdb (p := 32) (i := 19) ch_cX7_factOf_32 rfl) (rdb (p := 32) (i := 20) ch_cX7_factOf_32 rfl) (rdb (p := 32) (i := 21) ch_cX7_factOf_32 rfl) rfl
theorem dX7_factOf_54 : decode cX7_factOf 54 = .ok (.iload_n 1, 1) := do_27 (rdb (p := 32) (i := 22) ch_cX7_factOf_32 rfl)
theorem dX7_factOf_55 : decode cX7_factOf 55 = .ok (.iaload, 1) := do_46 (rdb (p := 32) (i := 23) ch_cX7_factOf_32 rfl)
theorem dX7_factOf_56 : decode cX7_factOf 56 = .ok (.ireturn, 1) := do_172 (rdb (p := 32) (i := 24) ch_cX7_factOf_32 rfl)
theorem dX7_factOf_57 : decode cX7_factOf 57 = .ok (.aload_n 0, 1) := do_42 (rdb (p := 32) (i := 25) ch_cX7_factOf_32 rfl)
theorem dX7_factOf_58 : decode cX7_factOf 58 = .ok (.getfield 22, 3) := do_180 (rdb (p := 32) (i := 26) ch_cX7_factOf_32 rfl) (rdb (p := 32) (i := 27) ch_cX7_factOf_32 rfl) (rdb (p := 32) (i := 28) ch_cX7_factOf_32 rfl) rfl
theorem dX7_factOf_61 : decode cX7_factOf 61 = .ok (.iload_n 1, 1) := do_27 (rdb (p := 32) (i := 29) ch_cX7_factOf_32 rfl)
theorem dX7_factOf_62 : decode cX7_factOf 62 = .ok (.iaload, 1) := do_46 (rdb (p := 32) (i := 30) ch_cX7_factOf_32 rfl)
theorem dX7_factOf_63 : decode cX7_factOf 63 = .ok (.ireturn, 1) := do_172 (rdb (p := 32) (i := 31) ch_cX7_factOf_32 rfl)
theorem dX7_hasRoom_0 : decode cX7_hasRoom 0 = .ok (.aload_n 0, 1) := by decide +kernel
theorem dX7_hasRoom_1 : decode cX7_hasRoom 1 = .ok (.getfield 25, 3) := by decide +kernel
theorem dX7_hasRoom_4 : decode cX7_hasRoom 4 = .ok (.bipush 40, 2) := by decide +kernel
theorem dX7_hasRoom_6 : decode cX7_hasRoom 6 = .ok (.if_icmp .ge 7, 3) := by decide +kernel
theorem dX7_hasRoom_9 : decode cX7_hasRoom 9 = .ok (.iconst 1, 1) := by decide +kernel
theorem dX7_hasRoom_10 : decode cX7_hasRoom 10 = .ok (.goto 4, 3) := by decide +kernel
theorem dX7_hasRoom_13 : decode cX7_hasRoom 13 = .ok (.iconst 0, 1) := by decide +kernel
theorem dX7_hasRoom_14 : decode cX7_hasRoom 14 = .ok (.ireturn, 1) := by decide +kernel
theorem dX7_hasThing_0 : decode cX7_hasThing 0 = .ok (.iload_n 1, 1) := by decide +kernel
theorem dX7_hasThing_1 : decode cX7_hasThing 1 = .ok (.ifCond .lt 21, 3) := by decide +kernel
theorem dX7_hasThing_4 : decode cX7_hasThing 4 = .ok (.iload_n 1, 1) := by decide +kernel
theorem dX7_hasThing_5 : decode cX7_hasThing 5 = .ok (.aload_n 0, 1) := by decide +kernel
theorem dX7_hasThing_6 : decode cX7_hasThing 6 = .ok (.getfield 25, 3) := by decide +kernel
theorem dX7_hasThing_9 : decode cX7_hasThing 9 = .ok (.if_icmp .ge 13, 3) := by decide +kernel
theorem dX7_hasThing_12 : decode cX7_hasThing 12 = .ok (.iload_n 1, 1) := by decide +kernel
theorem dX7_hasThing_13 : decode cX7_hasThing 13 = .ok (.bipush 40, 2) := by decide +kernel
theorem dX7_hasThing_15 : decode cX7_hasThing 15 = .ok (.if_icmp .ge 7, 3) := by decide +kernel
theorem dX7_hasThing_18 : decode cX7_hasThing 18 = .ok (.iconst 1, 1) := by decide +kernel
theorem dX7_hasThing_19 : decode cX7_hasThing 19 = .ok (.goto 4, 3) := by decide +kernel
theorem dX7_hasThing_22 : decode cX7_hasThing 22 = .ok (.iconst 0, 1) := by decide +kernel
theorem dX7_hasThing_23 : decode cX7_hasThing 23 = .ok (.ireturn, 1) := by decide +kernel
theorem dX7_isFree_0 : decode cX7_isFree 0 = .ok (.iload_n 1, 1) := by decide +kernel
theorem dX7_isFree_1 : decode cX7_isFree 1 = .ok (.invokestatic 29, 3) := by decide +kernel
theorem dX7_isFree_4 : decode cX7_isFree 4 = .ok (.ifCond .eq 17, 3) := by decide +kernel
theorem dX7_isFree_7 : decode cX7_isFree 7 = .ok (.aload_n 0, 1) := by decide +kernel
theorem dX7_isFree_8 : decode cX7_isFree 8 = .ok (.getfield 9, 3) := by decide +kernel
theorem dX7_isFree_11 : decode cX7_isFree 11 = .ok (.iload_n 1, 1) := by decide +kernel
theorem dX7_isFree_12 : decode cX7_isFree 12 = .ok (.iaload, 1) := by decide +kernel
theorem dX7_isFree_13 : decode cX7_isFree 13 = .ok (.iconst (-1), 1) := by decide +kernel
theorem dX7_isFree_14 : decode cX7_isFree 14 = .ok (.if_icmp .ne 7, 3) := by decide +kernel
theorem dX7_isFree_17 : decode cX7_isFree 17 = .ok (.iconst 1, 1) := by decide +kernel
theorem dX7_isFree_18 : decode cX7_isFree 18 = .ok (.goto 4, 3) := by decide +kernel
theorem dX7_isFree_21 : decode cX7_isFree 21 = .ok (.iconst 0, 1) := by decide +kernel
theorem dX7_isFree_22 : decode cX7_isFree 22 = .ok (.ireturn, 1) := by decide +kernel
theorem dX7_kindIn_0 : decode cX7_kindIn 0 = .ok (.iload_n 1, 1) := by decide +kernel
theorem dX7_kindIn_1 : decode cX7_kindIn 1 = .ok (.invokestatic 29, 3) := by decide +kernel
theorem dX7_kindIn_4 : decode cX7_kindIn 4 = .ok (.ifCond .eq 12, 3) := by decide +kernel
theorem dX7_kindIn_7 : decode cX7_kindIn 7 = .ok (.aload_n 0, 1) := by decide +kernel
theorem dX7_kindIn_8 : decode cX7_kindIn 8 = .ok (.getfield 9, 3) := by decide +kernel
theorem dX7_kindIn_11 : decode cX7_kindIn 11 = .ok (.iload_n 1, 1) := by decide +kernel
theorem dX7_kindIn_12 : decode cX7_kindIn 12 = .ok (.iaload, 1) := by decide +kernel
theorem dX7_kindIn_13 : decode cX7_kindIn 13 = .ok (.goto 4, 3) := by decide +kernel
theorem dX7_kindIn_16 : decode cX7_kindIn 16 = .ok (.iconst (-1), 1) := by decide +kernel
theorem dX7_kindIn_17 : decode cX7_kindIn 17 = .ok (.istore_n 2, 1) := by decide +kernel
theorem dX7_kindIn_18 : decode cX7_kindIn 18 = .ok (.aload_n 0, 1) := by decide +kernel
theorem dX7_kindIn_19 : decode cX7_kindIn 19 = .ok (.iload_n 2, 1) := by decide +kernel
theorem dX7_kindIn_20 : decode cX7_kindIn 20 = .ok (.invokevirtual 46, 3) := by decide +kernel
theorem dX7_kindIn_23 : decode cX7_kindIn 23 = .ok (.ifCond .eq 12, 3) := by decide +kernel
theorem dX7_kindIn_26 : decode cX7_kindIn 26 = .ok (.aload_n 0, 1) := by decide +kernel
theorem dX7_kindIn_27 : decode cX7_kindIn 27 = .ok (.getfield 13, 3) := by decide +kernel
theorem dX7_kindIn_30 : decode cX7_kindIn 30 = .ok (.iload_n 2, 1) := by decide +kernel
theorem dX7_kindIn_31 : decode cX7_kindIn 31 = .ok (.iaload, 1) := by decide +kernel
theorem dX7_kindIn_32 : decode cX7_kindIn 32 = .ok (.goto 4, 3) := by decide +kernel
theorem dX7_kindIn_35 : decode cX7_kindIn 35 = .ok (.iconst 3, 1) := by decide +kernel
theorem dX7_kindIn_36 : decode cX7_kindIn 36 = .ok (.ireturn, 1) := by decide +kernel
theorem ch_cX7_letThingGo_0 : (cX7_letThingGo.data.toList.drop 0).take 36 = [42, 27, 182, 0, 46, 154, 0, 4, 177, 42, 180, 0, 16, 27, 46, 42, 180, 0, 19, 27, 46, 4, 184, 0, 53, 61, 42, 28, 182, 0, 57, 153, 0, 30, 42, 42] := by decide +kernel
theorem dX7_letThingGo_0 : decode cX7_letThingGo 0 = .ok (.aload_n 0, 1) := do_42 (rdb (p := 0) (i := 0) ch_cX7_letThingGo_0 rfl)
theorem dX7_letThingGo_1 : decode cX7_letThingGo 1 = .ok (.iload_n 1, 1) := do_27 (rdb (p := 0) (i := 1) ch_cX7_letThingGo_0 rfl)
theorem dX7_letThingGo_2 : decode cX7_letThingGo 2 = .ok (.invokevirtual 46, 3) := do_182 (rdb (p := 0) (i := 2) ch_cX7_letThingGo_0 rfl) (rdb (p := 0) (i := 3) ch_cX7_letThingGo_0 rfl) (rdb (p := 0) (i := 4) ch_cX7_letThingGo_0 rfl) rfl
theorem dX7_letThingGo_5 : decode cX7_letThingGo 5 = .ok (.ifCond .ne 4, 3) := do_154 (rdb (p := 0) (i := 5) ch_cX7_letThingGo_0 rfl) (rdb (p := 0) (i := 6) ch_cX7_letThingGo_0 rfl) (rdb (p := 0) (i := 7) ch_cX7_letThingGo_0 rfl) (by decide +kernel)
theorem dX7_letThingGo_8 : decode cX7_letThingGo 8 = .ok (.return_, 1) := do_177 (rdb (p := 0) (i := 8) ch_cX7_letThingGo_0 rfl)
theorem dX7_letThingGo_9 : decode cX7_letThingGo 9 = .ok (.aload_n 0, 1) := do_42 (rdb (p := 0) (i := 9) ch_cX7_letThingGo_0 rfl)
theorem dX7_letThingGo_10 : decode cX7_letThingGo 10 = .ok (.getfield 16, 3) := do_180 (rdb (p := 0) (i := 10) ch_cX7_letThingGo_0 rfl) (rdb (p := 0) (i := 11) ch_cX7_letThingGo_0 rfl) (rdb (p := 0) (i := 12) ch_cX7_letThingGo_0 rfl) rfl
theorem dX7_letThingGo_13 : decode cX7_letThingGo 13 = .ok (.iload_n 1, 1) := do_27 (rdb (p := 0) (i := 13) ch_cX7_letThingGo_0 rfl)
theorem dX7_letThingGo_14 : decode cX7_letThingGo 14 = .ok (.iaload, 1) := do_46 (rdb (p := 0) (i := 14) ch_cX7_letThingGo_0 rfl)
theorem dX7_letThingGo_15 : decode cX7_letThingGo 15 = .ok (.aload_n 0, 1) := do_42 (rdb (p := 0) (i := 15) ch_cX7_letThingGo_0 rfl)
theorem dX7_letThingGo_16 : decode cX7_letThingGo 16 = .ok (.getfield 19, 3) := do_180 (rdb (p := 0) (i := 16) ch_cX7_letThingGo_0 rfl) (rdb (p := 0) (i := 17) ch_cX7_letThingGo_0 rfl) (rdb (p := 0) (i := 18) ch_cX7_letThingGo_0 rfl) rfl
theorem dX7_letThingGo_19 : decode cX7_letThingGo 19 = .ok (.iload_n 1, 1) := do_27 (rdb (p := 0) (i := 19) ch_cX7_letThingGo_0 rfl)
theorem dX7_letThingGo_20 : decode cX7_letThingGo 20 = .ok (.iaload, 1) := do_46 (rdb (p := 0) (i := 20) ch_cX7_letThingGo_0 rfl)
theorem dX7_letThingGo_21 : decode cX7_letThingGo 21 = .ok (.iconst 1, 1) := do_4 (rdb (p := 0) (i := 21) ch_cX7_letThingGo_0 rfl)
theorem dX7_letThingGo_22 : decode cX7_letThingGo 22 = .ok (.invokestatic 53, 3) := do_184 (rdb (p := 0) (i := 22) ch_cX7_letThingGo_0 rfl) (rdb (p := 0) (i := 23) ch_cX7_letThingGo_0 rfl) (rdb (p := 0) (i := 24) ch_cX7_letThingGo_0 rfl) rfl
theorem dX7_letThingGo_25 : decode cX7_letThingGo 25 = .ok (.istore_n 2, 1) := do_61 (rdb (p := 0) (i := 25) ch_cX7_letThingGo_0 rfl)
theorem dX7_letThingGo_26 : decode cX7_letThingGo 26 = .ok (.aload_n 0, 1) := do_42 (rdb (p := 0) (i := 26) ch_cX7_letThingGo_0 rfl)
theorem dX7_letThingGo_27 : decode cX7_letThingGo 27 = .ok (.iload_n 2, 1) := do_28 (rdb (p := 0) (i := 27) ch_cX7_letThingGo_0 rfl)
theorem dX7_letThingGo_28 : decode cX7_letThingGo 28 = .ok (.invokevirtual 57, 3) := do_182 (rdb (p := 0) (i := 28) ch_cX7_letThingGo_0 rfl) (rdb (p := 0) (i := 29) ch_cX7_letThingGo_0 rfl) (rdb (p := 0) (i := 30) ch_cX7_letThingGo_0 rfl) rfl
theorem dX7_letThingGo_31 : decode cX7_letThingGo 31 = .ok (.ifCond .eq 30, 3) := do_153 (rdb (p := 0) (i := 31) ch_cX7_letThingGo_0 rfl) (rdb (p := 0) (i := 32) ch_cX7_letThingGo_0 rfl) (rdb (p := 0) (i := 33) ch_cX7_letThingGo_0 rfl) (by decide +kernel)
theorem ch_cX7_letThingGo_32 : (cX7_letThingGo.data.toList.drop 32).take 36 = [0, 30, 42, 42, 180, 0, 16, 27, 46, 2, 182, 0, 42, 42, 28, 27, 182, 0, 42, 42, 180, 0, 16, 27, 28, 79, 167, 0, 20, 42, 180, 0, 19, 27, 42, 180] := by decide +kernel
theorem dX7_letThingGo_34 : decode cX7_letThingGo 34 = .ok (.aload_n 0, 1) := do_42 (rdb (p := 32) (i := 2) ch_cX7_letThingGo_32 rfl)
theorem dX7_letThingGo_35 : decode cX7_letThingGo 35 = .ok (.aload_n 0, 1) := do_42 (rdb (p := 32) (i := 3) ch_cX7_letThingGo_32 rfl)
theorem dX7_letThingGo_36 : decode cX7_letThingGo 36 = .ok (.getfield 16, 3) := do_180 (rdb (p := 32) (i := 4) ch_cX7_letThingGo_32 rfl) (rdb (p := 32) (i := 5) ch_cX7_letThingGo_32 rfl) (rdb (p := 32) (i := 6) ch_cX7_letThingGo_32 rfl) rfl
theorem dX7_letThingGo_39 : decode cX7_letThingGo 39 = .ok (.iload_n 1, 1) := do_27 (rdb (p := 32) (i := 7) ch_cX7_letThingGo_32 rfl)
theorem dX7_letThingGo_40 : decode cX7_letThingGo 40 = .ok (.iaload, 1) := do_46 (rdb (p := 32) (i := 8) ch_cX7_letThingGo_32 rfl)
theorem dX7_letThingGo_41 : decode cX7_letThingGo 41 = .ok (.iconst (-1), 1) := do_2 (rdb (p := 32) (i := 9) ch_cX7_letThingGo_32 rfl)
theorem dX7_letThingGo_42 : decode cX7_letThingGo 42 = .ok (.invokevirtual 42, 3) := do_182 (rdb (p := 32) (i := 10) ch_cX7_letThingGo_32 rfl) (rdb (p := 32) (i := 11) ch_cX7_letThingGo_32 rfl) (rdb (p := 32) (i := 12) ch_cX7_letThingGo_32 rfl) rfl
theorem dX7_letThingGo_45 : decode cX7_letThingGo 45 = .ok (.aload_n 0, 1) := do_42 (rdb (p := 32) (i := 13) ch_cX7_letThingGo_32 rfl)
theorem dX7_letThingGo_46 : decode cX7_letThingGo 46 = .ok (.iload_n 2, 1) := do_28 (rdb (p := 32) (i := 14) ch_cX7_letThingGo_32 rfl)
theorem dX7_letThingGo_47 : decode cX7_letThingGo 47 = .ok (.iload_n 1, 1) := do_27 (rdb (p := 32) (i := 15) ch_cX7_letThingGo_32 rfl)
theorem dX7_letThingGo_48 : decode cX7_letThingGo 48 = .ok (.invokevirtual 42, 3) := do_182 (rdb (p := 32) (i := 16) ch_cX7_letThingGo_32 rfl) (rdb (p := 32) (i := 17) ch_cX7_letThingGo_32 rfl) (rdb (p := 32) (i := 18) ch_cX7_letThingGo_32 rfl) rfl
theorem dX7_letThingGo_51 : decode cX7_letThingGo 51 = .ok (.aload_n 0, 1) := do_42 (rdb (p := 32) (i := 19) ch_cX7_letThingGo_32 rfl)
theorem dX7_letThingGo_52 : decode cX7_letThingGo 52 = .ok (.getfield 16, 3) := do_180 (rdb (p := 32) (i := 20) ch_cX7_letThingGo_32 rfl) (rdb (p := 32) (i := 21) ch_cX7_letThingGo_32 rfl) (rdb (p := 32) (i := 22) ch_cX7_letThingGo_32 rfl) rfl
theorem dX7_letThingGo_55 : decode cX7_letThingGo 55 = .ok (.iload_n 1, 1) := do_27 (rdb (p := 32) (i := 23) ch_cX7_letThingGo_32 rfl)
theorem dX7_letThingGo_56 : decode cX7_letThingGo 56 = .ok (.iload_n 2, 1) := do_28 (rdb (p := 32) (i := 24) ch_cX7_letThingGo_32 rfl)
theorem dX7_letThingGo_57 : decode cX7_letThingGo 57 = .ok (.iastore, 1) := do_79 (rdb (p := 32) (i := 25) ch_cX7_letThingGo_32 rfl)
theorem dX7_letThingGo_58 : decode cX7_letThingGo 58 = .ok (.goto 20, 3) := do_167 (rdb (p := 32) (i := 26) ch_cX7_letThingGo_32 rfl) (rdb (p := 32) (i := 27) ch_cX7_letThingGo_32 rfl) (rdb (p := 32) (i := 28) ch_cX7_letThingGo_32 rfl) (by decide +kernel)
theorem dX7_letThingGo_61 : decode cX7_letThingGo 61 = .ok (.aload_n 0, 1) := do_42 (rdb (p := 32) (i := 29) ch_cX7_letThingGo_32 rfl)
theorem dX7_letThingGo_62 : decode cX7_letThingGo 62 = .ok (.getfield 19, 3) := do_180 (rdb (p := 32) (i := 30) ch_cX7_letThingGo_32 rfl) (rdb (p := 32) (i := 31) ch_cX7_letThingGo_32 rfl) (rdb (p := 32) (i := 32) ch_cX7_letThingGo_32 rfl) rfl
theorem ch_cX7_letThingGo_64 : (cX7_letThingGo.data.toList.drop 64).take 36 = [19, 27, 42, 180, 0, 19, 27, 46, 7, 96, 16, 7, 126, 79, 177] := by decide +kernel
theorem dX7_letThingGo_65 : decode cX7_letThingGo 65 = .ok (.iload_n 1, 1) := do_27 (rdb (p := 64) (i := 1) ch_cX7_letThingGo_64 rfl)
theorem dX7_letThingGo_66 : decode cX7_letThingGo 66 = .ok (.aload_n 0, 1) := do_42 (rdb (p := 64) (i := 2) ch_cX7_letThingGo_64 rfl)
theorem dX7_letThingGo_67 : decode cX7_letThingGo 67 = .ok (.getfield 19, 3) := do_180 (rdb (p := 64) (i := 3) ch_cX7_letThingGo_64 rfl) (rdb (p := 64) (i := 4) ch_cX7_letThingGo_64 rfl) (rdb (p := 64) (i := 5) ch_cX7_letThingGo_64 rfl) rfl
theorem dX7_letThingGo_70 : decode cX7_letThingGo 70 = .ok (.iload_n 1, 1) := do_27 (rdb (p := 64) (i := 6) ch_cX7_letThingGo_64 rfl)
theorem dX7_letThingGo_71 : decode cX7_letThingGo 71 = .ok (.iaload, 1) := do_46 (rdb (p := 64) (i := 7) ch_cX7_letThingGo_64 rfl)
theorem dX7_letThingGo_72 : decode cX7_letThingGo 72 = .ok (.iconst 4, 1) := do_7 (rdb (p := 64) (i := 8) ch_cX7_letThingGo_64 rfl)
theorem dX7_letThingGo_73 : decode cX7_letThingGo 73 = .ok (.iadd, 1) := do_96 (rdb (p := 64) (i := 9) ch_cX7_letThingGo_64 rfl)
theorem dX7_letThingGo_74 : decode cX7_letThingGo 74 = .ok (.bipush 7, 2) := do_16 (rdb (p := 64) (i := 10) ch_cX7_letThingGo_64 rfl) (rdb (p := 64) (i := 11) ch_cX7_letThingGo_64 rfl) (by decide +kernel)
theorem dX7_letThingGo_76 : decode cX7_letThingGo 76 = .ok (.iand, 1) := do_126 (rdb (p := 64) (i := 12) ch_cX7_letThingGo_64 rfl)
theorem dX7_letThingGo_77 : decode cX7_letThingGo 77 = .ok (.iastore, 1) := do_79 (rdb (p := 64) (i := 13) ch_cX7_letThingGo_64 rfl)
theorem dX7_letThingGo_78 : decode cX7_letThingGo 78 = .ok (.return_, 1) := do_177 (rdb (p := 64) (i := 14) ch_cX7_letThingGo_64 rfl)
theorem ch_cX7_letThingsGo_0 : (cX7_letThingsGo.data.toList.drop 0).take 36 = [3, 61, 28, 42, 180, 0, 25, 162, 0, 46, 28, 16, 40, 162, 0, 40, 42, 180, 0, 22, 28, 46, 62, 42, 180, 0, 16, 28, 46, 155, 0, 18, 29, 158, 0, 14] := by decide +kernel
theorem dX7_letThingsGo_0 : decode cX7_letThingsGo 0 = .ok (.iconst 0, 1) := do_3 (rdb (p := 0) (i := 0) ch_cX7_letThingsGo_0 rfl)
theorem dX7_letThingsGo_1 : decode cX7_letThingsGo 1 = .ok (.istore_n 2, 1) := do_61 (rdb (p := 0) (i := 1) ch_cX7_letThingsGo_0 rfl)
theorem dX7_letThingsGo_2 : decode cX7_letThingsGo 2 = .ok (.iload_n 2, 1) := do_28 (rdb (p := 0) (i := 2) ch_cX7_letThingsGo_0 rfl)
theorem dX7_letThingsGo_3 : decode cX7_letThingsGo 3 = .ok (.aload_n 0, 1) := do_42 (rdb (p := 0) (i := 3) ch_cX7_letThingsGo_0 rfl)
theorem dX7_letThingsGo_4 : decode cX7_letThingsGo 4 = .ok (.getfield 25, 3) := do_180 (rdb (p := 0) (i := 4) ch_cX7_letThingsGo_0 rfl) (rdb (p := 0) (i := 5) ch_cX7_letThingsGo_0 rfl) (rdb (p := 0) (i := 6) ch_cX7_letThingsGo_0 rfl) rfl
theorem dX7_letThingsGo_7 : decode cX7_letThingsGo 7 = .ok (.if_icmp .ge 46, 3) := do_162 (rdb (p := 0) (i := 7) ch_cX7_letThingsGo_0 rfl) (rdb (p := 0) (i := 8) ch_cX7_letThingsGo_0 rfl) (rdb (p := 0) (i := 9) ch_cX7_letThingsGo_0 rfl) (by decide +kernel)
theorem dX7_letThingsGo_10 : decode cX7_letThingsGo 10 = .ok (.iload_n 2, 1) := do_28 (rdb (p := 0) (i := 10) ch_cX7_letThingsGo_0 rfl)
theorem dX7_letThingsGo_11 : decode cX7_letThingsGo 11 = .ok (.bipush 40, 2) := do_16 (rdb (p := 0) (i := 11) ch_cX7_letThingsGo_0 rfl) (rdb (p := 0) (i := 12) ch_cX7_letThingsGo_0 rfl) (by decide +kernel)
theorem dX7_letThingsGo_13 : decode cX7_letThingsGo 13 = .ok (.if_icmp .ge 40, 3) := do_162 (rdb (p := 0) (i := 13) ch_cX7_letThingsGo_0 rfl) (rdb (p := 0) (i := 14) ch_cX7_letThingsGo_0 rfl) (rdb (p := 0) (i := 15) ch_cX7_letThingsGo_0 rfl) (by decide +kernel)
theorem dX7_letThingsGo_16 : decode cX7_letThingsGo 16 = .ok (.aload_n 0, 1) := do_42 (rdb (p := 0) (i := 16) ch_cX7_letThingsGo_0 rfl)
theorem dX7_letThingsGo_17 : decode cX7_letThingsGo 17 = .ok (.getfield 22, 3) := do_180 (rdb (p := 0) (i := 17) ch_cX7_letThingsGo_0 rfl) (rdb (p := 0) (i := 18) ch_cX7_letThingsGo_0 rfl) (rdb (p := 0) (i := 19) ch_cX7_letThingsGo_0 rfl) rfl
theorem dX7_letThingsGo_20 : decode cX7_letThingsGo 20 = .ok (.iload_n 2, 1) := do_28 (rdb (p := 0) (i := 20) ch_cX7_letThingsGo_0 rfl)
theorem dX7_letThingsGo_21 : decode cX7_letThingsGo 21 = .ok (.iaload, 1) := do_46 (rdb (p := 0) (i := 21) ch_cX7_letThingsGo_0 rfl)
theorem dX7_letThingsGo_22 : decode cX7_letThingsGo 22 = .ok (.istore_n 3, 1) := do_62 (rdb (p := 0) (i := 22) ch_cX7_letThingsGo_0 rfl)
theorem dX7_letThingsGo_23 : decode cX7_letThingsGo 23 = .ok (.aload_n 0, 1) := do_42 (rdb (p := 0) (i := 23) ch_cX7_letThingsGo_0 rfl)
theorem dX7_letThingsGo_24 : decode cX7_letThingsGo 24 = .ok (.getfield 16, 3) := do_180 (rdb (p := 0) (i := 24) ch_cX7_letThingsGo_0 rfl) (rdb (p := 0) (i := 25) ch_cX7_letThingsGo_0 rfl) (rdb (p := 0) (i := 26) ch_cX7_letThingsGo_0 rfl) rfl
theorem dX7_letThingsGo_27 : decode cX7_letThingsGo 27 = .ok (.iload_n 2, 1) := do_28 (rdb (p := 0) (i := 27) ch_cX7_letThingsGo_0 rfl)
theorem dX7_letThingsGo_28 : decode cX7_letThingsGo 28 = .ok (.iaload, 1) := do_46 (rdb (p := 0) (i := 28) ch_cX7_letThingsGo_0 rfl)
theorem dX7_letThingsGo_29 : decode cX7_letThingsGo 29 = .ok (.ifCond .lt 18, 3) := do_155 (rdb (p := 0) (i := 29) ch_cX7_letThingsGo_0 rfl) (rdb (p := 0) (i := 30) ch_cX7_letThingsGo_0 rfl) (rdb (p := 0) (i := 31) ch_cX7_letThingsGo_0 rfl) (by decide +kernel)
theorem ch_cX7_letThingsGo_32 : (cX7_letThingsGo.data.toList.drop 32).take 36 = [29, 158, 0, 14, 27, 29, 112, 154, 0, 8, 42, 28, 182, 0, 49, 132, 2, 1, 167, 255, 208, 177] := by decide +kernel
theorem dX7_letThingsGo_32 : decode cX7_letThingsGo 32 = .ok (.iload_n 3, 1) := do_29 (rdb (p := 32) (i := 0) ch_cX7_letThingsGo_32 rfl)
theorem dX7_letThingsGo_33 : decode cX7_letThingsGo 33 = .ok (.ifCond .le 14, 3) := do_158 (rdb (p := 32) (i := 1) ch_cX7_letThingsGo_32 rfl) (rdb (p := 32) (i := 2) ch_cX7_letThingsGo_32 rfl) (rdb (p := 32) (i := 3) ch_cX7_letThingsGo_32 rfl) (by decide +kernel)
theorem dX7_letThingsGo_36 : decode cX7_letThingsGo 36 = .ok (.iload_n 1, 1) := do_27 (rdb (p := 32) (i := 4) ch_cX7_letThingsGo_32 rfl)
theorem dX7_letThingsGo_37 : decode cX7_letThingsGo 37 = .ok (.iload_n 3, 1) := do_29 (rdb (p := 32) (i := 5) ch_cX7_letThingsGo_32 rfl)
theorem dX7_letThingsGo_38 : decode cX7_letThingsGo 38 = .ok (.irem, 1) := do_112 (rdb (p := 32) (i := 6) ch_cX7_letThingsGo_32 rfl)
theorem dX7_letThingsGo_39 : decode cX7_letThingsGo 39 = .ok (.ifCond .ne 8, 3) := do_154 (rdb (p := 32) (i := 7) ch_cX7_letThingsGo_32 rfl) (rdb (p := 32) (i := 8) ch_cX7_letThingsGo_32 rfl) (rdb (p := 32) (i := 9) ch_cX7_letThingsGo_32 rfl) (by decide +kernel)
theorem dX7_letThingsGo_42 : decode cX7_letThingsGo 42 = .ok (.aload_n 0, 1) := do_42 (rdb (p := 32) (i := 10) ch_cX7_letThingsGo_32 rfl)
theorem dX7_letThingsGo_43 : decode cX7_letThingsGo 43 = .ok (.iload_n 2, 1) := do_28 (rdb (p := 32) (i := 11) ch_cX7_letThingsGo_32 rfl)
theorem dX7_letThingsGo_44 : decode cX7_letThingsGo 44 = .ok (.invokevirtual 49, 3) := do_182 (rdb (p := 32) (i := 12) ch_cX7_letThingsGo_32 rfl) (rdb (p := 32) (i := 13) ch_cX7_letThingsGo_32 rfl) (rdb (p := 32) (i := 14) ch_cX7_letThingsGo_32 rfl) rfl
theorem dX7_letThingsGo_47 : decode cX7_letThingsGo 47 = .ok (.iinc 2 1, 3) := do_132 (rdb (p := 32) (i := 15) ch_cX7_letThingsGo_32 rfl) (rdb (p := 32) (i := 16) ch_cX7_letThingsGo_32 rfl) (rdb (p := 32) (i := 17) ch_cX7_letThingsGo_32 rfl) (by decide +kernel)
theorem dX7_letThingsGo_50 : decode cX7_letThingsGo 50 = .ok (.goto (-48), 3) := do_167 (rdb (p := 32) (i := 18) ch_cX7_letThingsGo_32 rfl) (rdb (p := 32) (i := 19) ch_cX7_letThingsGo_32 rfl) (rdb (p := 32) (i := 20) ch_cX7_letThingsGo_32 rfl) (by decide +kernel)
theorem dX7_letThingsGo_53 : decode cX7_letThingsGo 53 = .ok (.return_, 1) := do_177 (rdb (p := 32) (i := 21) ch_cX7_letThingsGo_32 rfl)
theorem dX7_settle_0 : decode cX7_settle 0 = .ok (.iload_n 1, 1) := by decide +kernel
theorem dX7_settle_1 : decode cX7_settle 1 = .ok (.invokestatic 29, 3) := by decide +kernel
theorem dX7_settle_4 : decode cX7_settle 4 = .ok (.ifCond .eq 10, 3) := by decide +kernel
theorem dX7_settle_7 : decode cX7_settle 7 = .ok (.aload_n 0, 1) := by decide +kernel
theorem dX7_settle_8 : decode cX7_settle 8 = .ok (.getfield 9, 3) := by decide +kernel
theorem dX7_settle_11 : decode cX7_settle 11 = .ok (.iload_n 1, 1) := by decide +kernel
theorem dX7_settle_12 : decode cX7_settle 12 = .ok (.iload_n 2, 1) := by decide +kernel
theorem dX7_settle_13 : decode cX7_settle 13 = .ok (.iastore, 1) := by decide +kernel
theorem dX7_settle_14 : decode cX7_settle 14 = .ok (.return_, 1) := by decide +kernel
theorem dX7_takeAway_0 : decode cX7_takeAway 0 = .ok (.aload_n 0, 1) := by decide +kernel
theorem dX7_takeAway_1 : decode cX7_takeAway 1 = .ok (.iload_n 1, 1) := by decide +kernel
theorem dX7_takeAway_2 : decode cX7_takeAway 2 = .ok (.invokevirtual 46, 3) := by decide +kernel
theorem dX7_takeAway_5 : decode cX7_takeAway 5 = .ok (.ifCond .ne 5, 3) := by decide +kernel
theorem dX7_takeAway_8 : decode cX7_takeAway 8 = .ok (.iconst (-1), 1) := by decide +kernel
theorem dX7_takeAway_9 : decode cX7_takeAway 9 = .ok (.ireturn, 1) := by decide +kernel
theorem dX7_takeAway_10 : decode cX7_takeAway 10 = .ok (.aload_n 0, 1) := by decide +kernel
theorem dX7_takeAway_11 : decode cX7_takeAway 11 = .ok (.getfield 16, 3) := by decide +kernel
theorem dX7_takeAway_14 : decode cX7_takeAway 14 = .ok (.iload_n 1, 1) := by decide +kernel
theorem dX7_takeAway_15 : decode cX7_takeAway 15 = .ok (.iaload, 1) := by decide +kernel
theorem dX7_takeAway_16 : decode cX7_takeAway 16 = .ok (.istore_n 2, 1) := by decide +kernel
theorem dX7_takeAway_17 : decode cX7_takeAway 17 = .ok (.aload_n 0, 1) := by decide +kernel
theorem dX7_takeAway_18 : decode cX7_takeAway 18 = .ok (.iload_n 2, 1) := by decide +kernel
theorem dX7_takeAway_19 : decode cX7_takeAway 19 = .ok (.iconst (-1), 1) := by decide +kernel
theorem dX7_takeAway_20 : decode cX7_takeAway 20 = .ok (.invokevirtual 42, 3) := by decide +kernel
theorem dX7_takeAway_23 : decode cX7_takeAway 23 = .ok (.aload_n 0, 1) := by decide +kernel
theorem dX7_takeAway_24 : decode cX7_takeAway 24 = .ok (.getfield 16, 3) := by decide +kernel
theorem dX7_takeAway_27 : decode cX7_takeAway 27 = .ok (.iload_n 1, 1) := by decide +kernel
theorem dX7_takeAway_28 : decode cX7_takeAway 28 = .ok (.iconst (-1), 1) := by decide +kernel
theorem dX7_takeAway_29 : decode cX7_takeAway 29 = .ok (.iastore, 1) := by decide +kernel
theorem dX7_takeAway_30 : decode cX7_takeAway 30 = .ok (.iload_n 2, 1) := by decide +kernel
theorem dX7_takeAway_31 : decode cX7_takeAway 31 = .ok (.ireturn, 1) := by decide +kernel
theorem ch_cX7_takeFrom_0 : (cX7_takeFrom.data.toList.drop 0).take 36 = [43, 180, 0, 9, 3, 42, 180, 0, 9, 3, 17, 0, 192, 184, 0, 60, 43, 180, 0, 13, 3, 42, 180, 0, 13, 3, 16, 40, 184, 0, 60, 43, 180, 0, 16, 3] := by decide +kernel
theorem dX7_takeFrom_0 : decode cX7_takeFrom 0 = .ok (.aload_n 1, 1) := do_43 (rdb (p := 0) (i := 0) ch_cX7_takeFrom_0 rfl)
theorem dX7_takeFrom_1 : decode cX7_takeFrom 1 = .ok (.getfield 9, 3) := do_180 (rdb (p := 0) (i := 1) ch_cX7_takeFrom_0 rfl) (rdb (p := 0) (i := 2) ch_cX7_takeFrom_0 rfl) (rdb (p := 0) (i := 3) ch_cX7_takeFrom_0 rfl) rfl
theorem dX7_takeFrom_4 : decode cX7_takeFrom 4 = .ok (.iconst 0, 1) := do_3 (rdb (p := 0) (i := 4) ch_cX7_takeFrom_0 rfl)
theorem dX7_takeFrom_5 : decode cX7_takeFrom 5 = .ok (.aload_n 0, 1) := do_42 (rdb (p := 0) (i := 5) ch_cX7_takeFrom_0 rfl)
theorem dX7_takeFrom_6 : decode cX7_takeFrom 6 = .ok (.getfield 9, 3) := do_180 (rdb (p := 0) (i := 6) ch_cX7_takeFrom_0 rfl) (rdb (p := 0) (i := 7) ch_cX7_takeFrom_0 rfl) (rdb (p := 0) (i := 8) ch_cX7_takeFrom_0 rfl) rfl
theorem dX7_takeFrom_9 : decode cX7_takeFrom 9 = .ok (.iconst 0, 1) := do_3 (rdb (p := 0) (i := 9) ch_cX7_takeFrom_0 rfl)
theorem dX7_takeFrom_10 : decode cX7_takeFrom 10 = .ok (.sipush 192, 3) := do_17 (rdb (p := 0) (i := 10) ch_cX7_takeFrom_0 rfl) (rdb (p := 0) (i := 11) ch_cX7_takeFrom_0 rfl) (rdb (p := 0) (i := 12) ch_cX7_takeFrom_0 rfl) (by decide +kernel)
theorem dX7_takeFrom_13 : decode cX7_takeFrom 13 = .ok (.invokestatic 60, 3) := do_184 (rdb (p := 0) (i := 13) ch_cX7_takeFrom_0 rfl) (rdb (p := 0) (i := 14) ch_cX7_takeFrom_0 rfl) (rdb (p := 0) (i := 15) ch_cX7_takeFrom_0 rfl) rfl
theorem dX7_takeFrom_16 : decode cX7_takeFrom 16 = .ok (.aload_n 1, 1) := do_43 (rdb (p := 0) (i := 16) ch_cX7_takeFrom_0 rfl)
theorem dX7_takeFrom_17 : decode cX7_takeFrom 17 = .ok (.getfield 13, 3) := do_180 (rdb (p := 0) (i := 17) ch_cX7_takeFrom_0 rfl) (rdb (p := 0) (i := 18) ch_cX7_takeFrom_0 rfl) (rdb (p := 0) (i := 19) ch_cX7_takeFrom_0 rfl) rfl
theorem dX7_takeFrom_20 : decode cX7_takeFrom 20 = .ok (.iconst 0, 1) := do_3 (rdb (p := 0) (i := 20) ch_cX7_takeFrom_0 rfl)
theorem dX7_takeFrom_21 : decode cX7_takeFrom 21 = .ok (.aload_n 0, 1) := do_42 (rdb (p := 0) (i := 21) ch_cX7_takeFrom_0 rfl)
theorem dX7_takeFrom_22 : decode cX7_takeFrom 22 = .ok (.getfield 13, 3) := do_180 (rdb (p := 0) (i := 22) ch_cX7_takeFrom_0 rfl) (rdb (p := 0) (i := 23) ch_cX7_takeFrom_0 rfl) (rdb (p := 0) (i := 24) ch_cX7_takeFrom_0 rfl) rfl
theorem dX7_takeFrom_25 : decode cX7_takeFrom 25 = .ok (.iconst 0, 1) := do_3 (rdb (p := 0) (i := 25) ch_cX7_takeFrom_0 rfl)
theorem dX7_takeFrom_26 : decode cX7_takeFrom 26 = .ok (.bipush 40, 2) := do_16 (rdb (p := 0) (i := 26) ch_cX7_takeFrom_0 rfl) (rdb (p := 0) (i := 27) ch_cX7_takeFrom_0 rfl) (by decide +kernel)
theorem dX7_takeFrom_28 : decode cX7_takeFrom 28 = .ok (.invokestatic 60, 3) := do_184 (rdb (p := 0) (i := 28) ch_cX7_takeFrom_0 rfl) (rdb (p := 0) (i := 29) ch_cX7_takeFrom_0 rfl) (rdb (p := 0) (i := 30) ch_cX7_takeFrom_0 rfl) rfl
theorem dX7_takeFrom_31 : decode cX7_takeFrom 31 = .ok (.aload_n 1, 1) := do_43 (rdb (p := 0) (i := 31) ch_cX7_takeFrom_0 rfl)
theorem ch_cX7_takeFrom_32 : (cX7_takeFrom.data.toList.drop 32).take 36 = [180, 0, 16, 3, 42, 180, 0, 16, 3, 16, 40, 184, 0, 60, 43, 180, 0, 19, 3, 42, 180, 0, 19, 3, 16, 40, 184, 0, 60, 43, 180, 0, 22, 3, 42, 180] := by decide +kernel
theorem dX7_takeFrom_32 : decode cX7_takeFrom 32 = .ok (.getfield 16, 3) := do_180 (rdb (p := 32) (i := 0) ch_cX7_takeFrom_32 rfl) (rdb (p := 32) (i := 1) ch_cX7_takeFrom_32 rfl) (rdb (p := 32) (i := 2) ch_cX7_takeFrom_32 rfl) rfl
theorem dX7_takeFrom_35 : decode cX7_takeFrom 35 = .ok (.iconst 0, 1) := do_3 (rdb (p := 32) (i := 3) ch_cX7_takeFrom_32 rfl)
theorem dX7_takeFrom_36 : decode cX7_takeFrom 36 = .ok (.aload_n 0, 1) := do_42 (rdb (p := 32) (i := 4) ch_cX7_takeFrom_32 rfl)
theorem dX7_takeFrom_37 : decode cX7_takeFrom 37 = .ok (.getfield 16, 3) := do_180 (rdb (p := 32) (i := 5) ch_cX7_takeFrom_32 rfl) (rdb (p := 32) (i := 6) ch_cX7_takeFrom_32 rfl) (rdb (p := 32) (i := 7) ch_cX7_takeFrom_32 rfl) rfl
theorem dX7_takeFrom_40 : decode cX7_takeFrom 40 = .ok (.iconst 0, 1) := do_3 (rdb (p := 32) (i := 8) ch_cX7_takeFrom_32 rfl)
theorem dX7_takeFrom_41 : decode cX7_takeFrom 41 = .ok (.bipush 40, 2) := do_16 (rdb (p := 32) (i := 9) ch_cX7_takeFrom_32 rfl) (rdb (p := 32) (i := 10) ch_cX7_takeFrom_32 rfl) (by decide +kernel)
theorem dX7_takeFrom_43 : decode cX7_takeFrom 43 = .ok (.invokestatic 60, 3) := do_184 (rdb (p := 32) (i := 11) ch_cX7_takeFrom_32 rfl) (rdb (p := 32) (i := 12) ch_cX7_takeFrom_32 rfl) (rdb (p := 32) (i := 13) ch_cX7_takeFrom_32 rfl) rfl
theorem dX7_takeFrom_46 : decode cX7_takeFrom 46 = .ok (.aload_n 1, 1) := do_43 (rdb (p := 32) (i := 14) ch_cX7_takeFrom_32 rfl)
theorem dX7_takeFrom_47 : decode cX7_takeFrom 47 = .ok (.getfield 19, 3) := do_180 (rdb (p := 32) (i := 15) ch_cX7_takeFrom_32 rfl) (rdb (p := 32) (i := 16) ch_cX7_takeFrom_32 rfl) (rdb (p := 32) (i := 17) ch_cX7_takeFrom_32 rfl) rfl
theorem dX7_takeFrom_50 : decode cX7_takeFrom 50 = .ok (.iconst 0, 1) := do_3 (rdb (p := 32) (i := 18) ch_cX7_takeFrom_32 rfl)
theorem dX7_takeFrom_51 : decode cX7_takeFrom 51 = .ok (.aload_n 0, 1) := do_42 (rdb (p := 32) (i := 19) ch_cX7_takeFrom_32 rfl)
theorem dX7_takeFrom_52 : decode cX7_takeFrom 52 = .ok (.getfield 19, 3) := do_180 (rdb (p := 32) (i := 20) ch_cX7_takeFrom_32 rfl) (rdb (p := 32) (i := 21) ch_cX7_takeFrom_32 rfl) (rdb (p := 32) (i := 22) ch_cX7_takeFrom_32 rfl) rfl
theorem dX7_takeFrom_55 : decode cX7_takeFrom 55 = .ok (.iconst 0, 1) := do_3 (rdb (p := 32) (i := 23) ch_cX7_takeFrom_32 rfl)
theorem dX7_takeFrom_56 : decode cX7_takeFrom 56 = .ok (.bipush 40, 2) := do_16 (rdb (p := 32) (i := 24) ch_cX7_takeFrom_32 rfl) (rdb (p := 32) (i := 25) ch_cX7_takeFrom_32 rfl) (by decide +kernel)
theorem dX7_takeFrom_58 : decode cX7_takeFrom 58 = .ok (.invokestatic 60, 3) := do_184 (rdb (p := 32) (i := 26) ch_cX7_takeFrom_32 rfl) (rdb (p := 32) (i := 27) ch_cX7_takeFrom_32 rfl) (rdb (p := 32) (i := 28) ch_cX7_takeFrom_32 rfl) rfl
theorem dX7_takeFrom_61 : decode cX7_takeFrom 61 = .ok (.aload_n 1, 1) := do_43 (rdb (p := 32) (i := 29) ch_cX7_takeFrom_32 rfl)
theorem dX7_takeFrom_62 : decode cX7_takeFrom 62 = .ok (.getfield 22, 3) := do_180 (rdb (p := 32) (i := 30) ch_cX7_takeFrom_32 rfl) (rdb (p := 32) (i := 31) ch_cX7_takeFrom_32 rfl) (rdb (p := 32) (i := 32) ch_cX7_takeFrom_32 rfl) rfl
theorem ch_cX7_takeFrom_64 : (cX7_takeFrom.data.toList.drop 64).take 36 = [22, 3, 42, 180, 0, 22, 3, 16, 40, 184, 0, 60, 42, 43, 180, 0, 25, 181, 0, 25, 177] := by decide +kernel
theorem dX7_takeFrom_65 : decode cX7_takeFrom 65 = .ok (.iconst 0, 1) := do_3 (rdb (p := 64) (i := 1) ch_cX7_takeFrom_64 rfl)
theorem dX7_takeFrom_66 : decode cX7_takeFrom 66 = .ok (.aload_n 0, 1) := do_42 (rdb (p := 64) (i := 2) ch_cX7_takeFrom_64 rfl)
theorem dX7_takeFrom_67 : decode cX7_takeFrom 67 = .ok (.getfield 22, 3) := do_180 (rdb (p := 64) (i := 3) ch_cX7_takeFrom_64 rfl) (rdb (p := 64) (i := 4) ch_cX7_takeFrom_64 rfl) (rdb (p := 64) (i := 5) ch_cX7_takeFrom_64 rfl) rfl
theorem dX7_takeFrom_70 : decode cX7_takeFrom 70 = .ok (.iconst 0, 1) := do_3 (rdb (p := 64) (i := 6) ch_cX7_takeFrom_64 rfl)
theorem dX7_takeFrom_71 : decode cX7_takeFrom 71 = .ok (.bipush 40, 2) := do_16 (rdb (p := 64) (i := 7) ch_cX7_takeFrom_64 rfl) (rdb (p := 64) (i := 8) ch_cX7_takeFrom_64 rfl) (by decide +kernel)
theorem dX7_takeFrom_73 : decode cX7_takeFrom 73 = .ok (.invokestatic 60, 3) := do_184 (rdb (p := 64) (i := 9) ch_cX7_takeFrom_64 rfl) (rdb (p := 64) (i := 10) ch_cX7_takeFrom_64 rfl) (rdb (p := 64) (i := 11) ch_cX7_takeFrom_64 rfl) rfl
theorem dX7_takeFrom_76 : decode cX7_takeFrom 76 = .ok (.aload_n 0, 1) := do_42 (rdb (p := 64) (i := 12) ch_cX7_takeFrom_64 rfl)
theorem dX7_takeFrom_77 : decode cX7_takeFrom 77 = .ok (.aload_n 1, 1) := do_43 (rdb (p := 64) (i := 13) ch_cX7_takeFrom_64 rfl)
theorem dX7_takeFrom_78 : decode cX7_takeFrom 78 = .ok (.getfield 25, 3) := do_180 (rdb (p := 64) (i := 14) ch_cX7_takeFrom_64 rfl) (rdb (p := 64) (i := 15) ch_cX7_takeFrom_64 rfl) (rdb (p := 64) (i := 16) ch_cX7_takeFrom_64 rfl) rfl
theorem dX7_takeFrom_81 : decode cX7_takeFrom 81 = .ok (.putfield 25, 3) := do_181 (rdb (p := 64) (i := 17) ch_cX7_takeFrom_64 rfl) (rdb (p := 64) (i := 18) ch_cX7_takeFrom_64 rfl) (rdb (p := 64) (i := 19) ch_cX7_takeFrom_64 rfl) rfl
theorem dX7_takeFrom_84 : decode cX7_takeFrom 84 = .ok (.return_, 1) := do_177 (rdb (p := 64) (i := 20) ch_cX7_takeFrom_64 rfl)
end
section
def SP_X7_isFree (b : Nat) (v : Int32) (Mz : mM) (r_ : Int32) : Prop := (((SP_X7_isCell v Mz (1 : Int32)) ∧ (0 ≤ v.toInt ∧ v.toInt ≤ 191) ∧ ∃ j9_ : Nat, ((j9_ : Int) = v.toInt) ∧ ∃ z7_ : Int32, (z7_ = Mz.1 (35, b, 0) j9_) ∧ (((¬ z7_.toInt = -1) ∧ r_ = 0) ∨ ((z7_.toInt = -1) ∧ r_ = 1))) ∨ ((SP_X7_isCell v Mz (0 : Int32)) ∧ (¬ (0 ≤ v.toInt ∧ v.toInt ≤ 191)) ∧ r_ = 0))
theorem lf_c_X7_isFree_0 (v : Int32) (h4_ : 0 ≤ v.toInt ∧ v.toInt ≤ 191) : 0 ≤ v.toInt ∧ v.toInt < ((192 : Nat) : Int) := by omega
set_option maxHeartbeats 4000000 in
set_option maxRecDepth 100000 in
theorem c_X7_isFree (l : Launch) (G : va_G) (cy : Nat → ClassId) (ad : rf → Nat) (d : Nat) (b : Nat) (v : Int32) (Mz : mM) (hIz : Inv Mz) (hb : b < 3) : WP CC l G cy ad yX7_isFree cX7_isFree 2 (some .boolean) (d + 1) 0 [(0, vR (7, b, 0)), (1, vI v)] [] Mz (fun r M' => Mz = M' ∧ (((r = 1 ∧ 0 ≤ v.toInt ∧ v.toInt ≤ 191) ∨ r = 0)) ∧ SP_X7_isFree b v Mz r) := by
  refine w_iload_n dX7_isFree_0 rfl 1 rfl ?_
  refine w_callS (as := [vI v]) (rest := []) (c_X7_isCell l G cy ad d v Mz hIz) kS_X7_isCell pnn_1 (Nat.le_of_ble_eq_true rfl) m_509 rfl rfl (by decide) (Nat.le_of_ble_eq_true rfl) dX7_isFree_1 (fun r1_ M2_ q3_ => ?_)
  obtain ⟨rfl, h4_, hs5_⟩ := q3_
  rcases h4_ with ⟨rfl, h4_⟩ | ⟨rfl, h4_⟩
  · refine w_if_eq (tgt := 21) dX7_isFree_4 (by decide) li_1 (fun h9 => (absurd h9 (by decide))) (fun h6_ => ?_)
    refine w_aload_n dX7_isFree_7 rfl 0 rfl ?_
    refine w_getR (c' := (35, b, 0)) fl_RX7_9 rfl rfl (ic_7 hb) dX7_isFree_8 rfl ?_
    refine w_iload_n dX7_isFree_11 rfl 1 rfl ?_
    refine w_iald rfl rfl (ic_35 hb) (rfl : v.toInt = v.toInt) (lf_c_X7_isFree_0 v h4_ ) dX7_isFree_12 (fun j9_ h10_ z7_ e8_ => ?_)
    refine w_iconst (v := (-1)) dX7_isFree_13 (by decide) ?_
    refine w_icmp_ne (tgt := 21) dX7_isFree_14 (by decide) (rfl : z7_.toInt = z7_.toInt) li_m1 (fun h11_ => ?_) (fun h11_ => ?_)
    · refine w_iconst (v := 0) dX7_isFree_21 (by decide) ?_
      exact w_zret rfl dX7_isFree_22 ⟨by decide, by decide⟩ ⟨rfl, (Or.inr rfl), (Or.inl ⟨hs5_, h4_, j9_, h10_, z7_, e8_, (Or.inl ⟨h11_, rfl⟩)⟩)⟩
    · refine w_iconst (v := 1) dX7_isFree_17 (by decide) ?_
      refine w_goto (tgt := 22) dX7_isFree_18 (by decide) ?_
      exact w_zret rfl dX7_isFree_22 ⟨by decide, by decide⟩ ⟨rfl, (Or.inl ⟨rfl, h4_⟩), (Or.inl ⟨hs5_, h4_, j9_, h10_, z7_, e8_, (Or.inr ⟨h11_, rfl⟩)⟩)⟩
  · refine w_if_eq (tgt := 21) dX7_isFree_4 (by decide) li_0 (fun h12_ => ?_) (fun h9 => (absurd h9 (by decide)))
    refine w_iconst (v := 0) dX7_isFree_21 (by decide) ?_
    exact w_zret rfl dX7_isFree_22 ⟨by decide, by decide⟩ ⟨rfl, (Or.inr rfl), (Or.inr ⟨hs5_, h4_, rfl⟩)⟩
def S_c_X7_settle (b : Nat) : rf → Nat → Prop := fun c k => (c.1 = 35 ∧ c.2.1 = b) ∨ False
def SP_X7_settle (b : Nat) (v : Int32) (u : Int32) (Mz : mM) (M_ : mM) : Prop := (((SP_X7_isCell v Mz (1 : Int32)) ∧ (0 ≤ v.toInt ∧ v.toInt ≤ 191) ∧ ∃ j9_ : Nat, ((j9_ : Int) = v.toInt) ∧ ∃ M7_ : mM, (M7_ = up Mz (35, b, 0) j9_ u) ∧ M_ = M7_) ∨ ((SP_X7_isCell v Mz (0 : Int32)) ∧ (¬ (0 ≤ v.toInt ∧ v.toInt ≤ 191)) ∧ M_ = Mz))
set_option maxHeartbeats 4000000 in
set_option maxRecDepth 100000 in
theorem c_X7_settle (l : Launch) (G : va_G) (cy : Nat → ClassId) (ad : rf → Nat) (d : Nat) (b : Nat) (v : Int32) (u : Int32) (Mz : mM) (hIz : Inv Mz) (hb : b < 3) : WP CC l G cy ad yX7_settle cX7_settle 3 none (d + 1) 0 [(0, vR (7, b, 0)), (1, vI v), (2, vI u)] [] Mz (fun r M' => Inv M' ∧ FR (S_c_X7_settle b) Mz M' ∧ (True) ∧ SP_X7_settle b v u Mz M') := by
  have hFz : FR (S_c_X7_settle b) Mz Mz := FR.self
  refine w_iload_n dX7_settle_0 rfl 1 rfl ?_
  refine w_callS (as := [vI v]) (rest := []) (c_X7_isCell l G cy ad d v Mz hIz) kS_X7_isCell pnn_1 (Nat.le_of_ble_eq_true rfl) m_509 rfl rfl (by decide) (Nat.le_of_ble_eq_true rfl) dX7_settle_1 (fun r1_ M2_ q3_ => ?_)
  obtain ⟨rfl, h4_, hs5_⟩ := q3_
  rcases h4_ with ⟨rfl, h4_⟩ | ⟨rfl, h4_⟩
  · refine w_if_eq (tgt := 14) dX7_settle_4 (by decide) li_1 (fun h9 => (absurd h9 (by decide))) (fun h6_ => ?_)
    refine w_aload_n dX7_settle_7 rfl 0 rfl ?_
    refine w_getR (c' := (35, b, 0)) fl_RX7_9 rfl rfl (ic_7 hb) dX7_settle_8 rfl ?_
    refine w_iload_n dX7_settle_11 rfl 1 rfl ?_
    refine w_iload_n dX7_settle_12 rfl 2 rfl ?_
    refine w_iast CC_nd rfl rfl (ic_35 hb) (rfl : v.toInt = v.toInt) (lf_c_X7_isFree_0 v h4_ ) dX7_settle_13 (fun j9_ h10_ M7_ hM8_ => ?_)
    have hI11_ := hIz.put hM8_ trivial
    have hF12_ := hFz.put hM8_ (Or.inl ⟨rfl, rfl⟩)
    exact w_vret rfl dX7_settle_14 ⟨hI11_, hF12_, trivial, (Or.inl ⟨hs5_, h4_, j9_, h10_, M7_, hM8_, rfl⟩)⟩
  · refine w_if_eq (tgt := 14) dX7_settle_4 (by decide) li_0 (fun h13_ => ?_) (fun h9 => (absurd h9 (by decide)))
    exact w_vret rfl dX7_settle_14 ⟨hIz, hFz, trivial, (Or.inr ⟨hs5_, h4_, rfl⟩)⟩
def SP_X7_hasRoom (b : Nat) (Mz : mM) (r_ : Int32) : Prop := ∃ z1_ : Int32, (z1_ = Mz.1 (7, b, 0) 5) ∧ (((40 ≤ z1_.toInt) ∧ r_ = 0) ∨ ((z1_.toInt < 40) ∧ r_ = 1))
set_option maxHeartbeats 4000000 in
set_option maxRecDepth 100000 in
theorem c_X7_hasRoom (l : Launch) (G : va_G) (cy : Nat → ClassId) (ad : rf → Nat) (d : Nat) (b : Nat) (Mz : mM) (hIz : Inv Mz) (hb : b < 3) : WP CC l G cy ad yX7_hasRoom cX7_hasRoom 1 (some .boolean) d 0 [(0, vR (7, b, 0))] [] Mz (fun r M' => Mz = M' ∧ ((0 ≤ r.toInt ∧ r.toInt ≤ 1)) ∧ SP_X7_hasRoom b Mz r) := by
  refine w_aload_n dX7_hasRoom_0 rfl 0 rfl ?_
  refine w_getI fl_RX7_25 rfl rfl (ic_7 hb) dX7_hasRoom_1 (fun z1_ e2_ => ?_)
  refine w_bipush (v := 40) dX7_hasRoom_4 (by decide) ?_
  refine w_icmp_ge (tgt := 13) dX7_hasRoom_6 (by decide) (rfl : z1_.toInt = z1_.toInt) li_40 (fun h3_ => ?_) (fun h3_ => ?_)
  · refine w_iconst (v := 0) dX7_hasRoom_13 (by decide) ?_
    exact w_zret rfl dX7_hasRoom_14 ⟨by decide, by decide⟩ ⟨rfl, ⟨by decide, by decide⟩, ⟨z1_, e2_, (Or.inl ⟨h3_, rfl⟩)⟩⟩
  · refine w_iconst (v := 1) dX7_hasRoom_9 (by decide) ?_
    refine w_goto (tgt := 14) dX7_hasRoom_10 (by decide) ?_
    exact w_zret rfl dX7_hasRoom_14 ⟨by decide, by decide⟩ ⟨rfl, ⟨by decide, by decide⟩, ⟨z1_, e2_, (Or.inr ⟨h3_, rfl⟩)⟩⟩
def SP_X7_hasThing (b : Nat) (v : Int32) (Mz : mM) (r_ : Int32) : Prop := (((v.toInt < 0) ∧ r_ = 0) ∨ ((0 ≤ v.toInt) ∧ ∃ z2_ : Int32, (z2_ = Mz.1 (7, b, 0) 5) ∧ (((z2_.toInt ≤ v.toInt) ∧ r_ = 0) ∨ ((v.toInt < z2_.toInt) ∧ (((40 ≤ v.toInt) ∧ r_ = 0) ∨ ((v.toInt < 40) ∧ r_ = 1))))))
theorem lf_c_X7_hasThing_0 (v : Int32) (h1_ : 0 ≤ v.toInt) (h5_ : v.toInt < 40) : 0 ≤ v.toInt ∧ v.toInt ≤ 39 := by omega
set_option maxHeartbeats 4000000 in
set_option maxRecDepth 100000 in
theorem c_X7_hasThing (l : Launch) (G : va_G) (cy : Nat → ClassId) (ad : rf → Nat) (d : Nat) (b : Nat) (v : Int32) (Mz : mM) (hIz : Inv Mz) (hb : b < 3) : WP CC l G cy ad yX7_hasThing cX7_hasThing 2 (some .boolean) d 0 [(0, vR (7, b, 0)), (1, vI v)] [] Mz (fun r M' => Mz = M' ∧ (((r = 1 ∧ 0 ≤ v.toInt ∧ v.toInt ≤ 39) ∨ r = 0)) ∧ SP_X7_hasThing b v Mz r) := by
  refine w_iload_n dX7_hasThing_0 rfl 1 rfl ?_
  refine w_if_lt (tgt := 22) dX7_hasThing_1 (by decide) (rfl : v.toInt = v.toInt) (fun h1_ => ?_) (fun h1_ => ?_)
  · refine w_iconst (v := 0) dX7_hasThing_22 (by decide) ?_
    exact w_zret rfl dX7_hasThing_23 ⟨by decide, by decide⟩ ⟨rfl, (Or.inr rfl), (Or.inl ⟨h1_, rfl⟩)⟩
  · refine w_iload_n dX7_hasThing_4 rfl 1 rfl ?_
    refine w_aload_n dX7_hasThing_5 rfl 0 rfl ?_
    refine w_getI fl_RX7_25 rfl rfl (ic_7 hb) dX7_hasThing_6 (fun z2_ e3_ => ?_)
    refine w_icmp_ge (tgt := 22) dX7_hasThing_9 (by decide) (rfl : v.toInt = v.toInt) (rfl : z2_.toInt = z2_.toInt) (fun h4_ => ?_) (fun h4_ => ?_)
    · refine w_iconst (v := 0) dX7_hasThing_22 (by decide) ?_
      exact w_zret rfl dX7_hasThing_23 ⟨by decide, by decide⟩ ⟨rfl, (Or.inr rfl), (Or.inr ⟨h1_, z2_, e3_, (Or.inl ⟨h4_, rfl⟩)⟩)⟩
    · refine w_iload_n dX7_hasThing_12 rfl 1 rfl ?_
      refine w_bipush (v := 40) dX7_hasThing_13 (by decide) ?_
      refine w_icmp_ge (tgt := 22) dX7_hasThing_15 (by decide) (rfl : v.toInt = v.toInt) li_40 (fun h5_ => ?_) (fun h5_ => ?_)
      · refine w_iconst (v := 0) dX7_hasThing_22 (by decide) ?_
        exact w_zret rfl dX7_hasThing_23 ⟨by decide, by decide⟩ ⟨rfl, (Or.inr rfl), (Or.inr ⟨h1_, z2_, e3_, (Or.inr ⟨h4_, (Or.inl ⟨h5_, rfl⟩)⟩)⟩)⟩
      · refine w_iconst (v := 1) dX7_hasThing_18 (by decide) ?_
        refine w_goto (tgt := 23) dX7_hasThing_19 (by decide) ?_
        exact w_zret rfl dX7_hasThing_23 ⟨by decide, by decide⟩ ⟨rfl, (Or.inl ⟨rfl, (lf_c_X7_hasThing_0 v h1_ h5_ )⟩), (Or.inr ⟨h1_, z2_, e3_, (Or.inr ⟨h4_, (Or.inr ⟨h5_, rfl⟩)⟩)⟩)⟩
def S_c_X7_addThing (b : Nat) : rf → Nat → Prop := fun c k => (c.1 = 36 ∧ c.2.1 = b) ∨ (c.1 = 37 ∧ c.2.1 = b) ∨ (c.1 = 38 ∧ c.2.1 = b) ∨ (c.1 = 39 ∧ c.2.1 = b) ∨ (c.1 = 35 ∧ c.2.1 = b) ∨ (c.1 = 7 ∧ c.2.1 = b ∧ k = 5) ∨ False
def SP_X7_addThing (b : Nat) (v : Int32) (u : Int32) (Mz : mM) (r_ : Int32) (M_ : mM) : Prop := ∃ z1_ : Int32, (z1_ = Mz.1 (7, b, 0) 5) ∧ (((z1_.toInt < 0) ∧ r_ = (-1) ∧ M_ = Mz) ∨ ((0 ≤ z1_.toInt) ∧ (((z1_.toInt < 40) ∧ ∃ j7_ : Nat, ((j7_ : Int) = z1_.toInt) ∧ ∃ M5_ : mM, (M5_ = up Mz (36, b, 0) j7_ v) ∧ ∃ j13_ : Nat, ((j13_ : Int) = z1_.toInt) ∧ ∃ M11_ : mM, (M11_ = up M5_ (37, b, 0) j13_ u) ∧ ∃ j19_ : Nat, ((j19_ : Int) = z1_.toInt) ∧ ∃ M17_ : mM, (M17_ = up M11_ (38, b, 0) j19_ 0) ∧ ∃ j25_ : Nat, ((j25_ : Int) = z1_.toInt) ∧ ∃ M23_ : mM, (M23_ = up M17_ (39, b, 0) j25_ 0) ∧ (Inv M23_) ∧ ∃ M29_ : mM, (Inv M29_) ∧ (FR (S_c_X7_settle b) M23_ M29_) ∧ (SP_X7_settle b u z1_ M23_ M29_) ∧ ∃ z36_ : Int32, (z36_ = M29_.1 (7, b, 0) 5) ∧ ∃ z38_ : Int32, (z38_ = z36_ + (1 : Int32)) ∧ ∃ M40_ : mM, (M40_ = up M29_ (7, b, 0) 5 z38_) ∧ r_ = z1_ ∧ M_ = M40_) ∨ ((40 ≤ z1_.toInt) ∧ r_ = (-1) ∧ M_ = Mz))))
theorem lf_c_X7_addThing_0 (z1_ : Int32) (h3_ : 0 ≤ z1_.toInt) (h4_ : z1_.toInt < 40) : 0 ≤ z1_.toInt ∧ z1_.toInt < ((40 : Nat) : Int) := by omega
set_option maxHeartbeats 4000000 in
set_option maxRecDepth 100000 in
theorem c_X7_addThing (l : Launch) (G : va_G) (cy : Nat → ClassId) (ad : rf → Nat) (d : Nat) (b : Nat) (v : Int32) (u : Int32) (Mz : mM) (hIz : Inv Mz) (hb : b < 3) : WP CC l G cy ad yX7_addThing cX7_addThing 4 (some .int) (d + 2) 0 [(0, vR (7, b, 0)), (1, vI v), (2, vI u)] [] Mz (fun r M' => Inv M' ∧ FR (S_c_X7_addThing b) Mz M' ∧ (True) ∧ SP_X7_addThing b v u Mz r M') := by
  have hFz : FR (S_c_X7_addThing b) Mz Mz := FR.self
  refine w_aload_n dX7_addThing_0 rfl 0 rfl ?_
  refine w_getI fl_RX7_25 rfl rfl (ic_7 hb) dX7_addThing_1 (fun z1_ e2_ => ?_)
  refine w_istore_n (ls' := [(3, vI z1_), (0, vR (7, b, 0)), (1, vI v), (2, vI u)]) dX7_addThing_4 rfl (by decide) rfl ?_
  refine w_iload_n dX7_addThing_5 rfl 0 rfl ?_
  refine w_if_lt (tgt := 15) dX7_addThing_6 (by decide) (rfl : z1_.toInt = z1_.toInt) (fun h3_ => ?_) (fun h3_ => ?_)
  · refine w_iconst (v := (-1)) dX7_addThing_15 (by decide) ?_
    exact w_iret rfl dX7_addThing_16 ⟨hIz, hFz, trivial, ⟨z1_, e2_, (Or.inl ⟨h3_, rfl, rfl⟩)⟩⟩
  · refine w_iload_n dX7_addThing_9 rfl 0 rfl ?_
    refine w_bipush (v := 40) dX7_addThing_10 (by decide) ?_
    refine w_icmp_lt (tgt := 17) dX7_addThing_12 (by decide) (rfl : z1_.toInt = z1_.toInt) li_40 (fun h4_ => ?_) (fun h4_ => ?_)
    · refine w_aload_n dX7_addThing_17 rfl 1 rfl ?_
      refine w_getR (c' := (36, b, 0)) fl_RX7_13 rfl rfl (ic_7 hb) dX7_addThing_18 rfl ?_
      refine w_iload_n dX7_addThing_21 rfl 0 rfl ?_
      refine w_iload_n dX7_addThing_22 rfl 2 rfl ?_
      refine w_iast CC_nd rfl rfl (ic_36 hb) (rfl : z1_.toInt = z1_.toInt) (lf_c_X7_addThing_0 z1_ h3_ h4_ ) dX7_addThing_23 (fun j7_ h8_ M5_ hM6_ => ?_)
      have hI9_ := hIz.put hM6_ trivial
      have hF10_ := hFz.put hM6_ (Or.inl ⟨rfl, rfl⟩)
      refine w_aload_n dX7_addThing_24 rfl 1 rfl ?_
      refine w_getR (c' := (37, b, 0)) fl_RX7_16 rfl rfl (ic_7 hb) dX7_addThing_25 rfl ?_
      refine w_iload_n dX7_addThing_28 rfl 0 rfl ?_
      refine w_iload_n dX7_addThing_29 rfl 3 rfl ?_
      refine w_iast CC_nd rfl rfl (ic_37 hb) (rfl : z1_.toInt = z1_.toInt) (lf_c_X7_addThing_0 z1_ h3_ h4_ ) dX7_addThing_30 (fun j13_ h14_ M11_ hM12_ => ?_)
      have hI15_ := hI9_.put hM12_ trivial
      have hF16_ := hF10_.put hM12_ (Or.inr (Or.inl ⟨rfl, rfl⟩))
      refine w_aload_n dX7_addThing_31 rfl 1 rfl ?_
      refine w_getR (c' := (38, b, 0)) fl_RX7_19 rfl rfl (ic_7 hb) dX7_addThing_32 rfl ?_
      refine w_iload_n dX7_addThing_35 rfl 0 rfl ?_
      refine w_iconst (v := 0) dX7_addThing_36 (by decide) ?_
      refine w_iast CC_nd rfl rfl (ic_38 hb) (rfl : z1_.toInt = z1_.toInt) (lf_c_X7_addThing_0 z1_ h3_ h4_ ) dX7_addThing_37 (fun j19_ h20_ M17_ hM18_ => ?_)
      have hI21_ := hI15_.put hM18_ trivial
      have hF22_ := hF16_.put hM18_ (Or.inr (Or.inr (Or.inl ⟨rfl, rfl⟩)))
      refine w_aload_n dX7_addThing_38 rfl 1 rfl ?_
      refine w_getR (c' := (39, b, 0)) fl_RX7_22 rfl rfl (ic_7 hb) dX7_addThing_39 rfl ?_
      refine w_iload_n dX7_addThing_42 rfl 0 rfl ?_
      refine w_iconst (v := 0) dX7_addThing_43 (by decide) ?_
      refine w_iast CC_nd rfl rfl (ic_39 hb) (rfl : z1_.toInt = z1_.toInt) (lf_c_X7_addThing_0 z1_ h3_ h4_ ) dX7_addThing_44 (fun j25_ h26_ M23_ hM24_ => ?_)
      have hI27_ := hI21_.put hM24_ trivial
      have hF28_ := hF22_.put hM24_ (Or.inr (Or.inr (Or.inr (Or.inl ⟨rfl, rfl⟩))))
      refine w_aload_n dX7_addThing_45 rfl 1 rfl ?_
      refine w_iload_n dX7_addThing_46 rfl 3 rfl ?_
      refine w_iload_n dX7_addThing_47 rfl 0 rfl ?_
      refine w_callVv (as := [vI u, vI z1_]) (rest := []) (c_X7_settle l G cy ad d b u z1_ M23_ hI27_ hb) kV_X7_settle pnn_1 (Nat.le_of_ble_eq_true rfl) m_518 rfl rfl rfl (ic_7 hb) rfl rfl (by decide) (Nat.le_of_ble_eq_true rfl) dX7_addThing_48 (fun M29_ q30_ => ?_)
      obtain ⟨hI32_, hF33_, h31_, hs35_⟩ := q30_
      have hF34_ := hF28_.tr hF33_ (fun c k => (fun h => h.elim (fun h => (Or.inr (Or.inr (Or.inr (Or.inr (Or.inl ⟨h.1, h.2⟩)))))) (fun h => h.elim)))
      refine w_aload_n dX7_addThing_51 rfl 1 rfl ?_
      refine w_dup dX7_addThing_52 rfl ?_
      refine w_getI fl_RX7_25 rfl rfl (ic_7 hb) dX7_addThing_53 (fun z36_ e37_ => ?_)
      refine w_iconst (v := 1) dX7_addThing_56 (by decide) ?_
      refine w_iadd dX7_addThing_57 (fun z38_ h39_ => ?_)
      refine w_putI CC_nd fl_RX7_25 rfl rfl (ic_7 hb) dX7_addThing_58 (fun M40_ hM41_ => ?_)
      have hI42_ := hI32_.put hM41_ trivial
      have hF43_ := hF34_.put hM41_ (Or.inr (Or.inr (Or.inr (Or.inr (Or.inr (Or.inl ⟨rfl, rfl, rfl⟩))))))
      refine w_iload_n dX7_addThing_61 rfl 0 rfl ?_
      exact w_iret rfl dX7_addThing_62 ⟨hI42_, hF43_, trivial, ⟨z1_, e2_, (Or.inr ⟨h3_, (Or.inl ⟨h4_, j7_, h8_, M5_, hM6_, j13_, h14_, M11_, hM12_, j19_, h20_, M17_, hM18_, j25_, h26_, M23_, hM24_, hI27_, M29_, hI32_, hF33_, hs35_, z36_, e37_, z38_, h39_, M40_, hM41_, rfl, rfl⟩)⟩)⟩⟩
    · refine w_iconst (v := (-1)) dX7_addThing_15 (by decide) ?_
      exact w_iret rfl dX7_addThing_16 ⟨hIz, hFz, trivial, ⟨z1_, e2_, (Or.inr ⟨h3_, (Or.inr ⟨h4_, rfl, rfl⟩)⟩)⟩⟩
def SP_X7_factOf (b : Nat) (v : Int32) (u : Int32) (Mz : mM) (r_ : Int32) : Prop := (((SP_X7_hasThing b v Mz (1 : Int32)) ∧ (0 ≤ v.toInt ∧ v.toInt ≤ 39) ∧ (((u.toInt = 0) ∧ ∃ j10_ : Nat, ((j10_ : Int) = v.toInt) ∧ ∃ z8_ : Int32, (z8_ = Mz.1 (36, b, 0) j10_) ∧ r_ = z8_) ∨ ((u.toInt = 1) ∧ ∃ j14_ : Nat, ((j14_ : Int) = v.toInt) ∧ ∃ z12_ : Int32, (z12_ = Mz.1 (37, b, 0) j14_) ∧ r_ = z12_) ∨ ((u.toInt = 2) ∧ ∃ j18_ : Nat, ((j18_ : Int) = v.toInt) ∧ ∃ z16_ : Int32, (z16_ = Mz.1 (38, b, 0) j18_) ∧ r_ = z16_) ∨ (((¬ u.toInt = 0 ∧ ¬ u.toInt = 1 ∧ ¬ u.toInt = 2)) ∧ ∃ j22_ : Nat, ((j22_ : Int) = v.toInt) ∧ ∃ z20_ : Int32, (z20_ = Mz.1 (39, b, 0) j22_) ∧ r_ = z20_))) ∨ ((SP_X7_hasThing b v Mz (0 : Int32)) ∧ r_ = 0))
theorem lf_c_X7_factOf_0 (u : Int32) : u.toInt = 0 ∨ u.toInt = 1 ∨ u.toInt = 2 ∨ (¬ u.toInt = 0 ∧ ¬ u.toInt = 1 ∧ ¬ u.toInt = 2) := by omega
theorem lf_c_X7_factOf_1 (v : Int32) (h4_ : 0 ≤ v.toInt ∧ v.toInt ≤ 39) : 0 ≤ v.toInt ∧ v.toInt < ((40 : Nat) : Int) := by omega
theorem lf_c_X7_factOf_4 (u : Int32) (e7_ : (¬ u.toInt = 0 ∧ ¬ u.toInt = 1 ∧ ¬ u.toInt = 2)) : u.toInt < 0 ∨ 2 < u.toInt := by omega
set_option maxHeartbeats 4000000 in
set_option maxRecDepth 100000 in
theorem c_X7_factOf (l : Launch) (G : va_G) (cy : Nat → ClassId) (ad : rf → Nat) (d : Nat) (b : Nat) (v : Int32) (u : Int32) (Mz : mM) (hIz : Inv Mz) (hb : b < 3) : WP CC l G cy ad yX7_factOf cX7_factOf 3 (some .int) (d + 1) 0 [(0, vR (7, b, 0)), (1, vI v), (2, vI u)] [] Mz (fun r M' => Mz = M' ∧ (True) ∧ SP_X7_factOf b v u Mz r) := by
  refine w_aload_n dX7_factOf_0 rfl 0 rfl ?_
  refine w_iload_n dX7_factOf_1 rfl 1 rfl ?_
  refine w_callV (as := [vI v]) (rest := []) (c_X7_hasThing l G cy ad d b v Mz hIz hb) kV_X7_hasThing pnn_1 (Nat.le_of_ble_eq_true rfl) m_534 rfl rfl rfl (ic_7 hb) rfl rfl (by decide) (Nat.le_of_ble_eq_true rfl) dX7_factOf_2 (fun r1_ M2_ q3_ => ?_)
  obtain ⟨rfl, h4_, hs5_⟩ := q3_
  rcases h4_ with ⟨rfl, h4_⟩ | rfl
  · refine w_if_ne (tgt := 10) dX7_factOf_5 (by decide) li_1 (fun h6_ => ?_) (fun h9 => (absurd h9 (by decide)))
    refine w_iload_n dX7_factOf_10 rfl 2 rfl ?_
    rcases (lf_c_X7_factOf_0 u ) with e7_ | e7_ | e7_ | e7_
    · refine w_tsIn (tgt := 36) (off := 25) dX7_factOf_11 e7_ (by decide) (by decide) rfl (by decide) ?_
      refine w_aload_n dX7_factOf_36 rfl 0 rfl ?_
      refine w_getR (c' := (36, b, 0)) fl_RX7_13 rfl rfl (ic_7 hb) dX7_factOf_37 rfl ?_
      refine w_iload_n dX7_factOf_40 rfl 1 rfl ?_
      refine w_iald rfl rfl (ic_36 hb) (rfl : v.toInt = v.toInt) (lf_c_X7_factOf_1 v h4_ ) dX7_factOf_41 (fun j10_ h11_ z8_ e9_ => ?_)
      exact w_iret rfl dX7_factOf_42 ⟨rfl, trivial, (Or.inl ⟨hs5_, h4_, (Or.inl ⟨e7_, j10_, h11_, z8_, e9_, rfl⟩)⟩)⟩
    · refine w_tsIn (tgt := 43) (off := 32) dX7_factOf_11 e7_ (by decide) (by decide) rfl (by decide) ?_
      refine w_aload_n dX7_factOf_43 rfl 0 rfl ?_
      refine w_getR (c' := (37, b, 0)) fl_RX7_16 rfl rfl (ic_7 hb) dX7_factOf_44 rfl ?_
      refine w_iload_n dX7_factOf_47 rfl 1 rfl ?_
      refine w_iald rfl rfl (ic_37 hb) (rfl : v.toInt = v.toInt) (lf_c_X7_factOf_1 v h4_ ) dX7_factOf_48 (fun j14_ h15_ z12_ e13_ => ?_)
      exact w_iret rfl dX7_factOf_49 ⟨rfl, trivial, (Or.inl ⟨hs5_, h4_, (Or.inr (Or.inl ⟨e7_, j14_, h15_, z12_, e13_, rfl⟩))⟩)⟩
    · refine w_tsIn (tgt := 50) (off := 39) dX7_factOf_11 e7_ (by decide) (by decide) rfl (by decide) ?_
      refine w_aload_n dX7_factOf_50 rfl 0 rfl ?_
      refine w_getR (c' := (38, b, 0)) fl_RX7_19 rfl rfl (ic_7 hb) dX7_factOf_51 rfl ?_
      refine w_iload_n dX7_factOf_54 rfl 1 rfl ?_
      refine w_iald rfl rfl (ic_38 hb) (rfl : v.toInt = v.toInt) (lf_c_X7_factOf_1 v h4_ ) dX7_factOf_55 (fun j18_ h19_ z16_ e17_ => ?_)
      exact w_iret rfl dX7_factOf_56 ⟨rfl, trivial, (Or.inl ⟨hs5_, h4_, (Or.inr (Or.inr (Or.inl ⟨e7_, j18_, h19_, z16_, e17_, rfl⟩)))⟩)⟩
    · refine w_tsOut (tgt := 57) dX7_factOf_11 rfl (lf_c_X7_factOf_4 u e7_ ) (by decide) ?_
      refine w_aload_n dX7_factOf_57 rfl 0 rfl ?_
      refine w_getR (c' := (39, b, 0)) fl_RX7_22 rfl rfl (ic_7 hb) dX7_factOf_58 rfl ?_
      refine w_iload_n dX7_factOf_61 rfl 1 rfl ?_
      refine w_iald rfl rfl (ic_39 hb) (rfl : v.toInt = v.toInt) (lf_c_X7_factOf_1 v h4_ ) dX7_factOf_62 (fun j22_ h23_ z20_ e21_ => ?_)
      exact w_iret rfl dX7_factOf_63 ⟨rfl, trivial, (Or.inl ⟨hs5_, h4_, (Or.inr (Or.inr (Or.inr ⟨e7_, j22_, h23_, z20_, e21_, rfl⟩)))⟩)⟩
  · refine w_if_ne (tgt := 10) dX7_factOf_5 (by decide) li_0 (fun h9 => (absurd h9 (by decide))) (fun h24_ => ?_)
    refine w_iconst (v := 0) dX7_factOf_8 (by decide) ?_
    exact w_iret rfl dX7_factOf_9 ⟨rfl, trivial, (Or.inr ⟨hs5_, rfl⟩)⟩
def S_c_X7_takeAway (b : Nat) : rf → Nat → Prop := fun c k => (c.1 = 35 ∧ c.2.1 = b) ∨ (c.1 = 37 ∧ c.2.1 = b) ∨ False
def SP_X7_takeAway (b : Nat) (v : Int32) (Mz : mM) (r_ : Int32) (M_ : mM) : Prop := (((SP_X7_hasThing b v Mz (1 : Int32)) ∧ (0 ≤ v.toInt ∧ v.toInt ≤ 39) ∧ ∃ j9_ : Nat, ((j9_ : Int) = v.toInt) ∧ ∃ z7_ : Int32, (z7_ = Mz.1 (37, b, 0) j9_) ∧ ∃ M11_ : mM, (Inv M11_) ∧ (FR (S_c_X7_settle b) Mz M11_) ∧ (SP_X7_settle b z7_ (-1) Mz M11_) ∧ ∃ j20_ : Nat, ((j20_ : Int) = v.toInt) ∧ ∃ M18_ : mM, (M18_ = up M11_ (37, b, 0) j20_ (-1)) ∧ r_ = z7_ ∧ M_ = M18_) ∨ ((SP_X7_hasThing b v Mz (0 : Int32)) ∧ r_ = (-1) ∧ M_ = Mz))
set_option maxHeartbeats 4000000 in
set_option maxRecDepth 100000 in
theorem c_X7_takeAway (l : Launch) (G : va_G) (cy : Nat → ClassId) (ad : rf → Nat) (d : Nat) (b : Nat) (v : Int32) (Mz : mM) (hIz : Inv Mz) (hb : b < 3) : WP CC l G cy ad yX7_takeAway cX7_takeAway 3 (some .int) (d + 2) 0 [(0, vR (7, b, 0)), (1, vI v)] [] Mz (fun r M' => Inv M' ∧ FR (S_c_X7_takeAway b) Mz M' ∧ (True) ∧ SP_X7_takeAway b v Mz r M') := by
  have hFz : FR (S_c_X7_takeAway b) Mz Mz := FR.self
  refine w_aload_n dX7_takeAway_0 rfl 0 rfl ?_
  refine w_iload_n dX7_takeAway_1 rfl 1 rfl ?_
  refine w_callV (as := [vI v]) (rest := []) (c_X7_hasThing l G cy ad (d + 1) b v Mz hIz hb) kV_X7_hasThing pnn_1 (Nat.le_of_ble_eq_true rfl) m_534 rfl rfl rfl (ic_7 hb) rfl rfl (by decide) (Nat.le_of_ble_eq_true rfl) dX7_takeAway_2 (fun r1_ M2_ q3_ => ?_)
  obtain ⟨rfl, h4_, hs5_⟩ := q3_
  rcases h4_ with ⟨rfl, h4_⟩ | rfl
  · refine w_if_ne (tgt := 10) dX7_takeAway_5 (by decide) li_1 (fun h6_ => ?_) (fun h9 => (absurd h9 (by decide)))
    refine w_aload_n dX7_takeAway_10 rfl 0 rfl ?_
    refine w_getR (c' := (37, b, 0)) fl_RX7_16 rfl rfl (ic_7 hb) dX7_takeAway_11 rfl ?_
    refine w_iload_n dX7_takeAway_14 rfl 1 rfl ?_
    refine w_iald rfl rfl (ic_37 hb) (rfl : v.toInt = v.toInt) (lf_c_X7_factOf_1 v h4_ ) dX7_takeAway_15 (fun j9_ h10_ z7_ e8_ => ?_)
    refine w_istore_n (ls' := [(2, vI z7_), (0, vR (7, b, 0)), (1, vI v)]) dX7_takeAway_16 rfl (by decide) rfl ?_
    refine w_aload_n dX7_takeAway_17 rfl 1 rfl ?_
    refine w_iload_n dX7_takeAway_18 rfl 0 rfl ?_
    refine w_iconst (v := (-1)) dX7_takeAway_19 (by decide) ?_
    refine w_callVv (as := [vI z7_, vI (-1)]) (rest := []) (c_X7_settle l G cy ad d b z7_ (-1) Mz hIz hb) kV_X7_settle pnn_1 (Nat.le_of_ble_eq_true rfl) m_518 rfl rfl rfl (ic_7 hb) rfl rfl (by decide) (Nat.le_of_ble_eq_true rfl) dX7_takeAway_20 (fun M11_ q12_ => ?_)
    obtain ⟨hI14_, hF15_, h13_, hs17_⟩ := q12_
    have hF16_ := hFz.tr hF15_ (fun c k => (fun h => h.elim (fun h => (Or.inl ⟨h.1, h.2⟩)) (fun h => h.elim)))
    refine w_aload_n dX7_takeAway_23 rfl 1 rfl ?_
    refine w_getR (c' := (37, b, 0)) fl_RX7_16 rfl rfl (ic_7 hb) dX7_takeAway_24 rfl ?_
    refine w_iload_n dX7_takeAway_27 rfl 2 rfl ?_
    refine w_iconst (v := (-1)) dX7_takeAway_28 (by decide) ?_
    refine w_iast CC_nd rfl rfl (ic_37 hb) (rfl : v.toInt = v.toInt) (lf_c_X7_factOf_1 v h4_ ) dX7_takeAway_29 (fun j20_ h21_ M18_ hM19_ => ?_)
    have hI22_ := hI14_.put hM19_ trivial
    have hF23_ := hF16_.put hM19_ (Or.inr (Or.inl ⟨rfl, rfl⟩))
    refine w_iload_n dX7_takeAway_30 rfl 0 rfl ?_
    exact w_iret rfl dX7_takeAway_31 ⟨hI22_, hF23_, trivial, (Or.inl ⟨hs5_, h4_, j9_, h10_, z7_, e8_, M11_, hI14_, hF15_, hs17_, j20_, h21_, M18_, hM19_, rfl, rfl⟩)⟩
  · refine w_if_ne (tgt := 10) dX7_takeAway_5 (by decide) li_0 (fun h9 => (absurd h9 (by decide))) (fun h24_ => ?_)
    refine w_iconst (v := (-1)) dX7_takeAway_8 (by decide) ?_
    exact w_iret rfl dX7_takeAway_9 ⟨hIz, hFz, trivial, (Or.inr ⟨hs5_, rfl, rfl⟩)⟩
def ST_X7_countThings_4 (b : Nat) (Mz : mM) (v2_4 : Int32) (v1_4 : Int32) (v2_4y : Int32) (v1_4y : Int32) : Prop := (0 ≤ v2_4.toInt) ∧ ∃ z2_ : Int32, (z2_ = Mz.1 (7, b, 0) 5) ∧ (v2_4.toInt < z2_.toInt) ∧ (v2_4.toInt < 40) ∧ ∃ j8_ : Nat, ((j8_ : Int) = v2_4.toInt) ∧ ∃ z6_ : Int32, (z6_ = Mz.1 (37, b, 0) j8_) ∧ (((z6_.toInt < 0) ∧ ∃ z11_ : Int32, (z11_.toInt = v2_4.toInt + 1) ∧ v2_4y = z11_ ∧ v1_4y = v1_4) ∨ ((0 ≤ z6_.toInt) ∧ ∃ z13_ : Int32, (z13_ = v1_4 + Int32.ofInt 1) ∧ ∃ z15_ : Int32, (z15_.toInt = v2_4.toInt + 1) ∧ v2_4y = z15_ ∧ v1_4y = z13_))
def SP_X7_countThings (b : Nat) (Mz : mM) (r_ : Int32) : Prop := ∃ v2_4 : Int32, (0 ≤ v2_4.toInt) ∧ ∃ v1_4 : Int32, (RCH (fun x_ y_ => ST_X7_countThings_4 b Mz x_.1 x_.2 y_.1 y_.2) ((0 : Int32), (0 : Int32)) (v2_4, v1_4)) ∧ ∃ z2_ : Int32, (z2_ = Mz.1 (7, b, 0) 5) ∧ (((z2_.toInt ≤ v2_4.toInt) ∧ r_ = v1_4) ∨ ((v2_4.toInt < z2_.toInt) ∧ (40 ≤ v2_4.toInt) ∧ r_ = v1_4))
theorem lf_c_X7_countThings_1 (v2_4 : Int32) (hv0_4 : 0 ≤ v2_4.toInt) (h5_ : v2_4.toInt < 40) : -2147483648 ≤ v2_4.toInt + 1 ∧ v2_4.toInt + 1 < 2147483648 := by omega
theorem lf_c_X7_countThings_3 (v2_4 : Int32) (z11_ : Int32) (h5_ : v2_4.toInt < 40) (h12_ : z11_.toInt = v2_4.toInt + 1) : (2147483648 - z11_.toInt).toNat < (2147483648 - v2_4.toInt).toNat := by omega
set_option maxHeartbeats 4000000 in
set_option maxRecDepth 100000 in
theorem c_X7_countThings (l : Launch) (G : va_G) (cy : Nat → ClassId) (ad : rf → Nat) (d : Nat) (b : Nat) (Mz : mM) (hIz : Inv Mz) (hb : b < 3) : WP CC l G cy ad yX7_countThings cX7_countThings 3 (some .int) d 0 [(0, vR (7, b, 0))] [] Mz (fun r M' => Mz = M' ∧ (True) ∧ SP_X7_countThings b Mz r) := by
  refine w_iconst (v := 0) dX7_countThings_0 (by decide) ?_
  refine w_istore_n (ls' := [(1, vI 0), (0, vR (7, b, 0))]) dX7_countThings_1 rfl (by decide) rfl ?_
  refine w_iconst (v := 0) dX7_countThings_2 (by decide) ?_
  refine w_istore_n (ls' := [(2, vI 0), (1, vI 0), (0, vR (7, b, 0))]) dX7_countThings_3 rfl (by decide) rfl ?_
  have lp1_ : ∀ (nn_4 : Nat) (v2_4 : Int32) (v1_4 : Int32) (hv0_4 : 0 ≤ v2_4.toInt) (hL_4 : RCH (fun x_ y_ => ST_X7_countThings_4 b Mz x_.1 x_.2 y_.1 y_.2) ((0 : Int32), (0 : Int32)) (v2_4, v1_4)), (2147483648 - v2_4.toInt).toNat < nn_4 → WP CC l G cy ad yX7_countThings cX7_countThings 3 (some .int) d 4 [(2, vI v2_4), (1, vI v1_4), (0, vR (7, b, 0))] [] Mz (fun r M' => Mz = M' ∧ (True) ∧ SP_X7_countThings b Mz r) := by
    intro nn_4
    induction nn_4 with
    | zero => intro v2_4 v1_4 hv0_4 hL_4 hm_4; exact absurd hm_4 (Nat.not_lt_zero _)
    | succ nn_4 ih_4 =>
      intro v2_4 v1_4 hv0_4 hL_4 hm_4
      refine w_iload_n dX7_countThings_4 rfl 0 rfl ?_
      refine w_aload_n dX7_countThings_5 rfl 2 rfl ?_
      refine w_getI fl_RX7_25 rfl rfl (ic_7 hb) dX7_countThings_6 (fun z2_ e3_ => ?_)
      refine w_icmp_ge (tgt := 36) dX7_countThings_9 (by decide) (rfl : v2_4.toInt = v2_4.toInt) (rfl : z2_.toInt = z2_.toInt) (fun h4_ => ?_) (fun h4_ => ?_)
      · refine w_iload_n dX7_countThings_36 rfl 1 rfl ?_
        exact w_iret rfl dX7_countThings_37 ⟨rfl, trivial, ⟨v2_4, hv0_4, v1_4, hL_4, z2_, e3_, (Or.inl ⟨h4_, rfl⟩)⟩⟩
      · refine w_iload_n dX7_countThings_12 rfl 0 rfl ?_
        refine w_bipush (v := 40) dX7_countThings_13 (by decide) ?_
        refine w_icmp_ge (tgt := 36) dX7_countThings_15 (by decide) (rfl : v2_4.toInt = v2_4.toInt) li_40 (fun h5_ => ?_) (fun h5_ => ?_)
        · refine w_iload_n dX7_countThings_36 rfl 1 rfl ?_
          exact w_iret rfl dX7_countThings_37 ⟨rfl, trivial, ⟨v2_4, hv0_4, v1_4, hL_4, z2_, e3_, (Or.inr ⟨h4_, h5_, rfl⟩)⟩⟩
        · refine w_aload_n dX7_countThings_18 rfl 2 rfl ?_
          refine w_getR (c' := (37, b, 0)) fl_RX7_16 rfl rfl (ic_7 hb) dX7_countThings_19 rfl ?_
          refine w_iload_n dX7_countThings_22 rfl 0 rfl ?_
          refine w_iald rfl rfl (ic_37 hb) (rfl : v2_4.toInt = v2_4.toInt) (lf_c_X7_addThing_0 v2_4 hv0_4 h5_ ) dX7_countThings_23 (fun j8_ h9_ z6_ e7_ => ?_)
          refine w_if_lt (tgt := 30) dX7_countThings_24 (by decide) (rfl : z6_.toInt = z6_.toInt) (fun h10_ => ?_) (fun h10_ => ?_)
          · refine w_iincB (j := 0) (f := fun z11_ => [(2, vI z11_), (1, vI v1_4), (0, vR (7, b, 0))]) dX7_countThings_30 rfl (by decide) (fun _ => rfl) (rfl : v2_4.toInt = v2_4.toInt) li_1 (lf_c_X7_countThings_1 v2_4 hv0_4 h5_ ) (fun z11_ h12_ => ?_)
            refine w_goto (tgt := 4) dX7_countThings_33 (by decide) ?_
            refine w_loc (ls' := [(2, vI z11_), (1, vI v1_4), (0, vR (7, b, 0))]) [0, 1, 2] rfl ?_
            exact ih_4 z11_ v1_4 (lf_c_X5_takeFrom_3 v2_4 z11_ hv0_4 h12_ ) (RCH.tail hL_4 ⟨hv0_4, z2_, e3_, h4_, h5_, j8_, h9_, z6_, e7_, (Or.inl ⟨h10_, z11_, h12_, rfl, rfl⟩)⟩) (Nat.lt_of_lt_of_le (lf_c_X7_countThings_3 v2_4 z11_ h5_ h12_ ) (Nat.le_of_lt_succ hm_4))
          · refine w_iincX (j := 1) (f := fun z13_ => [(1, vI z13_), (2, vI v2_4), (0, vR (7, b, 0))]) dX7_countThings_27 rfl (by decide) (fun _ => rfl) (fun z13_ h14_ => ?_)
            refine w_iincB (j := 1) (f := fun z15_ => [(2, vI z15_), (1, vI z13_), (0, vR (7, b, 0))]) dX7_countThings_30 rfl (by decide) (fun _ => rfl) (rfl : v2_4.toInt = v2_4.toInt) li_1 (lf_c_X7_countThings_1 v2_4 hv0_4 h5_ ) (fun z15_ h16_ => ?_)
            refine w_goto (tgt := 4) dX7_countThings_33 (by decide) ?_
            refine w_loc (ls' := [(2, vI z15_), (1, vI z13_), (0, vR (7, b, 0))]) [0, 1, 2] rfl ?_
            exact ih_4 z15_ z13_ (lf_c_X5_takeFrom_3 v2_4 z15_ hv0_4 h16_ ) (RCH.tail hL_4 ⟨hv0_4, z2_, e3_, h4_, h5_, j8_, h9_, z6_, e7_, (Or.inr ⟨h10_, z13_, h14_, z15_, h16_, rfl, rfl⟩)⟩) (Nat.lt_of_lt_of_le (lf_c_X7_countThings_3 v2_4 z15_ h5_ h16_ ) (Nat.le_of_lt_succ hm_4))
  exact lp1_ _ 0 0 (lf_c_X5_takeFrom_5 ) RCH.refl (Nat.lt_succ_self _)
def SP_X7_kindIn (b : Nat) (v : Int32) (Mz : mM) (r_ : Int32) : Prop := (((SP_X7_isCell v Mz (1 : Int32)) ∧ (0 ≤ v.toInt ∧ v.toInt ≤ 191) ∧ ∃ j9_ : Nat, ((j9_ : Int) = v.toInt) ∧ ∃ z7_ : Int32, (z7_ = Mz.1 (35, b, 0) j9_) ∧ (((SP_X7_hasThing b z7_ Mz (1 : Int32)) ∧ (0 ≤ z7_.toInt ∧ z7_.toInt ≤ 39) ∧ ∃ j19_ : Nat, ((j19_ : Int) = z7_.toInt) ∧ ∃ z17_ : Int32, (z17_ = Mz.1 (36, b, 0) j19_) ∧ r_ = z17_) ∨ ((SP_X7_hasThing b z7_ Mz (0 : Int32)) ∧ r_ = 3))) ∨ ((SP_X7_isCell v Mz (0 : Int32)) ∧ (¬ (0 ≤ v.toInt ∧ v.toInt ≤ 191)) ∧ (SP_X7_hasThing b (-1) Mz (0 : Int32)) ∧ r_ = 3))
set_option maxHeartbeats 4000000 in
set_option maxRecDepth 100000 in
theorem c_X7_kindIn (l : Launch) (G : va_G) (cy : Nat → ClassId) (ad : rf → Nat) (d : Nat) (b : Nat) (v : Int32) (Mz : mM) (hIz : Inv Mz) (hb : b < 3) : WP CC l G cy ad yX7_kindIn cX7_kindIn 3 (some .int) (d + 1) 0 [(0, vR (7, b, 0)), (1, vI v)] [] Mz (fun r M' => Mz = M' ∧ (True) ∧ SP_X7_kindIn b v Mz r) := by
  refine w_iload_n dX7_kindIn_0 rfl 1 rfl ?_
  refine w_callS (as := [vI v]) (rest := []) (c_X7_isCell l G cy ad d v Mz hIz) kS_X7_isCell pnn_1 (Nat.le_of_ble_eq_true rfl) m_509 rfl rfl (by decide) (Nat.le_of_ble_eq_true rfl) dX7_kindIn_1 (fun r1_ M2_ q3_ => ?_)
  obtain ⟨rfl, h4_, hs5_⟩ := q3_
  rcases h4_ with ⟨rfl, h4_⟩ | ⟨rfl, h4_⟩
  · refine w_if_eq (tgt := 16) dX7_kindIn_4 (by decide) li_1 (fun h9 => (absurd h9 (by decide))) (fun h6_ => ?_)
    refine w_aload_n dX7_kindIn_7 rfl 0 rfl ?_
    refine w_getR (c' := (35, b, 0)) fl_RX7_9 rfl rfl (ic_7 hb) dX7_kindIn_8 rfl ?_
    refine w_iload_n dX7_kindIn_11 rfl 1 rfl ?_
    refine w_iald rfl rfl (ic_35 hb) (rfl : v.toInt = v.toInt) (lf_c_X7_isFree_0 v h4_ ) dX7_kindIn_12 (fun j9_ h10_ z7_ e8_ => ?_)
    refine w_goto (tgt := 17) dX7_kindIn_13 (by decide) ?_
    refine w_istore_n (ls' := [(2, vI z7_), (0, vR (7, b, 0)), (1, vI v)]) dX7_kindIn_17 rfl (by decide) rfl ?_
    refine w_aload_n dX7_kindIn_18 rfl 1 rfl ?_
    refine w_iload_n dX7_kindIn_19 rfl 0 rfl ?_
    refine w_callV (as := [vI z7_]) (rest := []) (c_X7_hasThing l G cy ad d b z7_ Mz hIz hb) kV_X7_hasThing pnn_1 (Nat.le_of_ble_eq_true rfl) m_534 rfl rfl rfl (ic_7 hb) rfl rfl (by decide) (Nat.le_of_ble_eq_true rfl) dX7_kindIn_20 (fun r11_ M12_ q13_ => ?_)
    obtain ⟨rfl, h14_, hs15_⟩ := q13_
    rcases h14_ with ⟨rfl, h14_⟩ | rfl
    · refine w_if_eq (tgt := 35) dX7_kindIn_23 (by decide) li_1 (fun h9 => (absurd h9 (by decide))) (fun h16_ => ?_)
      refine w_aload_n dX7_kindIn_26 rfl 1 rfl ?_
      refine w_getR (c' := (36, b, 0)) fl_RX7_13 rfl rfl (ic_7 hb) dX7_kindIn_27 rfl ?_
      refine w_iload_n dX7_kindIn_30 rfl 0 rfl ?_
      refine w_iald rfl rfl (ic_36 hb) (rfl : z7_.toInt = z7_.toInt) (lf_c_X7_factOf_1 z7_ h14_ ) dX7_kindIn_31 (fun j19_ h20_ z17_ e18_ => ?_)
      refine w_goto (tgt := 36) dX7_kindIn_32 (by decide) ?_
      exact w_iret rfl dX7_kindIn_36 ⟨rfl, trivial, (Or.inl ⟨hs5_, h4_, j9_, h10_, z7_, e8_, (Or.inl ⟨hs15_, h14_, j19_, h20_, z17_, e18_, rfl⟩)⟩)⟩
    · refine w_if_eq (tgt := 35) dX7_kindIn_23 (by decide) li_0 (fun h21_ => ?_) (fun h9 => (absurd h9 (by decide)))
      refine w_iconst (v := 3) dX7_kindIn_35 (by decide) ?_
      exact w_iret rfl dX7_kindIn_36 ⟨rfl, trivial, (Or.inl ⟨hs5_, h4_, j9_, h10_, z7_, e8_, (Or.inr ⟨hs15_, rfl⟩)⟩)⟩
  · refine w_if_eq (tgt := 16) dX7_kindIn_4 (by decide) li_0 (fun h22_ => ?_) (fun h9 => (absurd h9 (by decide)))
    refine w_iconst (v := (-1)) dX7_kindIn_16 (by decide) ?_
    refine w_istore_n (ls' := [(2, vI (-1)), (0, vR (7, b, 0)), (1, vI v)]) dX7_kindIn_17 rfl (by decide) rfl ?_
    refine w_aload_n dX7_kindIn_18 rfl 1 rfl ?_
    refine w_iload_n dX7_kindIn_19 rfl 0 rfl ?_
    refine w_callV (as := [vI (-1)]) (rest := []) (c_X7_hasThing l G cy ad d b (-1) Mz hIz hb) kV_X7_hasThing pnn_1 (Nat.le_of_ble_eq_true rfl) m_534 rfl rfl rfl (ic_7 hb) rfl rfl (by decide) (Nat.le_of_ble_eq_true rfl) dX7_kindIn_20 (fun r23_ M24_ q25_ => ?_)
    obtain ⟨rfl, h26_, hs27_⟩ := q25_
    rcases h26_ with ⟨rfl, h26_⟩ | rfl
    · simp only [li_m1] at h26_
      exact absurd h26_ (by decide)
    · refine w_if_eq (tgt := 35) dX7_kindIn_23 (by decide) li_0 (fun h28_ => ?_) (fun h9 => (absurd h9 (by decide)))
      refine w_iconst (v := 3) dX7_kindIn_35 (by decide) ?_
      exact w_iret rfl dX7_kindIn_36 ⟨rfl, trivial, (Or.inr ⟨hs5_, h4_, hs27_, rfl⟩)⟩
def S_c_X7_letThingGo (b : Nat) : rf → Nat → Prop := fun c k => (c.1 = 35 ∧ c.2.1 = b) ∨ (c.1 = 37 ∧ c.2.1 = b) ∨ (c.1 = 38 ∧ c.2.1 = b) ∨ False
def SP_X7_letThingGo (b : Nat) (v : Int32) (Mz : mM) (M_ : mM) : Prop := (((SP_X7_hasThing b v Mz (1 : Int32)) ∧ (0 ≤ v.toInt ∧ v.toInt ≤ 39) ∧ ∃ j9_ : Nat, ((j9_ : Int) = v.toInt) ∧ ∃ z7_ : Int32, (z7_ = Mz.1 (37, b, 0) j9_) ∧ ∃ j13_ : Nat, ((j13_ : Int) = v.toInt) ∧ ∃ z11_ : Int32, (z11_ = Mz.1 (38, b, 0) j13_) ∧ ∃ r15_ : Int32, (SP_X7_cellFrom z7_ z11_ 1 Mz r15_) ∧ (-1 ≤ r15_.toInt ∧ r15_.toInt ≤ 191) ∧ (((SP_X7_isFree b r15_ Mz (1 : Int32)) ∧ (0 ≤ r15_.toInt ∧ r15_.toInt ≤ 191) ∧ ∃ j28_ : Nat, ((j28_ : Int) = v.toInt) ∧ ∃ z26_ : Int32, (z26_ = Mz.1 (37, b, 0) j28_) ∧ ∃ M30_ : mM, (Inv M30_) ∧ (FR (S_c_X7_settle b) Mz M30_) ∧ (SP_X7_settle b z26_ (-1) Mz M30_) ∧ ∃ M37_ : mM, (Inv M37_) ∧ (FR (S_c_X7_settle b) M30_ M37_) ∧ (SP_X7_settle b r15_ v M30_ M37_) ∧ ∃ j46_ : Nat, ((j46_ : Int) = v.toInt) ∧ ∃ M44_ : mM, (M44_ = up M37_ (37, b, 0) j46_ r15_) ∧ M_ = M44_) ∨ ((SP_X7_isFree b r15_ Mz (0 : Int32)) ∧ ∃ j53_ : Nat, ((j53_ : Int) = v.toInt) ∧ ∃ z51_ : Int32, (z51_ = Mz.1 (38, b, 0) j53_) ∧ ∃ z55_ : Int32, (z55_ = z51_ + (4 : Int32)) ∧ ∃ z57_ : Int32, (z57_ = z55_ &&& (7 : Int32)) ∧ (0 ≤ z57_.toInt ∧ z57_.toInt < ((2 ^ 3 : Nat) : Int)) ∧ ∃ j62_ : Nat, ((j62_ : Int) = v.toInt) ∧ ∃ M60_ : mM, (M60_ = up Mz (38, b, 0) j62_ z57_) ∧ M_ = M60_))) ∨ ((SP_X7_hasThing b v Mz (0 : Int32)) ∧ M_ = Mz))
set_option maxHeartbeats 4000000 in
set_option maxRecDepth 100000 in
theorem c_X7_letThingGo (l : Launch) (G : va_G) (cy : Nat → ClassId) (ad : rf → Nat) (d : Nat) (b : Nat) (v : Int32) (Mz : mM) (hIz : Inv Mz) (hb : b < 3) : WP CC l G cy ad yX7_letThingGo cX7_letThingGo 3 none (d + 2) 0 [(0, vR (7, b, 0)), (1, vI v)] [] Mz (fun r M' => Inv M' ∧ FR (S_c_X7_letThingGo b) Mz M' ∧ (True) ∧ SP_X7_letThingGo b v Mz M') := by
  have hFz : FR (S_c_X7_letThingGo b) Mz Mz := FR.self
  refine w_aload_n dX7_letThingGo_0 rfl 0 rfl ?_
  refine w_iload_n dX7_letThingGo_1 rfl 1 rfl ?_
  refine w_callV (as := [vI v]) (rest := []) (c_X7_hasThing l G cy ad (d + 1) b v Mz hIz hb) kV_X7_hasThing pnn_1 (Nat.le_of_ble_eq_true rfl) m_534 rfl rfl rfl (ic_7 hb) rfl rfl (by decide) (Nat.le_of_ble_eq_true rfl) dX7_letThingGo_2 (fun r1_ M2_ q3_ => ?_)
  obtain ⟨rfl, h4_, hs5_⟩ := q3_
  rcases h4_ with ⟨rfl, h4_⟩ | rfl
  · refine w_if_ne (tgt := 9) dX7_letThingGo_5 (by decide) li_1 (fun h6_ => ?_) (fun h9 => (absurd h9 (by decide)))
    refine w_aload_n dX7_letThingGo_9 rfl 0 rfl ?_
    refine w_getR (c' := (37, b, 0)) fl_RX7_16 rfl rfl (ic_7 hb) dX7_letThingGo_10 rfl ?_
    refine w_iload_n dX7_letThingGo_13 rfl 1 rfl ?_
    refine w_iald rfl rfl (ic_37 hb) (rfl : v.toInt = v.toInt) (lf_c_X7_factOf_1 v h4_ ) dX7_letThingGo_14 (fun j9_ h10_ z7_ e8_ => ?_)
    refine w_aload_n dX7_letThingGo_15 rfl 0 rfl ?_
    refine w_getR (c' := (38, b, 0)) fl_RX7_19 rfl rfl (ic_7 hb) dX7_letThingGo_16 rfl ?_
    refine w_iload_n dX7_letThingGo_19 rfl 1 rfl ?_
    refine w_iald rfl rfl (ic_38 hb) (rfl : v.toInt = v.toInt) (lf_c_X7_factOf_1 v h4_ ) dX7_letThingGo_20 (fun j13_ h14_ z11_ e12_ => ?_)
    refine w_iconst (v := 1) dX7_letThingGo_21 (by decide) ?_
    refine w_callS (as := [vI z7_, vI z11_, vI 1]) (rest := []) (c_X7_cellFrom l G cy ad d z7_ z11_ 1 Mz hIz) kS_X7_cellFrom pnn_1 (Nat.le_of_ble_eq_true rfl) m_1037 rfl rfl (by decide) (Nat.le_of_ble_eq_true rfl) dX7_letThingGo_22 (fun r15_ M16_ q17_ => ?_)
    obtain ⟨rfl, h18_, hs19_⟩ := q17_
    refine w_istore_n (ls' := [(2, vI r15_), (0, vR (7, b, 0)), (1, vI v)]) dX7_letThingGo_25 rfl (by decide) rfl ?_
    refine w_aload_n dX7_letThingGo_26 rfl 1 rfl ?_
    refine w_iload_n dX7_letThingGo_27 rfl 0 rfl ?_
    refine w_callV (as := [vI r15_]) (rest := []) (c_X7_isFree l G cy ad d b r15_ Mz hIz hb) kV_X7_isFree pnn_1 (Nat.le_of_ble_eq_true rfl) m_1038 rfl rfl rfl (ic_7 hb) rfl rfl (by decide) (Nat.le_of_ble_eq_true rfl) dX7_letThingGo_28 (fun r20_ M21_ q22_ => ?_)
    obtain ⟨rfl, h23_, hs24_⟩ := q22_
    rcases h23_ with ⟨rfl, h23_⟩ | rfl
    · refine w_if_eq (tgt := 61) dX7_letThingGo_31 (by decide) li_1 (fun h9 => (absurd h9 (by decide))) (fun h25_ => ?_)
      refine w_aload_n dX7_letThingGo_34 rfl 1 rfl ?_
      refine w_aload_n dX7_letThingGo_35 rfl 1 rfl ?_
      refine w_getR (c' := (37, b, 0)) fl_RX7_16 rfl rfl (ic_7 hb) dX7_letThingGo_36 rfl ?_
      refine w_iload_n dX7_letThingGo_39 rfl 2 rfl ?_
      refine w_iald rfl rfl (ic_37 hb) (rfl : v.toInt = v.toInt) (lf_c_X7_factOf_1 v h4_ ) dX7_letThingGo_40 (fun j28_ h29_ z26_ e27_ => ?_)
      refine w_iconst (v := (-1)) dX7_letThingGo_41 (by decide) ?_
      refine w_callVv (as := [vI z26_, vI (-1)]) (rest := []) (c_X7_settle l G cy ad d b z26_ (-1) Mz hIz hb) kV_X7_settle pnn_1 (Nat.le_of_ble_eq_true rfl) m_518 rfl rfl rfl (ic_7 hb) rfl rfl (by decide) (Nat.le_of_ble_eq_true rfl) dX7_letThingGo_42 (fun M30_ q31_ => ?_)
      obtain ⟨hI33_, hF34_, h32_, hs36_⟩ := q31_
      have hF35_ := hFz.tr hF34_ (fun c k => (fun h => h.elim (fun h => (Or.inl ⟨h.1, h.2⟩)) (fun h => h.elim)))
      refine w_aload_n dX7_letThingGo_45 rfl 1 rfl ?_
      refine w_iload_n dX7_letThingGo_46 rfl 0 rfl ?_
      refine w_iload_n dX7_letThingGo_47 rfl 2 rfl ?_
      refine w_callVv (as := [vI r15_, vI v]) (rest := []) (c_X7_settle l G cy ad d b r15_ v M30_ hI33_ hb) kV_X7_settle pnn_1 (Nat.le_of_ble_eq_true rfl) m_518 rfl rfl rfl (ic_7 hb) rfl rfl (by decide) (Nat.le_of_ble_eq_true rfl) dX7_letThingGo_48 (fun M37_ q38_ => ?_)
      obtain ⟨hI40_, hF41_, h39_, hs43_⟩ := q38_
      have hF42_ := hF35_.tr hF41_ (fun c k => (fun h => h.elim (fun h => (Or.inl ⟨h.1, h.2⟩)) (fun h => h.elim)))
      refine w_aload_n dX7_letThingGo_51 rfl 1 rfl ?_
      refine w_getR (c' := (37, b, 0)) fl_RX7_16 rfl rfl (ic_7 hb) dX7_letThingGo_52 rfl ?_
      refine w_iload_n dX7_letThingGo_55 rfl 2 rfl ?_
      refine w_iload_n dX7_letThingGo_56 rfl 0 rfl ?_
      refine w_iast CC_nd rfl rfl (ic_37 hb) (rfl : v.toInt = v.toInt) (lf_c_X7_factOf_1 v h4_ ) dX7_letThingGo_57 (fun j46_ h47_ M44_ hM45_ => ?_)
      have hI48_ := hI40_.put hM45_ trivial
      have hF49_ := hF42_.put hM45_ (Or.inr (Or.inl ⟨rfl, rfl⟩))
      refine w_goto (tgt := 78) dX7_letThingGo_58 (by decide) ?_
      exact w_vret rfl dX7_letThingGo_78 ⟨hI48_, hF49_, trivial, (Or.inl ⟨hs5_, h4_, j9_, h10_, z7_, e8_, j13_, h14_, z11_, e12_, r15_, hs19_, h18_, (Or.inl ⟨hs24_, h23_, j28_, h29_, z26_, e27_, M30_, hI33_, hF34_, hs36_, M37_, hI40_, hF41_, hs43_, j46_, h47_, M44_, hM45_, rfl⟩)⟩)⟩
    · refine w_if_eq (tgt := 61) dX7_letThingGo_31 (by decide) li_0 (fun h50_ => ?_) (fun h9 => (absurd h9 (by decide)))
      refine w_aload_n dX7_letThingGo_61 rfl 1 rfl ?_
      refine w_getR (c' := (38, b, 0)) fl_RX7_19 rfl rfl (ic_7 hb) dX7_letThingGo_62 rfl ?_
      refine w_iload_n dX7_letThingGo_65 rfl 2 rfl ?_
      refine w_aload_n dX7_letThingGo_66 rfl 1 rfl ?_
      refine w_getR (c' := (38, b, 0)) fl_RX7_19 rfl rfl (ic_7 hb) dX7_letThingGo_67 rfl ?_
      refine w_iload_n dX7_letThingGo_70 rfl 2 rfl ?_
      refine w_iald rfl rfl (ic_38 hb) (rfl : v.toInt = v.toInt) (lf_c_X7_factOf_1 v h4_ ) dX7_letThingGo_71 (fun j53_ h54_ z51_ e52_ => ?_)
      refine w_iconst (v := 4) dX7_letThingGo_72 (by decide) ?_
      refine w_iadd dX7_letThingGo_73 (fun z55_ h56_ => ?_)
      refine w_bipush (v := 7) dX7_letThingGo_74 (by decide) ?_
      refine w_iand dX7_letThingGo_76 (fun z57_ h59_ => ?_)
      have h58_ : 0 ≤ z57_.toInt ∧ z57_.toInt < ((2 ^ 3 : Nat) : Int) := by rw [h59_]; exact andI _ 3 (by decide) (by decide)
      refine w_iast CC_nd rfl rfl (ic_38 hb) (rfl : v.toInt = v.toInt) (lf_c_X7_factOf_1 v h4_ ) dX7_letThingGo_77 (fun j62_ h63_ M60_ hM61_ => ?_)
      have hI64_ := hIz.put hM61_ trivial
      have hF65_ := hFz.put hM61_ (Or.inr (Or.inr (Or.inl ⟨rfl, rfl⟩)))
      exact w_vret rfl dX7_letThingGo_78 ⟨hI64_, hF65_, trivial, (Or.inl ⟨hs5_, h4_, j9_, h10_, z7_, e8_, j13_, h14_, z11_, e12_, r15_, hs19_, h18_, (Or.inr ⟨hs24_, j53_, h54_, z51_, e52_, z55_, h56_, z57_, h59_, h58_, j62_, h63_, M60_, hM61_, rfl⟩)⟩)⟩
  · refine w_if_ne (tgt := 9) dX7_letThingGo_5 (by decide) li_0 (fun h9 => (absurd h9 (by decide))) (fun h66_ => ?_)
    exact w_vret rfl dX7_letThingGo_8 ⟨hIz, hFz, trivial, (Or.inr ⟨hs5_, rfl⟩)⟩
def S_c_X7_letThingsGo (b : Nat) : rf → Nat → Prop := fun c k => (c.1 = 35 ∧ c.2.1 = b) ∨ (c.1 = 37 ∧ c.2.1 = b) ∨ (c.1 = 38 ∧ c.2.1 = b) ∨ False
def ST_X7_letThingsGo_2 (b : Nat) (v : Int32) (Mz : mM) (v2_2 : Int32) (M_2 : mM) (v2_2y : Int32) (M_2y : mM) : Prop := (0 ≤ v2_2.toInt) ∧ (Inv M_2) ∧ (FR (S_c_X7_letThingsGo b) Mz M_2) ∧ ∃ z2_ : Int32, (z2_ = M_2.1 (7, b, 0) 5) ∧ (v2_2.toInt < z2_.toInt) ∧ (v2_2.toInt < 40) ∧ ∃ j8_ : Nat, ((j8_ : Int) = v2_2.toInt) ∧ ∃ z6_ : Int32, (z6_ = M_2.1 (39, b, 0) j8_) ∧ ∃ j12_ : Nat, ((j12_ : Int) = v2_2.toInt) ∧ ∃ z10_ : Int32, (z10_ = M_2.1 (37, b, 0) j12_) ∧ (((z10_.toInt < 0) ∧ ∃ z15_ : Int32, (z15_.toInt = v2_2.toInt + 1) ∧ v2_2y = z15_ ∧ M_2y = M_2) ∨ ((0 ≤ z10_.toInt) ∧ (((z6_.toInt ≤ 0) ∧ ∃ z18_ : Int32, (z18_.toInt = v2_2.toInt + 1) ∧ v2_2y = z18_ ∧ M_2y = M_2) ∨ ((0 < z6_.toInt) ∧ ∃ z20_ : Int32, (z20_ = v - v / z6_ * z6_) ∧ (((¬ z20_.toInt = 0) ∧ ∃ z23_ : Int32, (z23_.toInt = v2_2.toInt + 1) ∧ v2_2y = z23_ ∧ M_2y = M_2) ∨ ((z20_.toInt = 0) ∧ ∃ M25_ : mM, (Inv M25_) ∧ (FR (S_c_X7_letThingGo b) M_2 M25_) ∧ (SP_X7_letThingGo b v2_2 M_2 M25_) ∧ ∃ z32_ : Int32, (z32_.toInt = v2_2.toInt + 1) ∧ v2_2y = z32_ ∧ M_2y = M25_))))))
def SP_X7_letThingsGo (b : Nat) (v : Int32) (Mz : mM) (M_ : mM) : Prop := ∃ v2_2 : Int32, (0 ≤ v2_2.toInt) ∧ ∃ M_2 : mM, (RCH (fun x_ y_ => ST_X7_letThingsGo_2 b v Mz x_.1 x_.2 y_.1 y_.2) ((0 : Int32), Mz) (v2_2, M_2)) ∧ (Inv M_2) ∧ (FR (S_c_X7_letThingsGo b) Mz M_2) ∧ ∃ z2_ : Int32, (z2_ = M_2.1 (7, b, 0) 5) ∧ (((z2_.toInt ≤ v2_2.toInt) ∧ M_ = M_2) ∨ ((v2_2.toInt < z2_.toInt) ∧ (40 ≤ v2_2.toInt) ∧ M_ = M_2))
theorem lf_c_X7_letThingsGo_8 (M_2 : mM) (b : Nat) (v2_2 : Int32) (z2_ : Int32) (j8_ : Nat) (z6_ : Int32) (j12_ : Nat) (z10_ : Int32) (hb : b < 3) (hv0_2 : 0 ≤ v2_2.toInt) (e3_ : z2_ = M_2.1 (7, b, 0) 5) (h4_ : v2_2.toInt < z2_.toInt) (h5_ : v2_2.toInt < 40) (h9_ : (j8_ : Int) = v2_2.toInt) (e7_ : z6_ = M_2.1 (39, b, 0) j8_) (h13_ : (j12_ : Int) = v2_2.toInt) (e11_ : z10_ = M_2.1 (37, b, 0) j12_) (h14_ : 0 ≤ z10_.toInt) (h17_ : 0 < z6_.toInt) : ¬ z6_ = 0 := by have r_v2_2 := rngI v2_2; have r_z2_ := rngI z2_; have r_z6_ := rngI z6_; have r_z10_ := rngI z10_; intro h9; subst h9; simp at *; try omega
set_option maxHeartbeats 4000000 in
set_option maxRecDepth 100000 in
theorem c_X7_letThingsGo (l : Launch) (G : va_G) (cy : Nat → ClassId) (ad : rf → Nat) (d : Nat) (b : Nat) (v : Int32) (Mz : mM) (hIz : Inv Mz) (hb : b < 3) : WP CC l G cy ad yX7_letThingsGo cX7_letThingsGo 4 none (d + 3) 0 [(0, vR (7, b, 0)), (1, vI v)] [] Mz (fun r M' => Inv M' ∧ FR (S_c_X7_letThingsGo b) Mz M' ∧ (True) ∧ SP_X7_letThingsGo b v Mz M') := by
  have hFz : FR (S_c_X7_letThingsGo b) Mz Mz := FR.self
  refine w_iconst (v := 0) dX7_letThingsGo_0 (by decide) ?_
  refine w_istore_n (ls' := [(2, vI 0), (0, vR (7, b, 0)), (1, vI v)]) dX7_letThingsGo_1 rfl (by decide) rfl ?_
  have lp1_ : ∀ (nn_2 : Nat) (M_2 : mM) (hI_2 : Inv M_2) (hF_2 : FR (S_c_X7_letThingsGo b) Mz M_2) (v2_2 : Int32) (hv0_2 : 0 ≤ v2_2.toInt) (hL_2 : RCH (fun x_ y_ => ST_X7_letThingsGo_2 b v Mz x_.1 x_.2 y_.1 y_.2) ((0 : Int32), Mz) (v2_2, M_2)), (2147483648 - v2_2.toInt).toNat < nn_2 → WP CC l G cy ad yX7_letThingsGo cX7_letThingsGo 4 none (d + 3) 2 [(2, vI v2_2), (0, vR (7, b, 0)), (1, vI v)] [] M_2 (fun r M' => Inv M' ∧ FR (S_c_X7_letThingsGo b) Mz M' ∧ (True) ∧ SP_X7_letThingsGo b v Mz M') := by
    intro nn_2
    induction nn_2 with
    | zero => intro M_2 hI_2 hF_2 v2_2 hv0_2 hL_2 hm_2; exact absurd hm_2 (Nat.not_lt_zero _)
    | succ nn_2 ih_2 =>
      intro M_2 hI_2 hF_2 v2_2 hv0_2 hL_2 hm_2
      refine w_iload_n dX7_letThingsGo_2 rfl 0 rfl ?_
      refine w_aload_n dX7_letThingsGo_3 rfl 1 rfl ?_
      refine w_getI fl_RX7_25 rfl rfl (ic_7 hb) dX7_letThingsGo_4 (fun z2_ e3_ => ?_)
      refine w_icmp_ge (tgt := 53) dX7_letThingsGo_7 (by decide) (rfl : v2_2.toInt = v2_2.toInt) (rfl : z2_.toInt = z2_.toInt) (fun h4_ => ?_) (fun h4_ => ?_)
      · exact w_vret rfl dX7_letThingsGo_53 ⟨hI_2, hF_2, trivial, ⟨v2_2, hv0_2, M_2, hL_2, hI_2, hF_2, z2_, e3_, (Or.inl ⟨h4_, rfl⟩)⟩⟩
      · refine w_iload_n dX7_letThingsGo_10 rfl 0 rfl ?_
        refine w_bipush (v := 40) dX7_letThingsGo_11 (by decide) ?_
        refine w_icmp_ge (tgt := 53) dX7_letThingsGo_13 (by decide) (rfl : v2_2.toInt = v2_2.toInt) li_40 (fun h5_ => ?_) (fun h5_ => ?_)
        · exact w_vret rfl dX7_letThingsGo_53 ⟨hI_2, hF_2, trivial, ⟨v2_2, hv0_2, M_2, hL_2, hI_2, hF_2, z2_, e3_, (Or.inr ⟨h4_, h5_, rfl⟩)⟩⟩
        · refine w_aload_n dX7_letThingsGo_16 rfl 1 rfl ?_
          refine w_getR (c' := (39, b, 0)) fl_RX7_22 rfl rfl (ic_7 hb) dX7_letThingsGo_17 rfl ?_
          refine w_iload_n dX7_letThingsGo_20 rfl 0 rfl ?_
          refine w_iald rfl rfl (ic_39 hb) (rfl : v2_2.toInt = v2_2.toInt) (lf_c_X7_addThing_0 v2_2 hv0_2 h5_ ) dX7_letThingsGo_21 (fun j8_ h9_ z6_ e7_ => ?_)
          refine w_istore_n (ls' := [(3, vI z6_), (2, vI v2_2), (0, vR (7, b, 0)), (1, vI v)]) dX7_letThingsGo_22 rfl (by decide) rfl ?_
          refine w_aload_n dX7_letThingsGo_23 rfl 2 rfl ?_
          refine w_getR (c' := (37, b, 0)) fl_RX7_16 rfl rfl (ic_7 hb) dX7_letThingsGo_24 rfl ?_
          refine w_iload_n dX7_letThingsGo_27 rfl 1 rfl ?_
          refine w_iald rfl rfl (ic_37 hb) (rfl : v2_2.toInt = v2_2.toInt) (lf_c_X7_addThing_0 v2_2 hv0_2 h5_ ) dX7_letThingsGo_28 (fun j12_ h13_ z10_ e11_ => ?_)
          refine w_if_lt (tgt := 47) dX7_letThingsGo_29 (by decide) (rfl : z10_.toInt = z10_.toInt) (fun h14_ => ?_) (fun h14_ => ?_)
          · refine w_iincB (j := 1) (f := fun z15_ => [(2, vI z15_), (3, vI z6_), (0, vR (7, b, 0)), (1, vI v)]) dX7_letThingsGo_47 rfl (by decide) (fun _ => rfl) (rfl : v2_2.toInt = v2_2.toInt) li_1 (lf_c_X7_countThings_1 v2_2 hv0_2 h5_ ) (fun z15_ h16_ => ?_)
            refine w_goto (tgt := 2) dX7_letThingsGo_50 (by decide) ?_
            refine w_loc (ls' := [(2, vI z15_), (0, vR (7, b, 0)), (1, vI v)]) [0, 2, 3] rfl ?_
            exact ih_2 M_2 hI_2 hF_2 z15_ (lf_c_X5_takeFrom_3 v2_2 z15_ hv0_2 h16_ ) (RCH.tail hL_2 ⟨hv0_2, hI_2, hF_2, z2_, e3_, h4_, h5_, j8_, h9_, z6_, e7_, j12_, h13_, z10_, e11_, (Or.inl ⟨h14_, z15_, h16_, rfl, rfl⟩)⟩) (Nat.lt_of_lt_of_le (lf_c_X7_countThings_3 v2_2 z15_ h5_ h16_ ) (Nat.le_of_lt_succ hm_2))
          · refine w_iload_n dX7_letThingsGo_32 rfl 0 rfl ?_
            refine w_if_le (tgt := 47) dX7_letThingsGo_33 (by decide) (rfl : z6_.toInt = z6_.toInt) (fun h17_ => ?_) (fun h17_ => ?_)
            · refine w_iincB (j := 1) (f := fun z18_ => [(2, vI z18_), (3, vI z6_), (0, vR (7, b, 0)), (1, vI v)]) dX7_letThingsGo_47 rfl (by decide) (fun _ => rfl) (rfl : v2_2.toInt = v2_2.toInt) li_1 (lf_c_X7_countThings_1 v2_2 hv0_2 h5_ ) (fun z18_ h19_ => ?_)
              refine w_goto (tgt := 2) dX7_letThingsGo_50 (by decide) ?_
              refine w_loc (ls' := [(2, vI z18_), (0, vR (7, b, 0)), (1, vI v)]) [0, 2, 3] rfl ?_
              exact ih_2 M_2 hI_2 hF_2 z18_ (lf_c_X5_takeFrom_3 v2_2 z18_ hv0_2 h19_ ) (RCH.tail hL_2 ⟨hv0_2, hI_2, hF_2, z2_, e3_, h4_, h5_, j8_, h9_, z6_, e7_, j12_, h13_, z10_, e11_, (Or.inr ⟨h14_, (Or.inl ⟨h17_, z18_, h19_, rfl, rfl⟩)⟩)⟩) (Nat.lt_of_lt_of_le (lf_c_X7_countThings_3 v2_2 z18_ h5_ h19_ ) (Nat.le_of_lt_succ hm_2))
            · refine w_iload_n dX7_letThingsGo_36 rfl 3 rfl ?_
              refine w_iload_n dX7_letThingsGo_37 rfl 0 rfl ?_
              refine w_irem dX7_letThingsGo_38 (lf_c_X7_letThingsGo_8 M_2 b v2_2 z2_ j8_ z6_ j12_ z10_ hb hv0_2 e3_ h4_ h5_ h9_ e7_ h13_ e11_ h14_ h17_ ) (fun z20_ h21_ => ?_)
              refine w_if_ne (tgt := 47) dX7_letThingsGo_39 (by decide) (rfl : z20_.toInt = z20_.toInt) (fun h22_ => ?_) (fun h22_ => ?_)
              · refine w_iincB (j := 1) (f := fun z23_ => [(2, vI z23_), (3, vI z6_), (0, vR (7, b, 0)), (1, vI v)]) dX7_letThingsGo_47 rfl (by decide) (fun _ => rfl) (rfl : v2_2.toInt = v2_2.toInt) li_1 (lf_c_X7_countThings_1 v2_2 hv0_2 h5_ ) (fun z23_ h24_ => ?_)
                refine w_goto (tgt := 2) dX7_letThingsGo_50 (by decide) ?_
                refine w_loc (ls' := [(2, vI z23_), (0, vR (7, b, 0)), (1, vI v)]) [0, 2, 3] rfl ?_
                exact ih_2 M_2 hI_2 hF_2 z23_ (lf_c_X5_takeFrom_3 v2_2 z23_ hv0_2 h24_ ) (RCH.tail hL_2 ⟨hv0_2, hI_2, hF_2, z2_, e3_, h4_, h5_, j8_, h9_, z6_, e7_, j12_, h13_, z10_, e11_, (Or.inr ⟨h14_, (Or.inr ⟨h17_, z20_, h21_, (Or.inl ⟨h22_, z23_, h24_, rfl, rfl⟩)⟩)⟩)⟩) (Nat.lt_of_lt_of_le (lf_c_X7_countThings_3 v2_2 z23_ h5_ h24_ ) (Nat.le_of_lt_succ hm_2))
              · refine w_aload_n dX7_letThingsGo_42 rfl 2 rfl ?_
                refine w_iload_n dX7_letThingsGo_43 rfl 1 rfl ?_
                refine w_callVv (as := [vI v2_2]) (rest := []) (c_X7_letThingGo l G cy ad d b v2_2 M_2 hI_2 hb) kV_X7_letThingGo pnn_1 (Nat.le_of_ble_eq_true rfl) m_1033 rfl rfl rfl (ic_7 hb) rfl rfl (by decide) (Nat.le_of_ble_eq_true rfl) dX7_letThingsGo_44 (fun M25_ q26_ => ?_)
                obtain ⟨hI28_, hF29_, h27_, hs31_⟩ := q26_
                have hF30_ := hF_2.tr hF29_ (fun c k => (fun h => h.elim (fun h => (Or.inl ⟨h.1, h.2⟩)) (fun h => h.elim (fun h => (Or.inr (Or.inl ⟨h.1, h.2⟩))) (fun h => h.elim (fun h => (Or.inr (Or.inr (Or.inl ⟨h.1, h.2⟩)))) (fun h => h.elim)))))
                refine w_iincB (j := 1) (f := fun z32_ => [(2, vI z32_), (3, vI z6_), (0, vR (7, b, 0)), (1, vI v)]) dX7_letThingsGo_47 rfl (by decide) (fun _ => rfl) (rfl : v2_2.toInt = v2_2.toInt) li_1 (lf_c_X7_countThings_1 v2_2 hv0_2 h5_ ) (fun z32_ h33_ => ?_)
                refine w_goto (tgt := 2) dX7_letThingsGo_50 (by decide) ?_
                refine w_loc (ls' := [(2, vI z32_), (0, vR (7, b, 0)), (1, vI v)]) [0, 2, 3] rfl ?_
                exact ih_2 M25_ hI28_ hF30_ z32_ (lf_c_X5_takeFrom_3 v2_2 z32_ hv0_2 h33_ ) (RCH.tail hL_2 ⟨hv0_2, hI_2, hF_2, z2_, e3_, h4_, h5_, j8_, h9_, z6_, e7_, j12_, h13_, z10_, e11_, (Or.inr ⟨h14_, (Or.inr ⟨h17_, z20_, h21_, (Or.inr ⟨h22_, M25_, hI28_, hF29_, hs31_, z32_, h33_, rfl, rfl⟩)⟩)⟩)⟩) (Nat.lt_of_lt_of_le (lf_c_X7_countThings_3 v2_2 z32_ h5_ h33_ ) (Nat.le_of_lt_succ hm_2))
  exact lp1_ _ Mz hIz hFz 0 (lf_c_X5_takeFrom_5 ) RCH.refl (Nat.lt_succ_self _)
def S_c_X7_takeFrom (b : Nat) (b2 : Nat) : rf → Nat → Prop := fun c k => (c.1 = 35 ∧ c.2.1 = b) ∨ (c.1 = 36 ∧ c.2.1 = b) ∨ (c.1 = 37 ∧ c.2.1 = b) ∨ (c.1 = 38 ∧ c.2.1 = b) ∨ (c.1 = 39 ∧ c.2.1 = b) ∨ (c.1 = 7 ∧ c.2.1 = b ∧ k = 5) ∨ False
def SP_X7_takeFrom (b : Nat) (b2 : Nat) (Mz : mM) (M_ : mM) : Prop := ∃ M1_ : mM, (M1_ = cp Mz (35, b2, 0) (35, b, 0) (0 : Int32).toNatClampNeg (0 : Int32).toNatClampNeg (192 : Int32).toNatClampNeg) ∧ ∃ M5_ : mM, (M5_ = cp M1_ (36, b2, 0) (36, b, 0) (0 : Int32).toNatClampNeg (0 : Int32).toNatClampNeg (40 : Int32).toNatClampNeg) ∧ ∃ M9_ : mM, (M9_ = cp M5_ (37, b2, 0) (37, b, 0) (0 : Int32).toNatClampNeg (0 : Int32).toNatClampNeg (40 : Int32).toNatClampNeg) ∧ ∃ M13_ : mM, (M13_ = cp M9_ (38, b2, 0) (38, b, 0) (0 : Int32).toNatClampNeg (0 : Int32).toNatClampNeg (40 : Int32).toNatClampNeg) ∧ ∃ M17_ : mM, (M17_ = cp M13_ (39, b2, 0) (39, b, 0) (0 : Int32).toNatClampNeg (0 : Int32).toNatClampNeg (40 : Int32).toNatClampNeg) ∧ ∃ z21_ : Int32, (z21_ = M17_.1 (7, b2, 0) 5) ∧ ∃ M23_ : mM, (M23_ = up M17_ (7, b, 0) 5 z21_) ∧ M_ = M23_
set_option maxHeartbeats 4000000 in
set_option maxRecDepth 100000 in
theorem c_X7_takeFrom (l : Launch) (G : va_G) (cy : Nat → ClassId) (ad : rf → Nat) (d : Nat) (b : Nat) (b2 : Nat) (Mz : mM) (hIz : Inv Mz) (hb : b < 3) (hb2 : b2 < 3) : WP CC l G cy ad yX7_takeFrom cX7_takeFrom 2 none (d + 1) 0 [(0, vR (7, b, 0)), (1, vR (7, b2, 0))] [] Mz (fun r M' => Inv M' ∧ FR (S_c_X7_takeFrom b b2) Mz M' ∧ (True) ∧ SP_X7_takeFrom b b2 Mz M') := by
  have hFz : FR (S_c_X7_takeFrom b b2) Mz Mz := FR.self
  refine w_aload_n dX7_takeFrom_0 rfl 1 rfl ?_
  refine w_getR (c' := (35, b2, 0)) fl_RX7_9 rfl rfl (ic_7 hb2) dX7_takeFrom_1 rfl ?_
  refine w_iconst (v := 0) dX7_takeFrom_4 (by decide) ?_
  refine w_aload_n dX7_takeFrom_5 rfl 0 rfl ?_
  refine w_getR (c' := (35, b, 0)) fl_RX7_9 rfl rfl (ic_7 hb) dX7_takeFrom_6 rfl ?_
  refine w_iconst (v := 0) dX7_takeFrom_9 (by decide) ?_
  refine w_sipush (v := 192) dX7_takeFrom_10 (by decide) ?_
  refine w_copy CC_nd rfl rfl (ic_35 hb2) rfl rfl (ic_35 hb) m_1262 m_830 m_829 m_98 li_0 li_0 li_192 (by decide) rfl (by omega) dX7_takeFrom_13 (fun M1_ hM2_ => ?_)
  have hI3_ := hIz.cpy hM2_ (fun _ _ => trivial)
  have hF4_ := hFz.cpy hM2_ (fun _ => (Or.inl ⟨rfl, rfl⟩))
  refine w_aload_n dX7_takeFrom_16 rfl 1 rfl ?_
  refine w_getR (c' := (36, b2, 0)) fl_RX7_13 rfl rfl (ic_7 hb2) dX7_takeFrom_17 rfl ?_
  refine w_iconst (v := 0) dX7_takeFrom_20 (by decide) ?_
  refine w_aload_n dX7_takeFrom_21 rfl 0 rfl ?_
  refine w_getR (c' := (36, b, 0)) fl_RX7_13 rfl rfl (ic_7 hb) dX7_takeFrom_22 rfl ?_
  refine w_iconst (v := 0) dX7_takeFrom_25 (by decide) ?_
  refine w_bipush (v := 40) dX7_takeFrom_26 (by decide) ?_
  refine w_copy CC_nd rfl rfl (ic_36 hb2) rfl rfl (ic_36 hb) m_1262 m_830 m_829 m_98 li_0 li_0 li_40 (by decide) rfl (by omega) dX7_takeFrom_28 (fun M5_ hM6_ => ?_)
  have hI7_ := hI3_.cpy hM6_ (fun _ _ => trivial)
  have hF8_ := hF4_.cpy hM6_ (fun _ => (Or.inr (Or.inl ⟨rfl, rfl⟩)))
  refine w_aload_n dX7_takeFrom_31 rfl 1 rfl ?_
  refine w_getR (c' := (37, b2, 0)) fl_RX7_16 rfl rfl (ic_7 hb2) dX7_takeFrom_32 rfl ?_
  refine w_iconst (v := 0) dX7_takeFrom_35 (by decide) ?_
  refine w_aload_n dX7_takeFrom_36 rfl 0 rfl ?_
  refine w_getR (c' := (37, b, 0)) fl_RX7_16 rfl rfl (ic_7 hb) dX7_takeFrom_37 rfl ?_
  refine w_iconst (v := 0) dX7_takeFrom_40 (by decide) ?_
  refine w_bipush (v := 40) dX7_takeFrom_41 (by decide) ?_
  refine w_copy CC_nd rfl rfl (ic_37 hb2) rfl rfl (ic_37 hb) m_1262 m_830 m_829 m_98 li_0 li_0 li_40 (by decide) rfl (by omega) dX7_takeFrom_43 (fun M9_ hM10_ => ?_)
  have hI11_ := hI7_.cpy hM10_ (fun _ _ => trivial)
  have hF12_ := hF8_.cpy hM10_ (fun _ => (Or.inr (Or.inr (Or.inl ⟨rfl, rfl⟩))))
  refine w_aload_n dX7_takeFrom_46 rfl 1 rfl ?_
  refine w_getR (c' := (38, b2, 0)) fl_RX7_19 rfl rfl (ic_7 hb2) dX7_takeFrom_47 rfl ?_
  refine w_iconst (v := 0) dX7_takeFrom_50 (by decide) ?_
  refine w_aload_n dX7_takeFrom_51 rfl 0 rfl ?_
  refine w_getR (c' := (38, b, 0)) fl_RX7_19 rfl rfl (ic_7 hb) dX7_takeFrom_52 rfl ?_
  refine w_iconst (v := 0) dX7_takeFrom_55 (by decide) ?_
  refine w_bipush (v := 40) dX7_takeFrom_56 (by decide) ?_
  refine w_copy CC_nd rfl rfl (ic_38 hb2) rfl rfl (ic_38 hb) m_1262 m_830 m_829 m_98 li_0 li_0 li_40 (by decide) rfl (by omega) dX7_takeFrom_58 (fun M13_ hM14_ => ?_)
  have hI15_ := hI11_.cpy hM14_ (fun _ _ => trivial)
  have hF16_ := hF12_.cpy hM14_ (fun _ => (Or.inr (Or.inr (Or.inr (Or.inl ⟨rfl, rfl⟩)))))
  refine w_aload_n dX7_takeFrom_61 rfl 1 rfl ?_
  refine w_getR (c' := (39, b2, 0)) fl_RX7_22 rfl rfl (ic_7 hb2) dX7_takeFrom_62 rfl ?_
  refine w_iconst (v := 0) dX7_takeFrom_65 (by decide) ?_
  refine w_aload_n dX7_takeFrom_66 rfl 0 rfl ?_
  refine w_getR (c' := (39, b, 0)) fl_RX7_22 rfl rfl (ic_7 hb) dX7_takeFrom_67 rfl ?_
  refine w_iconst (v := 0) dX7_takeFrom_70 (by decide) ?_
  refine w_bipush (v := 40) dX7_takeFrom_71 (by decide) ?_
  refine w_copy CC_nd rfl rfl (ic_39 hb2) rfl rfl (ic_39 hb) m_1262 m_830 m_829 m_98 li_0 li_0 li_40 (by decide) rfl (by omega) dX7_takeFrom_73 (fun M17_ hM18_ => ?_)
  have hI19_ := hI15_.cpy hM18_ (fun _ _ => trivial)
  have hF20_ := hF16_.cpy hM18_ (fun _ => (Or.inr (Or.inr (Or.inr (Or.inr (Or.inl ⟨rfl, rfl⟩))))))
  refine w_aload_n dX7_takeFrom_76 rfl 0 rfl ?_
  refine w_aload_n dX7_takeFrom_77 rfl 1 rfl ?_
  refine w_getI fl_RX7_25 rfl rfl (ic_7 hb2) dX7_takeFrom_78 (fun z21_ e22_ => ?_)
  refine w_putI CC_nd fl_RX7_25 rfl rfl (ic_7 hb) dX7_takeFrom_81 (fun M23_ hM24_ => ?_)
  have hI25_ := hI19_.put hM24_ trivial
  have hF26_ := hF20_.put hM24_ (Or.inr (Or.inr (Or.inr (Or.inr (Or.inr (Or.inl ⟨rfl, rfl, rfl⟩))))))
  exact w_vret rfl dX7_takeFrom_84 ⟨hI25_, hF26_, trivial, ⟨M1_, hM2_, M5_, hM6_, M9_, hM10_, M13_, hM14_, M17_, hM18_, z21_, e22_, M23_, hM24_, rfl⟩⟩
end
section
/-! words of the tables that are used, by their places; decode rows; fields -/
theorem li_9 : (9 : Int32).toInt = 9 := by decide
theorem li_15 : (15 : Int32).toInt = 15 := by decide
theorem li_24 : (24 : Int32).toInt = 24 := by decide
theorem li_99 : (99 : Int32).toInt = 99 := by decide
set_option maxRecDepth 20000 in
theorem m_87 : Cond.initialized RX9 ∈ BASE := bmT1 9 rfl rfl
set_option maxRecDepth 20000 in
theorem m_91 : Cond.initialized RX6 ∈ BASE := bmT1 13 rfl rfl
set_option maxRecDepth 20000 in
theorem m_206 : Cond.static Lib.Math.max.name ∈ BASE := bmT1 128 rfl rfl
set_option maxRecDepth 20000 in
theorem m_207 : Cond.code Lib.Math.max.name Lib.Math.max.code 2 (some .int) ∈ BASE := bmT1 129 rfl rfl
set_option maxRecDepth 20000 in
theorem m_258 : Cond.fieldLink RX9 7 "ClickStreet$Walker" "kind" "I" ∈ BASE := bmT1 180 rfl rfl
set_option maxRecDepth 20000 in
theorem m_260 : Cond.fieldLink RX9 13 "ClickStreet$Walker" "cell" "I" ∈ BASE := bmT1 182 rfl rfl
set_option maxRecDepth 20000 in
theorem m_264 : Cond.fieldLink RX9 16 "ClickStreet$Walker" "side" "I" ∈ BASE := bmT1 186 rfl rfl
set_option maxRecDepth 20000 in
theorem m_267 : Cond.fieldLink RX9 19 "ClickStreet$Walker" "pitch" "I" ∈ BASE := bmT1 189 rfl rfl
set_option maxRecDepth 20000 in
theorem m_270 : Cond.fieldLink RX9 22 "ClickStreet$Walker" "loudness" "I" ∈ BASE := bmT1 192 rfl rfl
set_option maxRecDepth 20000 in
theorem m_272 : Cond.fieldLink RX9 25 "ClickStreet$Walker" "every" "I" ∈ BASE := bmT1 194 rfl rfl
set_option maxRecDepth 20000 in
theorem m_275 : Cond.fieldLink RX9 28 "ClickStreet$Walker" "isGoing" "Z" ∈ BASE := bmT1 197 rfl rfl
set_option maxRecDepth 20000 in
theorem m_278 : Cond.fieldLink RX9 32 "ClickStreet$Walker" "bumps" "I" ∈ BASE := bmT1 200 rfl rfl
set_option maxRecDepth 20000 in
theorem m_280 : Cond.fieldLink RX9 35 "ClickStreet$Walker" "clicks" "I" ∈ BASE := bmT1 202 rfl rfl
set_option maxRecDepth 20000 in
theorem m_282 : Cond.fieldLink RX9 40 "ClickStreet$Walker" "yes" "[I" ∈ BASE := bmT1 204 rfl rfl
set_option maxRecDepth 20000 in
theorem m_284 : Cond.fieldLink RX9 44 "ClickStreet$Walker" "no" "[I" ∈ BASE := bmT1 206 rfl rfl
set_option maxRecDepth 20000 in
theorem m_445 : Cond.fieldLink RX6 7 "ClickStreet$Sheet" "bits" "I" ∈ BASE := bmT2 127 rfl rfl
set_option maxRecDepth 20000 in
theorem m_447 : Cond.fieldLink RX6 13 "ClickStreet$Sheet" "size" "I" ∈ BASE := bmT2 129 rfl rfl
set_option maxRecDepth 20000 in
theorem m_450 : Cond.fieldLink RX6 16 "ClickStreet$Sheet" "numbers" "[I" ∈ BASE := bmT2 132 rfl rfl
set_option maxRecDepth 20000 in
theorem m_574 : Cond.instanceMethod yX6_numberAt ∈ BASE := bmT3 16 rfl rfl
set_option maxRecDepth 20000 in
theorem m_575 : Cond.selects yX6_numberAt.cls yX6_numberAt yX6_numberAt ∈ BASE := bmT3 17 rfl rfl
set_option maxRecDepth 20000 in
theorem m_576 : Cond.code yX6_numberAt cX6_numberAt 2 (some .int) ∈ BASE := bmT3 18 rfl rfl
set_option maxRecDepth 20000 in
theorem m_577 : Cond.methodLink RX6 29 yX6_has ∈ BASE := bmT3 19 rfl rfl
set_option maxRecDepth 20000 in
theorem m_578 : Cond.instanceMethod yX6_has ∈ BASE := bmT3 20 rfl rfl
set_option maxRecDepth 20000 in
theorem m_579 : Cond.selects yX6_has.cls yX6_has yX6_has ∈ BASE := bmT3 21 rfl rfl
set_option maxRecDepth 20000 in
theorem m_580 : Cond.code yX6_has cX6_has 2 (some .boolean) ∈ BASE := bmT3 22 rfl rfl
set_option maxRecDepth 20000 in
theorem m_617 : Cond.methodLink RX9 63 yX9_reach ∈ BASE := bmT3 59 rfl rfl
set_option maxRecDepth 20000 in
theorem m_618 : Cond.instanceMethod yX9_reach ∈ BASE := bmT3 60 rfl rfl
set_option maxRecDepth 20000 in
theorem m_619 : Cond.selects yX9_reach.cls yX9_reach yX9_reach ∈ BASE := bmT3 61 rfl rfl
set_option maxRecDepth 20000 in
theorem m_620 : Cond.code yX9_reach cX9_reach 1 (some .int) ∈ BASE := bmT3 62 rfl rfl
set_option maxRecDepth 20000 in
theorem m_621 : Cond.fieldLink RX9 54 "ClickStreet$Walker" "REACHES" "[I" ∈ BASE := bmT3 63 rfl rfl
set_option maxRecDepth 20000 in
theorem m_623 : Cond.methodLink RX9 67 yX9_speed ∈ BASE := bmT3 65 rfl rfl
set_option maxRecDepth 20000 in
theorem m_624 : Cond.instanceMethod yX9_speed ∈ BASE := bmT3 66 rfl rfl
set_option maxRecDepth 20000 in
theorem m_625 : Cond.selects yX9_speed.cls yX9_speed yX9_speed ∈ BASE := bmT3 67 rfl rfl
set_option maxRecDepth 20000 in
theorem m_626 : Cond.code yX9_speed cX9_speed 1 (some .int) ∈ BASE := bmT3 68 rfl rfl
set_option maxRecDepth 20000 in
theorem m_627 : Cond.fieldLink RX9 57 "ClickStreet$Walker" "SPEEDS" "[I" ∈ BASE := bmT3 69 rfl rfl
set_option maxRecDepth 20000 in
theorem m_629 : Cond.methodLink RX9 70 yX9_ears ∈ BASE := bmT3 71 rfl rfl
set_option maxRecDepth 20000 in
theorem m_630 : Cond.instanceMethod yX9_ears ∈ BASE := bmT3 72 rfl rfl
set_option maxRecDepth 20000 in
theorem m_631 : Cond.selects yX9_ears.cls yX9_ears yX9_ears ∈ BASE := bmT3 73 rfl rfl
set_option maxRecDepth 20000 in
theorem m_632 : Cond.code yX9_ears cX9_ears 1 (some .int) ∈ BASE := bmT3 74 rfl rfl
set_option maxRecDepth 20000 in
theorem m_633 : Cond.fieldLink RX9 60 "ClickStreet$Walker" "HEARS_TO" "[I" ∈ BASE := bmT3 75 rfl rfl
set_option maxRecDepth 20000 in
theorem m_643 : Cond.methodLink RX9 50 yX9_kindAbove ∈ BASE := bmT3 85 rfl rfl
set_option maxRecDepth 20000 in
theorem m_644 : Cond.static yX9_kindAbove ∈ BASE := bmT3 86 rfl rfl
set_option maxRecDepth 20000 in
theorem m_645 : Cond.code yX9_kindAbove cX9_kindAbove 1 (some .int) ∈ BASE := bmT3 87 rfl rfl
set_option maxRecDepth 20000 in
theorem m_919 : Cond.methodLink RX9 73 yX7_isCell ∈ BASE := bmT4 121 rfl rfl
set_option maxRecDepth 20000 in
theorem m_920 : Cond.methodLink RX9 77 Lib.Math.min.name ∈ BASE := bmT4 122 rfl rfl
set_option maxRecDepth 20000 in
theorem m_930 : Cond.instanceMethod yX9_held ∈ BASE := bmT4 132 rfl rfl
set_option maxRecDepth 20000 in
theorem m_931 : Cond.selects yX9_held.cls yX9_held yX9_held ∈ BASE := bmT4 133 rfl rfl
set_option maxRecDepth 20000 in
theorem m_932 : Cond.code yX9_held cX9_held 2 (some .int) ∈ BASE := bmT4 134 rfl rfl
set_option maxRecDepth 20000 in
theorem m_946 : Cond.methodLink RX9 83 yX9_held ∈ BASE := bmT4 148 rfl rfl
set_option maxRecDepth 20000 in
theorem m_982 : Cond.methodLink RX6 33 yX6_numberAt ∈ BASE := bmT4 184 rfl rfl
set_option maxRecDepth 20000 in
theorem m_983 : Cond.methodLink RX6 37 yX7_isCell ∈ BASE := bmT4 185 rfl rfl
set_option maxRecDepth 20000 in
theorem m_1049 : Cond.methodLink RX9 86 yX7_cellFrom ∈ BASE := bmT5 11 rfl rfl
set_option maxRecDepth 20000 in
theorem m_1230 : Cond.methodLink RX6 20 Lib.Math.min.name ∈ BASE := bmT5 192 rfl rfl
set_option maxRecDepth 20000 in
theorem m_1231 : Cond.methodLink RX6 26 Lib.Math.max.name ∈ BASE := bmT5 193 rfl rfl
set_option maxRecDepth 20000 in
theorem m_1279 : Cond.methodLink RX9 90 arraycopyName ∈ BASE := bmT6 1 rfl rfl
theorem kS_X9_kindAbove : KS yX9_kindAbove cX9_kindAbove 1 (some .int) 1 := ⟨m_644, m_87, m_645, nhM_3, nhV_3, pdn_2⟩
theorem kV_X6_has : KV yX6_has cX6_has 2 (some .boolean) 1 := ⟨m_578, m_579, m_91, m_580, nhM_4, nhV_4, pdn_1⟩
theorem kV_X6_numberAt : KV yX6_numberAt cX6_numberAt 2 (some .int) 1 := ⟨m_574, m_575, m_91, m_576, nhM_4, nhV_4, pdn_2⟩
theorem kV_X9_ears : KV yX9_ears cX9_ears 1 (some .int) 0 := ⟨m_630, m_631, m_87, m_632, nhM_3, nhV_3, pdn_6⟩
theorem kV_X9_held : KV yX9_held cX9_held 2 (some .int) 1 := ⟨m_930, m_931, m_87, m_932, nhM_3, nhV_3, pdn_2⟩
theorem kV_X9_reach : KV yX9_reach cX9_reach 1 (some .int) 0 := ⟨m_618, m_619, m_87, m_620, nhM_3, nhV_3, pdn_6⟩
theorem kV_X9_speed : KV yX9_speed cX9_speed 1 (some .int) 0 := ⟨m_624, m_625, m_87, m_626, nhM_3, nhV_3, pdn_6⟩
theorem stb_0 : ∀ j, j < 8 → 0 ≤ (([3, 12, 1, 6, 0, 6, 5, 10] : List Int32).getD j 0).toInt ∧ (([3, 12, 1, 6, 0, 6, 5, 10] : List Int32).getD j 0).toInt ≤ 12 := by decide +kernel
theorem stb_1 : ∀ j, j < 8 → 1 ≤ (([1, 1, 1, 1, 1, 1, 1, 2] : List Int32).getD j 0).toInt ∧ (([1, 1, 1, 1, 1, 1, 1, 2] : List Int32).getD j 0).toInt ≤ 2 := by decide +kernel
theorem stb_2 : ∀ j, j < 8 → 5 ≤ (([9, 9, 9, 9, 9, 9, 5, 9] : List Int32).getD j 0).toInt ∧ (([9, 9, 9, 9, 9, 9, 5, 9] : List Int32).getD j 0).toInt ≤ 9 := by decide +kernel
theorem inB6 : ∀ w ∈ u_ws RX6 TX6 3, w ∈ BASE := bmems (u_ws RX6 TX6 3) [452, 454, 456] (by decide +kernel) (by decide +kernel)
theorem inB9 : ∀ w ∈ u_ws RX9 TX9 11, w ∈ BASE := bmems (u_ws RX9 TX9 11) [286, 288, 290, 292, 294, 296, 298, 300, 302, 304, 306] (by decide +kernel) (by decide +kernel)
theorem fl_RX6_13 : FLK RX6 13 6 1 .int false := ⟨RX6, TX6, 3, tyX6, rfl, inB6, tyX6_ok, nmX6, by decide, rfl, rfl, Or.inl m_447⟩
theorem fl_RX6_16 : FLK RX6 16 6 2 (.array .int) true := ⟨RX6, TX6, 3, tyX6, rfl, inB6, tyX6_ok, nmX6, by decide, rfl, rfl, Or.inl m_450⟩
theorem fl_RX6_7 : FLK RX6 7 6 0 .int false := ⟨RX6, TX6, 3, tyX6, rfl, inB6, tyX6_ok, nmX6, by decide, rfl, rfl, Or.inl m_445⟩
theorem fl_RX9_13 : FLK RX9 13 9 1 .int false := ⟨RX9, TX9, 11, tyX9, rfl, inB9, tyX9_ok, nmX9, by decide, rfl, rfl, Or.inl m_260⟩
theorem fl_RX9_16 : FLK RX9 16 9 2 .int false := ⟨RX9, TX9, 11, tyX9, rfl, inB9, tyX9_ok, nmX9, by decide, rfl, rfl, Or.inl m_264⟩
theorem fl_RX9_19 : FLK RX9 19 9 3 .int false := ⟨RX9, TX9, 11, tyX9, rfl, inB9, tyX9_ok, nmX9, by decide, rfl, rfl, Or.inl m_267⟩
theorem fl_RX9_22 : FLK RX9 22 9 4 .int false := ⟨RX9, TX9, 11, tyX9, rfl, inB9, tyX9_ok, nmX9, by decide, rfl, rfl, Or.inl m_270⟩
theorem fl_RX9_25 : FLK RX9 25 9 5 .int false := ⟨RX9, TX9, 11, tyX9, rfl, inB9, tyX9_ok, nmX9, by decide, rfl, rfl, Or.inl m_272⟩
theorem fl_RX9_28 : FLK RX9 28 9 6 .boolean false := ⟨RX9, TX9, 11, tyX9, rfl, inB9, tyX9_ok, nmX9, by decide, rfl, rfl, Or.inl m_275⟩
theorem fl_RX9_32 : FLK RX9 32 9 7 .int false := ⟨RX9, TX9, 11, tyX9, rfl, inB9, tyX9_ok, nmX9, by decide, rfl, rfl, Or.inl m_278⟩
theorem fl_RX9_35 : FLK RX9 35 9 8 .int false := ⟨RX9, TX9, 11, tyX9, rfl, inB9, tyX9_ok, nmX9, by decide, rfl, rfl, Or.inl m_280⟩
theorem fl_RX9_40 : FLK RX9 40 9 9 (.array .int) true := ⟨RX9, TX9, 11, tyX9, rfl, inB9, tyX9_ok, nmX9, by decide, rfl, rfl, Or.inl m_282⟩
theorem fl_RX9_44 : FLK RX9 44 9 10 (.array .int) true := ⟨RX9, TX9, 11, tyX9, rfl, inB9, tyX9_ok, nmX9, by decide, rfl, rfl, Or.inl m_284⟩
theorem fl_RX9_7 : FLK RX9 7 9 0 .int false := ⟨RX9, TX9, 11, tyX9, rfl, inB9, tyX9_ok, nmX9, by decide, rfl, rfl, Or.inl m_258⟩
theorem ch_cX6_begin_0 : (cX6_begin.data.toList.drop 0).take 36 = [42, 27, 181, 0, 7, 42, 3, 16, 24, 28, 184, 0, 20, 184, 0, 26, 181, 0, 13, 3, 62, 29, 16, 24, 162, 0, 16, 42, 180, 0, 16, 29, 3, 79, 132, 3] := by decide +kernel
theorem dX6_begin_0 : decode cX6_begin 0 = .ok (.aload_n 0, 1) := do_42 (rdb (p := 0) (i := 0) ch_cX6_begin_0 rfl)
theorem dX6_begin_1 : decode cX6_begin 1 = .ok (.iload_n 1, 1) := do_27 (rdb (p := 0) (i := 1) ch_cX6_begin_0 rfl)
theorem dX6_begin_2 : decode cX6_begin 2 = .ok (.putfield 7, 3) := do_181 (rdb (p := 0) (i := 2) ch_cX6_begin_0 rfl) (rdb (p := 0) (i := 3) ch_cX6_begin_0 rfl) (rdb (p := 0) (i := 4) ch_cX6_begin_0 rfl) rfl
theorem dX6_begin_5 : decode cX6_begin 5 = .ok (.aload_n 0, 1) := do_42 (rdb (p := 0) (i := 5) ch_cX6_begin_0 rfl)
theorem dX6_begin_6 : decode cX6_begin 6 = .ok (.iconst 0, 1) := do_3 (rdb (p := 0) (i := 6) ch_cX6_begin_0 rfl)
theorem dX6_begin_7 : decode cX6_begin 7 = .ok (.bipush 24, 2) := do_16 (rdb (p := 0) (i := 7) ch_cX6_begin_0 rfl) (rdb (p := 0) (i := 8) ch_cX6_begin_0 rfl) (by decide +kernel)
theorem dX6_begin_9 : decode cX6_begin 9 = .ok (.iload_n 2, 1) := do_28 (rdb (p := 0) (i := 9) ch_cX6_begin_0 rfl)
theorem dX6_begin_10 : decode cX6_begin 10 = .ok (.invokestatic 20, 3) := do_184 (rdb (p := 0) (i := 10) ch_cX6_begin_0 rfl) (rdb (p := 0) (i := 11) ch_cX6_begin_0 rfl) (rdb (p := 0) (i := 12) ch_cX6_begin_0 rfl) rfl
theorem dX6_begin_13 : decode cX6_begin 13 = .ok (.invokestatic 26, 3) := do_184 (rdb (p := 0) (i := 13) ch_cX6_begin_0 rfl) (rdb (p := 0) (i := 14) ch_cX6_begin_0 rfl) (rdb (p := 0) (i := 15) ch_cX6_begin_0 rfl) rfl
theorem dX6_begin_16 : decode cX6_begin 16 = .ok (.putfield 13, 3) := do_181 (rdb (p := 0) (i := 16) ch_cX6_begin_0 rfl) (rdb (p := 0) (i := 17) ch_cX6_begin_0 rfl) (rdb (p := 0) (i := 18) ch_cX6_begin_0 rfl) rfl
theorem dX6_begin_19 : decode cX6_begin 19 = .ok (.iconst 0, 1) := do_3 (rdb (p := 0) (i := 19) ch_cX6_begin_0 rfl)
theorem dX6_begin_20 : decode cX6_begin 20 = .ok (.istore_n 3, 1) := do_62 (rdb (p := 0) (i := 20) ch_cX6_begin_0 rfl)
theorem dX6_begin_21 : decode cX6_begin 21 = .ok (.iload_n 3, 1) := do_29 (rdb (p := 0) (i := 21) ch_cX6_begin_0 rfl)
theorem dX6_begin_22 : decode cX6_begin 22 = .ok (.bipush 24, 2) := do_16 (rdb (p := 0) (i := 22) ch_cX6_begin_0 rfl) (rdb (p := 0) (i := 23) ch_cX6_begin_0 rfl) (by decide +kernel)
theorem dX6_begin_24 : decode cX6_begin 24 = .ok (.if_icmp .ge 16, 3) := do_162 (rdb (p := 0) (i := 24) ch_cX6_begin_0 rfl) (rdb (p := 0) (i := 25) ch_cX6_begin_0 rfl) (rdb (p := 0) (i := 26) ch_cX6_begin_0 rfl) (by decide +kernel)
theorem dX6_begin_27 : decode cX6_begin 27 = .ok (.aload_n 0, 1) := do_42 (rdb (p := 0) (i := 27) ch_cX6_begin_0 rfl)
theorem dX6_begin_28 : decode cX6_begin 28 = .ok (.getfield 16, 3) := do_180 (rdb (p := 0) (i := 28) ch_cX6_begin_0 rfl) (rdb (p := 0) (i := 29) ch_cX6_begin_0 rfl) (rdb (p := 0) (i := 30) ch_cX6_begin_0 rfl) rfl
theorem dX6_begin_31 : decode cX6_begin 31 = .ok (.iload_n 3, 1) := do_29 (rdb (p := 0) (i := 31) ch_cX6_begin_0 rfl)
theorem ch_cX6_begin_32 : (cX6_begin.data.toList.drop 32).take 36 = [3, 79, 132, 3, 1, 167, 255, 240, 177] := by decide +kernel
theorem dX6_begin_32 : decode cX6_begin 32 = .ok (.iconst 0, 1) := do_3 (rdb (p := 32) (i := 0) ch_cX6_begin_32 rfl)
theorem dX6_begin_33 : decode cX6_begin 33 = .ok (.iastore, 1) := do_79 (rdb (p := 32) (i := 1) ch_cX6_begin_32 rfl)
theorem dX6_begin_34 : decode cX6_begin 34 = .ok (.iinc 3 1, 3) := do_132 (rdb (p := 32) (i := 2) ch_cX6_begin_32 rfl) (rdb (p := 32) (i := 3) ch_cX6_begin_32 rfl) (rdb (p := 32) (i := 4) ch_cX6_begin_32 rfl) (by decide +kernel)
theorem dX6_begin_37 : decode cX6_begin 37 = .ok (.goto (-16), 3) := do_167 (rdb (p := 32) (i := 5) ch_cX6_begin_32 rfl) (rdb (p := 32) (i := 6) ch_cX6_begin_32 rfl) (rdb (p := 32) (i := 7) ch_cX6_begin_32 rfl) (by decide +kernel)
theorem dX6_begin_40 : decode cX6_begin 40 = .ok (.return_, 1) := do_177 (rdb (p := 32) (i := 8) ch_cX6_begin_32 rfl)
theorem dX6_drop_0 : decode cX6_drop 0 = .ok (.aload_n 0, 1) := by decide +kernel
theorem dX6_drop_1 : decode cX6_drop 1 = .ok (.iconst 0, 1) := by decide +kernel
theorem dX6_drop_2 : decode cX6_drop 2 = .ok (.putfield 7, 3) := by decide +kernel
theorem dX6_drop_5 : decode cX6_drop 5 = .ok (.aload_n 0, 1) := by decide +kernel
theorem dX6_drop_6 : decode cX6_drop 6 = .ok (.iconst 0, 1) := by decide +kernel
theorem dX6_drop_7 : decode cX6_drop 7 = .ok (.putfield 13, 3) := by decide +kernel
theorem dX6_drop_10 : decode cX6_drop 10 = .ok (.return_, 1) := by decide +kernel
theorem dX6_has_0 : decode cX6_has 0 = .ok (.iload_n 1, 1) := by decide +kernel
theorem dX6_has_1 : decode cX6_has 1 = .ok (.ifCond .lt 21, 3) := by decide +kernel
theorem dX6_has_4 : decode cX6_has 4 = .ok (.iload_n 1, 1) := by decide +kernel
theorem dX6_has_5 : decode cX6_has 5 = .ok (.aload_n 0, 1) := by decide +kernel
theorem dX6_has_6 : decode cX6_has 6 = .ok (.getfield 13, 3) := by decide +kernel
theorem dX6_has_9 : decode cX6_has 9 = .ok (.if_icmp .ge 13, 3) := by decide +kernel
theorem dX6_has_12 : decode cX6_has 12 = .ok (.iload_n 1, 1) := by decide +kernel
theorem dX6_has_13 : decode cX6_has 13 = .ok (.bipush 24, 2) := by decide +kernel
theorem dX6_has_15 : decode cX6_has 15 = .ok (.if_icmp .ge 7, 3) := by decide +kernel
theorem dX6_has_18 : decode cX6_has 18 = .ok (.iconst 1, 1) := by decide +kernel
theorem dX6_has_19 : decode cX6_has 19 = .ok (.goto 4, 3) := by decide +kernel
theorem dX6_has_22 : decode cX6_has 22 = .ok (.iconst 0, 1) := by decide +kernel
theorem dX6_has_23 : decode cX6_has 23 = .ok (.ireturn, 1) := by decide +kernel
theorem dX6_hasRun_0 : decode cX6_hasRun 0 = .ok (.iload_n 1, 1) := by decide +kernel
theorem dX6_hasRun_1 : decode cX6_hasRun 1 = .ok (.ifCond .lt 29, 3) := by decide +kernel
theorem dX6_hasRun_4 : decode cX6_hasRun 4 = .ok (.iload_n 2, 1) := by decide +kernel
theorem dX6_hasRun_5 : decode cX6_hasRun 5 = .ok (.ifCond .lt 25, 3) := by decide +kernel
theorem dX6_hasRun_8 : decode cX6_hasRun 8 = .ok (.iload_n 1, 1) := by decide +kernel
theorem dX6_hasRun_9 : decode cX6_hasRun 9 = .ok (.aload_n 0, 1) := by decide +kernel
theorem dX6_hasRun_10 : decode cX6_hasRun 10 = .ok (.getfield 13, 3) := by decide +kernel
theorem dX6_hasRun_13 : decode cX6_hasRun 13 = .ok (.if_icmp .gt 17, 3) := by decide +kernel
theorem dX6_hasRun_16 : decode cX6_hasRun 16 = .ok (.iload_n 2, 1) := by decide +kernel
theorem dX6_hasRun_17 : decode cX6_hasRun 17 = .ok (.aload_n 0, 1) := by decide +kernel
theorem dX6_hasRun_18 : decode cX6_hasRun 18 = .ok (.getfield 13, 3) := by decide +kernel
theorem dX6_hasRun_21 : decode cX6_hasRun 21 = .ok (.iload_n 1, 1) := by decide +kernel
theorem dX6_hasRun_22 : decode cX6_hasRun 22 = .ok (.isub, 1) := by decide +kernel
theorem dX6_hasRun_23 : decode cX6_hasRun 23 = .ok (.if_icmp .gt 7, 3) := by decide +kernel
theorem dX6_hasRun_26 : decode cX6_hasRun 26 = .ok (.iconst 1, 1) := by decide +kernel
theorem dX6_hasRun_27 : decode cX6_hasRun 27 = .ok (.goto 4, 3) := by decide +kernel
theorem dX6_hasRun_30 : decode cX6_hasRun 30 = .ok (.iconst 0, 1) := by decide +kernel
theorem dX6_hasRun_31 : decode cX6_hasRun 31 = .ok (.ireturn, 1) := by decide +kernel
theorem ch_cX6_hasTwoAlike_0 : (cX6_hasTwoAlike.data.toList.drop 0).take 36 = [4, 60, 27, 42, 180, 0, 13, 162, 0, 37, 3, 61, 28, 27, 162, 0, 24, 42, 27, 182, 0, 33, 42, 28, 182, 0, 33, 160, 0, 5, 4, 172, 132, 2, 1, 167] := by decide +kernel
theorem dX6_hasTwoAlike_0 : decode cX6_hasTwoAlike 0 = .ok (.iconst 1, 1) := do_4 (rdb (p := 0) (i := 0) ch_cX6_hasTwoAlike_0 rfl)
theorem dX6_hasTwoAlike_1 : decode cX6_hasTwoAlike 1 = .ok (.istore_n 1, 1) := do_60 (rdb (p := 0) (i := 1) ch_cX6_hasTwoAlike_0 rfl)
theorem dX6_hasTwoAlike_2 : decode cX6_hasTwoAlike 2 = .ok (.iload_n 1, 1) := do_27 (rdb (p := 0) (i := 2) ch_cX6_hasTwoAlike_0 rfl)
theorem dX6_hasTwoAlike_3 : decode cX6_hasTwoAlike 3 = .ok (.aload_n 0, 1) := do_42 (rdb (p := 0) (i := 3) ch_cX6_hasTwoAlike_0 rfl)
theorem dX6_hasTwoAlike_4 : decode cX6_hasTwoAlike 4 = .ok (.getfield 13, 3) := do_180 (rdb (p := 0) (i := 4) ch_cX6_hasTwoAlike_0 rfl) (rdb (p := 0) (i := 5) ch_cX6_hasTwoAlike_0 rfl) (rdb (p := 0) (i := 6) ch_cX6_hasTwoAlike_0 rfl) rfl
theorem dX6_hasTwoAlike_7 : decode cX6_hasTwoAlike 7 = .ok (.if_icmp .ge 37, 3) := do_162 (rdb (p := 0) (i := 7) ch_cX6_hasTwoAlike_0 rfl) (rdb (p := 0) (i := 8) ch_cX6_hasTwoAlike_0 rfl) (rdb (p := 0) (i := 9) ch_cX6_hasTwoAlike_0 rfl) (by decide +kernel)
theorem dX6_hasTwoAlike_10 : decode cX6_hasTwoAlike 10 = .ok (.iconst 0, 1) := do_3 (rdb (p := 0) (i := 10) ch_cX6_hasTwoAlike_0 rfl)
theorem dX6_hasTwoAlike_11 : decode cX6_hasTwoAlike 11 = .ok (.istore_n 2, 1) := do_61 (rdb (p := 0) (i := 11) ch_cX6_hasTwoAlike_0 rfl)
theorem dX6_hasTwoAlike_12 : decode cX6_hasTwoAlike 12 = .ok (.iload_n 2, 1) := do_28 (rdb (p := 0) (i := 12) ch_cX6_hasTwoAlike_0 rfl)
theorem dX6_hasTwoAlike_13 : decode cX6_hasTwoAlike 13 = .ok (.iload_n 1, 1) := do_27 (rdb (p := 0) (i := 13) ch_cX6_hasTwoAlike_0 rfl)
theorem dX6_hasTwoAlike_14 : decode cX6_hasTwoAlike 14 = .ok (.if_icmp .ge 24, 3) := do_162 (rdb (p := 0) (i := 14) ch_cX6_hasTwoAlike_0 rfl) (rdb (p := 0) (i := 15) ch_cX6_hasTwoAlike_0 rfl) (rdb (p := 0) (i := 16) ch_cX6_hasTwoAlike_0 rfl) (by decide +kernel)
theorem dX6_hasTwoAlike_17 : decode cX6_hasTwoAlike 17 = .ok (.aload_n 0, 1) := do_42 (rdb (p := 0) (i := 17) ch_cX6_hasTwoAlike_0 rfl)
theorem dX6_hasTwoAlike_18 : decode cX6_hasTwoAlike 18 = .ok (.iload_n 1, 1) := do_27 (rdb (p := 0) (i := 18) ch_cX6_hasTwoAlike_0 rfl)
theorem dX6_hasTwoAlike_19 : decode cX6_hasTwoAlike 19 = .ok (.invokevirtual 33, 3) := do_182 (rdb (p := 0) (i := 19) ch_cX6_hasTwoAlike_0 rfl) (rdb (p := 0) (i := 20) ch_cX6_hasTwoAlike_0 rfl) (rdb (p := 0) (i := 21) ch_cX6_hasTwoAlike_0 rfl) rfl
theorem dX6_hasTwoAlike_22 : decode cX6_hasTwoAlike 22 = .ok (.aload_n 0, 1) := do_42 (rdb (p := 0) (i := 22) ch_cX6_hasTwoAlike_0 rfl)
theorem dX6_hasTwoAlike_23 : decode cX6_hasTwoAlike 23 = .ok (.iload_n 2, 1) := do_28 (rdb (p := 0) (i := 23) ch_cX6_hasTwoAlike_0 rfl)
theorem dX6_hasTwoAlike_24 : decode cX6_hasTwoAlike 24 = .ok (.invokevirtual 33, 3) := do_182 (rdb (p := 0) (i := 24) ch_cX6_hasTwoAlike_0 rfl) (rdb (p := 0) (i := 25) ch_cX6_hasTwoAlike_0 rfl) (rdb (p := 0) (i := 26) ch_cX6_hasTwoAlike_0 rfl) rfl
theorem dX6_hasTwoAlike_27 : decode cX6_hasTwoAlike 27 = .ok (.if_icmp .ne 5, 3) := do_160 (rdb (p := 0) (i := 27) ch_cX6_hasTwoAlike_0 rfl) (rdb (p := 0) (i := 28) ch_cX6_hasTwoAlike_0 rfl) (rdb (p := 0) (i := 29) ch_cX6_hasTwoAlike_0 rfl) (by decide +kernel)
theorem dX6_hasTwoAlike_30 : decode cX6_hasTwoAlike 30 = .ok (.iconst 1, 1) := do_4 (rdb (p := 0) (i := 30) ch_cX6_hasTwoAlike_0 rfl)
theorem dX6_hasTwoAlike_31 : decode cX6_hasTwoAlike 31 = .ok (.ireturn, 1) := do_172 (rdb (p := 0) (i := 31) ch_cX6_hasTwoAlike_0 rfl)
theorem ch_cX6_hasTwoAlike_32 : (cX6_hasTwoAlike.data.toList.drop 32).take 36 = [132, 2, 1, 167, 255, 233, 132, 1, 1, 167, 255, 217, 3, 172] := by decide +kernel
theorem dX6_hasTwoAlike_32 : decode cX6_hasTwoAlike 32 = .ok (.iinc 2 1, 3) := do_132 (rdb (p := 32) (i := 0) ch_cX6_hasTwoAlike_32 rfl) (rdb (p := 32) (i := 1) ch_cX6_hasTwoAlike_32 rfl) (rdb (p := 32) (i := 2) ch_cX6_hasTwoAlike_32 rfl) (by decide +kernel)
theorem dX6_hasTwoAlike_35 : decode cX6_hasTwoAlike 35 = .ok (.goto (-23), 3) := do_167 (rdb (p := 32) (i := 3) ch_cX6_hasTwoAlike_32 rfl) (rdb (p := 32) (i := 4) ch_cX6_hasTwoAlike_32 rfl) (rdb (p := 32) (i := 5) ch_cX6_hasTwoAlike_32 rfl) (by decide +kernel)
theorem dX6_hasTwoAlike_38 : decode cX6_hasTwoAlike 38 = .ok (.iinc 1 1, 3) := do_132 (rdb (p := 32) (i := 6) ch_cX6_hasTwoAlike_32 rfl) (rdb (p := 32) (i := 7) ch_cX6_hasTwoAlike_32 rfl) (rdb (p := 32) (i := 8) ch_cX6_hasTwoAlike_32 rfl) (by decide +kernel)
theorem dX6_hasTwoAlike_41 : decode cX6_hasTwoAlike 41 = .ok (.goto (-39), 3) := do_167 (rdb (p := 32) (i := 9) ch_cX6_hasTwoAlike_32 rfl) (rdb (p := 32) (i := 10) ch_cX6_hasTwoAlike_32 rfl) (rdb (p := 32) (i := 11) ch_cX6_hasTwoAlike_32 rfl) (by decide +kernel)
theorem dX6_hasTwoAlike_44 : decode cX6_hasTwoAlike 44 = .ok (.iconst 0, 1) := do_3 (rdb (p := 32) (i := 12) ch_cX6_hasTwoAlike_32 rfl)
theorem dX6_hasTwoAlike_45 : decode cX6_hasTwoAlike 45 = .ok (.ireturn, 1) := do_172 (rdb (p := 32) (i := 13) ch_cX6_hasTwoAlike_32 rfl)
theorem ch_cX6_holdsFewCells_0 : (cX6_holdsFewCells.data.toList.drop 0).take 36 = [42, 180, 0, 13, 4, 161, 0, 12, 42, 180, 0, 13, 16, 8, 164, 0, 5, 3, 172, 3, 60, 27, 42, 180, 0, 13, 162, 0, 22, 42, 27, 182, 0, 33, 184, 0] := by decide +kernel
theorem dX6_holdsFewCells_0 : decode cX6_holdsFewCells 0 = .ok (.aload_n 0, 1) := do_42 (rdb (p := 0) (i := 0) ch_cX6_holdsFewCells_0 rfl)
theorem dX6_holdsFewCells_1 : decode cX6_holdsFewCells 1 = .ok (.getfield 13, 3) := do_180 (rdb (p := 0) (i := 1) ch_cX6_holdsFewCells_0 rfl) (rdb (p := 0) (i := 2) ch_cX6_holdsFewCells_0 rfl) (rdb (p := 0) (i := 3) ch_cX6_holdsFewCells_0 rfl) rfl
theorem dX6_holdsFewCells_4 : decode cX6_holdsFewCells 4 = .ok (.iconst 1, 1) := do_4 (rdb (p := 0) (i := 4) ch_cX6_holdsFewCells_0 rfl)
theorem dX6_holdsFewCells_5 : decode cX6_holdsFewCells 5 = .ok (.if_icmp .lt 12, 3) := do_161 (rdb (p := 0) (i := 5) ch_cX6_holdsFewCells_0 rfl) (rdb (p := 0) (i := 6) ch_cX6_holdsFewCells_0 rfl) (rdb (p := 0) (i := 7) ch_cX6_holdsFewCells_0 rfl) (by decide +kernel)
theorem dX6_holdsFewCells_8 : decode cX6_holdsFewCells 8 = .ok (.aload_n 0, 1) := do_42 (rdb (p := 0) (i := 8) ch_cX6_holdsFewCells_0 rfl)
theorem dX6_holdsFewCells_9 : decode cX6_holdsFewCells 9 = .ok (.getfield 13, 3) := do_180 (rdb (p := 0) (i := 9) ch_cX6_holdsFewCells_0 rfl) (rdb (p := 0) (i := 10) ch_cX6_holdsFewCells_0 rfl) (rdb (p := 0) (i := 11) ch_cX6_holdsFewCells_0 rfl) rfl
theorem dX6_holdsFewCells_12 : decode cX6_holdsFewCells 12 = .ok (.bipush 8, 2) := do_16 (rdb (p := 0) (i := 12) ch_cX6_holdsFewCells_0 rfl) (rdb (p := 0) (i := 13) ch_cX6_holdsFewCells_0 rfl) (by decide +kernel)
theorem dX6_holdsFewCells_14 : decode cX6_holdsFewCells 14 = .ok (.if_icmp .le 5, 3) := do_164 (rdb (p := 0) (i := 14) ch_cX6_holdsFewCells_0 rfl) (rdb (p := 0) (i := 15) ch_cX6_holdsFewCells_0 rfl) (rdb (p := 0) (i := 16) ch_cX6_holdsFewCells_0 rfl) (by decide +kernel)
theorem dX6_holdsFewCells_17 : decode cX6_holdsFewCells 17 = .ok (.iconst 0, 1) := do_3 (rdb (p := 0) (i := 17) ch_cX6_holdsFewCells_0 rfl)
theorem dX6_holdsFewCells_18 : decode cX6_holdsFewCells 18 = .ok (.ireturn, 1) := do_172 (rdb (p := 0) (i := 18) ch_cX6_holdsFewCells_0 rfl)
theorem dX6_holdsFewCells_19 : decode cX6_holdsFewCells 19 = .ok (.iconst 0, 1) := do_3 (rdb (p := 0) (i := 19) ch_cX6_holdsFewCells_0 rfl)
theorem dX6_holdsFewCells_20 : decode cX6_holdsFewCells 20 = .ok (.istore_n 1, 1) := do_60 (rdb (p := 0) (i := 20) ch_cX6_holdsFewCells_0 rfl)
theorem dX6_holdsFewCells_21 : decode cX6_holdsFewCells 21 = .ok (.iload_n 1, 1) := do_27 (rdb (p := 0) (i := 21) ch_cX6_holdsFewCells_0 rfl)
theorem dX6_holdsFewCells_22 : decode cX6_holdsFewCells 22 = .ok (.aload_n 0, 1) := do_42 (rdb (p := 0) (i := 22) ch_cX6_holdsFewCells_0 rfl)
theorem dX6_holdsFewCells_23 : decode cX6_holdsFewCells 23 = .ok (.getfield 13, 3) := do_180 (rdb (p := 0) (i := 23) ch_cX6_holdsFewCells_0 rfl) (rdb (p := 0) (i := 24) ch_cX6_holdsFewCells_0 rfl) (rdb (p := 0) (i := 25) ch_cX6_holdsFewCells_0 rfl) rfl
theorem dX6_holdsFewCells_26 : decode cX6_holdsFewCells 26 = .ok (.if_icmp .ge 22, 3) := do_162 (rdb (p := 0) (i := 26) ch_cX6_holdsFewCells_0 rfl) (rdb (p := 0) (i := 27) ch_cX6_holdsFewCells_0 rfl) (rdb (p := 0) (i := 28) ch_cX6_holdsFewCells_0 rfl) (by decide +kernel)
theorem dX6_holdsFewCells_29 : decode cX6_holdsFewCells 29 = .ok (.aload_n 0, 1) := do_42 (rdb (p := 0) (i := 29) ch_cX6_holdsFewCells_0 rfl)
theorem dX6_holdsFewCells_30 : decode cX6_holdsFewCells 30 = .ok (.iload_n 1, 1) := do_27 (rdb (p := 0) (i := 30) ch_cX6_holdsFewCells_0 rfl)
theorem dX6_holdsFewCells_31 : decode cX6_holdsFewCells 31 = .ok (.invokevirtual 33, 3) := do_182 (rdb (p := 0) (i := 31) ch_cX6_holdsFewCells_0 rfl) (rdb (p := 0) (i := 32) ch_cX6_holdsFewCells_0 rfl) (rdb (p := 0) (i := 33) ch_cX6_holdsFewCells_0 rfl) rfl
theorem ch_cX6_holdsFewCells_32 : (cX6_holdsFewCells.data.toList.drop 32).take 36 = [0, 33, 184, 0, 37, 154, 0, 5, 3, 172, 132, 1, 1, 167, 255, 232, 4, 172] := by decide +kernel
theorem dX6_holdsFewCells_34 : decode cX6_holdsFewCells 34 = .ok (.invokestatic 37, 3) := do_184 (rdb (p := 32) (i := 2) ch_cX6_holdsFewCells_32 rfl) (rdb (p := 32) (i := 3) ch_cX6_holdsFewCells_32 rfl) (rdb (p := 32) (i := 4) ch_cX6_holdsFewCells_32 rfl) rfl
theorem dX6_holdsFewCells_37 : decode cX6_holdsFewCells 37 = .ok (.ifCond .ne 5, 3) := do_154 (rdb (p := 32) (i := 5) ch_cX6_holdsFewCells_32 rfl) (rdb (p := 32) (i := 6) ch_cX6_holdsFewCells_32 rfl) (rdb (p := 32) (i := 7) ch_cX6_holdsFewCells_32 rfl) (by decide +kernel)
theorem dX6_holdsFewCells_40 : decode cX6_holdsFewCells 40 = .ok (.iconst 0, 1) := do_3 (rdb (p := 32) (i := 8) ch_cX6_holdsFewCells_32 rfl)
theorem dX6_holdsFewCells_41 : decode cX6_holdsFewCells 41 = .ok (.ireturn, 1) := do_172 (rdb (p := 32) (i := 9) ch_cX6_holdsFewCells_32 rfl)
theorem dX6_holdsFewCells_42 : decode cX6_holdsFewCells 42 = .ok (.iinc 1 1, 3) := do_132 (rdb (p := 32) (i := 10) ch_cX6_holdsFewCells_32 rfl) (rdb (p := 32) (i := 11) ch_cX6_holdsFewCells_32 rfl) (rdb (p := 32) (i := 12) ch_cX6_holdsFewCells_32 rfl) (by decide +kernel)
theorem dX6_holdsFewCells_45 : decode cX6_holdsFewCells 45 = .ok (.goto (-24), 3) := do_167 (rdb (p := 32) (i := 13) ch_cX6_holdsFewCells_32 rfl) (rdb (p := 32) (i := 14) ch_cX6_holdsFewCells_32 rfl) (rdb (p := 32) (i := 15) ch_cX6_holdsFewCells_32 rfl) (by decide +kernel)
theorem dX6_holdsFewCells_48 : decode cX6_holdsFewCells 48 = .ok (.iconst 1, 1) := do_4 (rdb (p := 32) (i := 16) ch_cX6_holdsFewCells_32 rfl)
theorem dX6_holdsFewCells_49 : decode cX6_holdsFewCells 49 = .ok (.ireturn, 1) := do_172 (rdb (p := 32) (i := 17) ch_cX6_holdsFewCells_32 rfl)
theorem dX6_isMissing_0 : decode cX6_isMissing 0 = .ok (.aload_n 0, 1) := by decide +kernel
theorem dX6_isMissing_1 : decode cX6_isMissing 1 = .ok (.getfield 7, 3) := by decide +kernel
theorem dX6_isMissing_4 : decode cX6_isMissing 4 = .ok (.ifCond .ne 7, 3) := by decide +kernel
theorem dX6_isMissing_7 : decode cX6_isMissing 7 = .ok (.iconst 1, 1) := by decide +kernel
theorem dX6_isMissing_8 : decode cX6_isMissing 8 = .ok (.goto 4, 3) := by decide +kernel
theorem dX6_isMissing_11 : decode cX6_isMissing 11 = .ok (.iconst 0, 1) := by decide +kernel
theorem dX6_isMissing_12 : decode cX6_isMissing 12 = .ok (.ireturn, 1) := by decide +kernel
theorem dX6_numberAt_0 : decode cX6_numberAt 0 = .ok (.aload_n 0, 1) := by decide +kernel
theorem dX6_numberAt_1 : decode cX6_numberAt 1 = .ok (.iload_n 1, 1) := by decide +kernel
theorem dX6_numberAt_2 : decode cX6_numberAt 2 = .ok (.invokevirtual 29, 3) := by decide +kernel
theorem dX6_numberAt_5 : decode cX6_numberAt 5 = .ok (.ifCond .eq 12, 3) := by decide +kernel
theorem dX6_numberAt_8 : decode cX6_numberAt 8 = .ok (.aload_n 0, 1) := by decide +kernel
theorem dX6_numberAt_9 : decode cX6_numberAt 9 = .ok (.getfield 16, 3) := by decide +kernel
theorem dX6_numberAt_12 : decode cX6_numberAt 12 = .ok (.iload_n 1, 1) := by decide +kernel
theorem dX6_numberAt_13 : decode cX6_numberAt 13 = .ok (.iaload, 1) := by decide +kernel
theorem dX6_numberAt_14 : decode cX6_numberAt 14 = .ok (.goto 4, 3) := by decide +kernel
theorem dX6_numberAt_17 : decode cX6_numberAt 17 = .ok (.iconst 0, 1) := by decide +kernel
theorem dX6_numberAt_18 : decode cX6_numberAt 18 = .ok (.ireturn, 1) := by decide +kernel
theorem ch_cX6_store_0 : (cX6_store.data.toList.drop 0).take 36 = [42, 27, 182, 0, 29, 153, 0, 38, 42, 180, 0, 16, 27, 42, 180, 0, 7, 16, 8, 160, 0, 8, 28, 145, 167, 0, 18, 42, 180, 0, 7, 16, 16, 160, 0, 8] := by decide +kernel
theorem dX6_store_0 : decode cX6_store 0 = .ok (.aload_n 0, 1) := do_42 (rdb (p := 0) (i := 0) ch_cX6_store_0 rfl)
theorem dX6_store_1 : decode cX6_store 1 = .ok (.iload_n 1, 1) := do_27 (rdb (p := 0) (i := 1) ch_cX6_store_0 rfl)
theorem dX6_store_2 : decode cX6_store 2 = .ok (.invokevirtual 29, 3) := do_182 (rdb (p := 0) (i := 2) ch_cX6_store_0 rfl) (rdb (p := 0) (i := 3) ch_cX6_store_0 rfl) (rdb (p := 0) (i := 4) ch_cX6_store_0 rfl) rfl
theorem dX6_store_5 : decode cX6_store 5 = .ok (.ifCond .eq 38, 3) := do_153 (rdb (p := 0) (i := 5) ch_cX6_store_0 rfl) (rdb (p := 0) (i := 6) ch_cX6_store_0 rfl) (rdb (p := 0) (i := 7) ch_cX6_store_0 rfl) (by decide +kernel)
theorem dX6_store_8 : decode cX6_store 8 = .ok (.aload_n 0, 1) := do_42 (rdb (p := 0) (i := 8) ch_cX6_store_0 rfl)
theorem dX6_store_9 : decode cX6_store 9 = .ok (.getfield 16, 3) := do_180 (rdb (p := 0) (i := 9) ch_cX6_store_0 rfl) (rdb (p := 0) (i := 10) ch_cX6_store_0 rfl) (rdb (p := 0) (i := 11) ch_cX6_store_0 rfl) rfl
theorem dX6_store_12 : decode cX6_store 12 = .ok (.iload_n 1, 1) := do_27 (rdb (p := 0) (i := 12) ch_cX6_store_0 rfl)
theorem dX6_store_13 : decode cX6_store 13 = .ok (.aload_n 0, 1) := do_42 (rdb (p := 0) (i := 13) ch_cX6_store_0 rfl)
theorem dX6_store_14 : decode cX6_store 14 = .ok (.getfield 7, 3) := do_180 (rdb (p := 0) (i := 14) ch_cX6_store_0 rfl) (rdb (p := 0) (i := 15) ch_cX6_store_0 rfl) (rdb (p := 0) (i := 16) ch_cX6_store_0 rfl) rfl
theorem dX6_store_17 : decode cX6_store 17 = .ok (.bipush 8, 2) := do_16 (rdb (p := 0) (i := 17) ch_cX6_store_0 rfl) (rdb (p := 0) (i := 18) ch_cX6_store_0 rfl) (by decide +kernel)
theorem dX6_store_19 : decode cX6_store 19 = .ok (.if_icmp .ne 8, 3) := do_160 (rdb (p := 0) (i := 19) ch_cX6_store_0 rfl) (rdb (p := 0) (i := 20) ch_cX6_store_0 rfl) (rdb (p := 0) (i := 21) ch_cX6_store_0 rfl) (by decide +kernel)
theorem dX6_store_22 : decode cX6_store 22 = .ok (.iload_n 2, 1) := do_28 (rdb (p := 0) (i := 22) ch_cX6_store_0 rfl)
theorem dX6_store_23 : decode cX6_store 23 = .ok (.i2b, 1) := do_145 (rdb (p := 0) (i := 23) ch_cX6_store_0 rfl)
theorem dX6_store_24 : decode cX6_store 24 = .ok (.goto 18, 3) := do_167 (rdb (p := 0) (i := 24) ch_cX6_store_0 rfl) (rdb (p := 0) (i := 25) ch_cX6_store_0 rfl) (rdb (p := 0) (i := 26) ch_cX6_store_0 rfl) (by decide +kernel)
theorem dX6_store_27 : decode cX6_store 27 = .ok (.aload_n 0, 1) := do_42 (rdb (p := 0) (i := 27) ch_cX6_store_0 rfl)
theorem dX6_store_28 : decode cX6_store 28 = .ok (.getfield 7, 3) := do_180 (rdb (p := 0) (i := 28) ch_cX6_store_0 rfl) (rdb (p := 0) (i := 29) ch_cX6_store_0 rfl) (rdb (p := 0) (i := 30) ch_cX6_store_0 rfl) rfl
theorem dX6_store_31 : decode cX6_store 31 = .ok (.bipush 16, 2) := do_16 (rdb (p := 0) (i := 31) ch_cX6_store_0 rfl) (rdb (p := 0) (i := 32) ch_cX6_store_0 rfl) (by decide +kernel)
theorem ch_cX6_store_32 : (cX6_store.data.toList.drop 32).take 36 = [16, 160, 0, 8, 28, 147, 167, 0, 4, 28, 79, 177] := by decide +kernel
theorem dX6_store_33 : decode cX6_store 33 = .ok (.if_icmp .ne 8, 3) := do_160 (rdb (p := 32) (i := 1) ch_cX6_store_32 rfl) (rdb (p := 32) (i := 2) ch_cX6_store_32 rfl) (rdb (p := 32) (i := 3) ch_cX6_store_32 rfl) (by decide +kernel)
theorem dX6_store_36 : decode cX6_store 36 = .ok (.iload_n 2, 1) := do_28 (rdb (p := 32) (i := 4) ch_cX6_store_32 rfl)
theorem dX6_store_37 : decode cX6_store 37 = .ok (.i2s, 1) := do_147 (rdb (p := 32) (i := 5) ch_cX6_store_32 rfl)
theorem dX6_store_38 : decode cX6_store 38 = .ok (.goto 4, 3) := do_167 (rdb (p := 32) (i := 6) ch_cX6_store_32 rfl) (rdb (p := 32) (i := 7) ch_cX6_store_32 rfl) (rdb (p := 32) (i := 8) ch_cX6_store_32 rfl) (by decide +kernel)
theorem dX6_store_41 : decode cX6_store 41 = .ok (.iload_n 2, 1) := do_28 (rdb (p := 32) (i := 9) ch_cX6_store_32 rfl)
theorem dX6_store_42 : decode cX6_store 42 = .ok (.iastore, 1) := do_79 (rdb (p := 32) (i := 10) ch_cX6_store_32 rfl)
theorem dX6_store_43 : decode cX6_store 43 = .ok (.return_, 1) := do_177 (rdb (p := 32) (i := 11) ch_cX6_store_32 rfl)
theorem dX9_addNo_0 : decode cX9_addNo 0 = .ok (.iload_n 1, 1) := by decide +kernel
theorem dX9_addNo_1 : decode cX9_addNo 1 = .ok (.invokestatic 73, 3) := by decide +kernel
theorem dX9_addNo_4 : decode cX9_addNo 4 = .ok (.ifCond .eq 22, 3) := by decide +kernel
theorem dX9_addNo_7 : decode cX9_addNo 7 = .ok (.aload_n 0, 1) := by decide +kernel
theorem dX9_addNo_8 : decode cX9_addNo 8 = .ok (.getfield 44, 3) := by decide +kernel
theorem dX9_addNo_11 : decode cX9_addNo 11 = .ok (.iload_n 1, 1) := by decide +kernel
theorem dX9_addNo_12 : decode cX9_addNo 12 = .ok (.bipush 99, 2) := by decide +kernel
theorem dX9_addNo_14 : decode cX9_addNo 14 = .ok (.aload_n 0, 1) := by decide +kernel
theorem dX9_addNo_15 : decode cX9_addNo 15 = .ok (.getfield 44, 3) := by decide +kernel
theorem dX9_addNo_18 : decode cX9_addNo 18 = .ok (.iload_n 1, 1) := by decide +kernel
theorem dX9_addNo_19 : decode cX9_addNo 19 = .ok (.iaload, 1) := by decide +kernel
theorem dX9_addNo_20 : decode cX9_addNo 20 = .ok (.iconst 1, 1) := by decide +kernel
theorem dX9_addNo_21 : decode cX9_addNo 21 = .ok (.iadd, 1) := by decide +kernel
theorem dX9_addNo_22 : decode cX9_addNo 22 = .ok (.invokestatic 77, 3) := by decide +kernel
theorem dX9_addNo_25 : decode cX9_addNo 25 = .ok (.iastore, 1) := by decide +kernel
theorem dX9_addNo_26 : decode cX9_addNo 26 = .ok (.return_, 1) := by decide +kernel
theorem dX9_addYes_0 : decode cX9_addYes 0 = .ok (.iload_n 1, 1) := by decide +kernel
theorem dX9_addYes_1 : decode cX9_addYes 1 = .ok (.invokestatic 73, 3) := by decide +kernel
theorem dX9_addYes_4 : decode cX9_addYes 4 = .ok (.ifCond .eq 22, 3) := by decide +kernel
theorem dX9_addYes_7 : decode cX9_addYes 7 = .ok (.aload_n 0, 1) := by decide +kernel
theorem dX9_addYes_8 : decode cX9_addYes 8 = .ok (.getfield 40, 3) := by decide +kernel
theorem dX9_addYes_11 : decode cX9_addYes 11 = .ok (.iload_n 1, 1) := by decide +kernel
theorem dX9_addYes_12 : decode cX9_addYes 12 = .ok (.bipush 99, 2) := by decide +kernel
theorem dX9_addYes_14 : decode cX9_addYes 14 = .ok (.aload_n 0, 1) := by decide +kernel
theorem dX9_addYes_15 : decode cX9_addYes 15 = .ok (.getfield 40, 3) := by decide +kernel
theorem dX9_addYes_18 : decode cX9_addYes 18 = .ok (.iload_n 1, 1) := by decide +kernel
theorem dX9_addYes_19 : decode cX9_addYes 19 = .ok (.iaload, 1) := by decide +kernel
theorem dX9_addYes_20 : decode cX9_addYes 20 = .ok (.iload_n 2, 1) := by decide +kernel
theorem dX9_addYes_21 : decode cX9_addYes 21 = .ok (.iadd, 1) := by decide +kernel
theorem dX9_addYes_22 : decode cX9_addYes 22 = .ok (.invokestatic 77, 3) := by decide +kernel
theorem dX9_addYes_25 : decode cX9_addYes 25 = .ok (.iastore, 1) := by decide +kernel
theorem dX9_addYes_26 : decode cX9_addYes 26 = .ok (.return_, 1) := by decide +kernel
theorem ch_cX9_begin_0 : (cX9_begin.data.toList.drop 0).take 36 = [42, 27, 181, 0, 7, 42, 28, 181, 0, 13, 42, 29, 181, 0, 16, 42, 8, 181, 0, 19, 42, 16, 60, 181, 0, 22, 42, 3, 181, 0, 25, 42, 3, 181, 0, 28] := by decide +kernel
theorem dX9_begin_0 : decode cX9_begin 0 = .ok (.aload_n 0, 1) := do_42 (rdb (p := 0) (i := 0) ch_cX9_begin_0 rfl)
theorem dX9_begin_1 : decode cX9_begin 1 = .ok (.iload_n 1, 1) := do_27 (rdb (p := 0) (i := 1) ch_cX9_begin_0 rfl)
theorem dX9_begin_2 : decode cX9_begin 2 = .ok (.putfield 7, 3) := do_181 (rdb (p := 0) (i := 2) ch_cX9_begin_0 rfl) (rdb (p := 0) (i := 3) ch_cX9_begin_0 rfl) (rdb (p := 0) (i := 4) ch_cX9_begin_0 rfl) rfl
theorem dX9_begin_5 : decode cX9_begin 5 = .ok (.aload_n 0, 1) := do_42 (rdb (p := 0) (i := 5) ch_cX9_begin_0 rfl)
theorem dX9_begin_6 : decode cX9_begin 6 = .ok (.iload_n 2, 1) := do_28 (rdb (p := 0) (i := 6) ch_cX9_begin_0 rfl)
theorem dX9_begin_7 : decode cX9_begin 7 = .ok (.putfield 13, 3) := do_181 (rdb (p := 0) (i := 7) ch_cX9_begin_0 rfl) (rdb (p := 0) (i := 8) ch_cX9_begin_0 rfl) (rdb (p := 0) (i := 9) ch_cX9_begin_0 rfl) rfl
theorem dX9_begin_10 : decode cX9_begin 10 = .ok (.aload_n 0, 1) := do_42 (rdb (p := 0) (i := 10) ch_cX9_begin_0 rfl)
theorem dX9_begin_11 : decode cX9_begin 11 = .ok (.iload_n 3, 1) := do_29 (rdb (p := 0) (i := 11) ch_cX9_begin_0 rfl)
theorem dX9_begin_12 : decode cX9_begin 12 = .ok (.putfield 16, 3) := do_181 (rdb (p := 0) (i := 12) ch_cX9_begin_0 rfl) (rdb (p := 0) (i := 13) ch_cX9_begin_0 rfl) (rdb (p := 0) (i := 14) ch_cX9_begin_0 rfl) rfl
theorem dX9_begin_15 : decode cX9_begin 15 = .ok (.aload_n 0, 1) := do_42 (rdb (p := 0) (i := 15) ch_cX9_begin_0 rfl)
theorem dX9_begin_16 : decode cX9_begin 16 = .ok (.iconst 5, 1) := do_8 (rdb (p := 0) (i := 16) ch_cX9_begin_0 rfl)
theorem dX9_begin_17 : decode cX9_begin 17 = .ok (.putfield 19, 3) := do_181 (rdb (p := 0) (i := 17) ch_cX9_begin_0 rfl) (rdb (p := 0) (i := 18) ch_cX9_begin_0 rfl) (rdb (p := 0) (i := 19) ch_cX9_begin_0 rfl) rfl
theorem dX9_begin_20 : decode cX9_begin 20 = .ok (.aload_n 0, 1) := do_42 (rdb (p := 0) (i := 20) ch_cX9_begin_0 rfl)
theorem dX9_begin_21 : decode cX9_begin 21 = .ok (.bipush 60, 2) := do_16 (rdb (p := 0) (i := 21) ch_cX9_begin_0 rfl) (rdb (p := 0) (i := 22) ch_cX9_begin_0 rfl) (by decide +kernel)
theorem dX9_begin_23 : decode cX9_begin 23 = .ok (.putfield 22, 3) := do_181 (rdb (p := 0) (i := 23) ch_cX9_begin_0 rfl) (rdb (p := 0) (i := 24) ch_cX9_begin_0 rfl) (rdb (p := 0) (i := 25) ch_cX9_begin_0 rfl) rfl
theorem dX9_begin_26 : decode cX9_begin 26 = .ok (.aload_n 0, 1) := do_42 (rdb (p := 0) (i := 26) ch_cX9_begin_0 rfl)
theorem dX9_begin_27 : decode cX9_begin 27 = .ok (.iconst 0, 1) := do_3 (rdb (p := 0) (i := 27) ch_cX9_begin_0 rfl)
theorem dX9_begin_28 : decode cX9_begin 28 = .ok (.putfield 25, 3) := do_181 (rdb (p := 0) (i := 28) ch_cX9_begin_0 rfl) (rdb (p := 0) (i := 29) ch_cX9_begin_0 rfl) (rdb (p := 0) (i := 30) ch_cX9_begin_0 rfl) rfl
theorem dX9_begin_31 : decode cX9_begin 31 = .ok (.aload_n 0, 1) := do_42 (rdb (p := 0) (i := 31) ch_cX9_begin_0 rfl)
theorem ch_cX9_begin_32 : (cX9_begin.data.toList.drop 32).take 36 = [3, 181, 0, 28, 42, 3, 181, 0, 32, 42, 3, 181, 0, 35, 3, 54, 4, 21, 4, 17, 0, 192, 162, 0, 25, 42, 180, 0, 40, 21, 4, 3, 79, 42, 180, 0] := by decide +kernel
theorem dX9_begin_32 : decode cX9_begin 32 = .ok (.iconst 0, 1) := do_3 (rdb (p := 32) (i := 0) ch_cX9_begin_32 rfl)
theorem dX9_begin_33 : decode cX9_begin 33 = .ok (.putfield 28, 3) := do_181 (rdb (p := 32) (i := 1) ch_cX9_begin_32 rfl) (rdb (p := 32) (i := 2) ch_cX9_begin_32 rfl) (rdb (p := 32) (i := 3) ch_cX9_begin_32 rfl) rfl
theorem dX9_begin_36 : decode cX9_begin 36 = .ok (.aload_n 0, 1) := do_42 (rdb (p := 32) (i := 4) ch_cX9_begin_32 rfl)
theorem dX9_begin_37 : decode cX9_begin 37 = .ok (.iconst 0, 1) := do_3 (rdb (p := 32) (i := 5) ch_cX9_begin_32 rfl)
theorem dX9_begin_38 : decode cX9_begin 38 = .ok (.putfield 32, 3) := do_181 (rdb (p := 32) (i := 6) ch_cX9_begin_32 rfl) (rdb (p := 32) (i := 7) ch_cX9_begin_32 rfl) (rdb (p := 32) (i := 8) ch_cX9_begin_32 rfl) rfl
theorem dX9_begin_41 : decode cX9_begin 41 = .ok (.aload_n 0, 1) := do_42 (rdb (p := 32) (i := 9) ch_cX9_begin_32 rfl)
theorem dX9_begin_42 : decode cX9_begin 42 = .ok (.iconst 0, 1) := do_3 (rdb (p := 32) (i := 10) ch_cX9_begin_32 rfl)
theorem dX9_begin_43 : decode cX9_begin 43 = .ok (.putfield 35, 3) := do_181 (rdb (p := 32) (i := 11) ch_cX9_begin_32 rfl) (rdb (p := 32) (i := 12) ch_cX9_begin_32 rfl) (rdb (p := 32) (i := 13) ch_cX9_begin_32 rfl) rfl
theorem dX9_begin_46 : decode cX9_begin 46 = .ok (.iconst 0, 1) := do_3 (rdb (p := 32) (i := 14) ch_cX9_begin_32 rfl)
theorem dX9_begin_47 : decode cX9_begin 47 = .ok (.istore 4, 2) := do_54 (rdb (p := 32) (i := 15) ch_cX9_begin_32 rfl) (rdb (p := 32) (i := 16) ch_cX9_begin_32 rfl)
theorem dX9_begin_49 : decode cX9_begin 49 = .ok (.iload 4, 2) := do_21 (rdb (p := 32) (i := 17) ch_cX9_begin_32 rfl) (rdb (p := 32) (i := 18) ch_cX9_begin_32 rfl)
theorem dX9_begin_51 : decode cX9_begin 51 = .ok (.sipush 192, 3) := do_17 (rdb (p := 32) (i := 19) ch_cX9_begin_32 rfl) (rdb (p := 32) (i := 20) ch_cX9_begin_32 rfl) (rdb (p := 32) (i := 21) ch_cX9_begin_32 rfl) (by decide +kernel)
theorem dX9_begin_54 : decode cX9_begin 54 = .ok (.if_icmp .ge 25, 3) := do_162 (rdb (p := 32) (i := 22) ch_cX9_begin_32 rfl) (rdb (p := 32) (i := 23) ch_cX9_begin_32 rfl) (rdb (p := 32) (i := 24) ch_cX9_begin_32 rfl) (by decide +kernel)
theorem dX9_begin_57 : decode cX9_begin 57 = .ok (.aload_n 0, 1) := do_42 (rdb (p := 32) (i := 25) ch_cX9_begin_32 rfl)
theorem dX9_begin_58 : decode cX9_begin 58 = .ok (.getfield 40, 3) := do_180 (rdb (p := 32) (i := 26) ch_cX9_begin_32 rfl) (rdb (p := 32) (i := 27) ch_cX9_begin_32 rfl) (rdb (p := 32) (i := 28) ch_cX9_begin_32 rfl) rfl
theorem dX9_begin_61 : decode cX9_begin 61 = .ok (.iload 4, 2) := do_21 (rdb (p := 32) (i := 29) ch_cX9_begin_32 rfl) (rdb (p := 32) (i := 30) ch_cX9_begin_32 rfl)
theorem dX9_begin_63 : decode cX9_begin 63 = .ok (.iconst 0, 1) := do_3 (rdb (p := 32) (i := 31) ch_cX9_begin_32 rfl)
theorem ch_cX9_begin_64 : (cX9_begin.data.toList.drop 64).take 36 = [79, 42, 180, 0, 44, 21, 4, 3, 79, 132, 4, 1, 167, 255, 229, 177] := by decide +kernel
theorem dX9_begin_64 : decode cX9_begin 64 = .ok (.iastore, 1) := do_79 (rdb (p := 64) (i := 0) ch_cX9_begin_64 rfl)
theorem dX9_begin_65 : decode cX9_begin 65 = .ok (.aload_n 0, 1) := do_42 (rdb (p := 64) (i := 1) ch_cX9_begin_64 rfl)
theorem dX9_begin_66 : decode cX9_begin 66 = .ok (.getfield 44, 3) := do_180 (rdb (p := 64) (i := 2) ch_cX9_begin_64 rfl) (rdb (p := 64) (i := 3) ch_cX9_begin_64 rfl) (rdb (p := 64) (i := 4) ch_cX9_begin_64 rfl) rfl
theorem dX9_begin_69 : decode cX9_begin 69 = .ok (.iload 4, 2) := do_21 (rdb (p := 64) (i := 5) ch_cX9_begin_64 rfl) (rdb (p := 64) (i := 6) ch_cX9_begin_64 rfl)
theorem dX9_begin_71 : decode cX9_begin 71 = .ok (.iconst 0, 1) := do_3 (rdb (p := 64) (i := 7) ch_cX9_begin_64 rfl)
theorem dX9_begin_72 : decode cX9_begin 72 = .ok (.iastore, 1) := do_79 (rdb (p := 64) (i := 8) ch_cX9_begin_64 rfl)
theorem dX9_begin_73 : decode cX9_begin 73 = .ok (.iinc 4 1, 3) := do_132 (rdb (p := 64) (i := 9) ch_cX9_begin_64 rfl) (rdb (p := 64) (i := 10) ch_cX9_begin_64 rfl) (rdb (p := 64) (i := 11) ch_cX9_begin_64 rfl) (by decide +kernel)
theorem dX9_begin_76 : decode cX9_begin 76 = .ok (.goto (-27), 3) := do_167 (rdb (p := 64) (i := 12) ch_cX9_begin_64 rfl) (rdb (p := 64) (i := 13) ch_cX9_begin_64 rfl) (rdb (p := 64) (i := 14) ch_cX9_begin_64 rfl) (by decide +kernel)
theorem dX9_begin_79 : decode cX9_begin 79 = .ok (.return_, 1) := do_177 (rdb (p := 64) (i := 15) ch_cX9_begin_64 rfl)
theorem dX9_canLearn_0 : decode cX9_canLearn 0 = .ok (.iload_n 1, 1) := by decide +kernel
theorem dX9_canLearn_1 : decode cX9_canLearn 1 = .ok (.invokestatic 73, 3) := by decide +kernel
theorem dX9_canLearn_4 : decode cX9_canLearn 4 = .ok (.ifCond .eq 33, 3) := by decide +kernel
theorem dX9_canLearn_7 : decode cX9_canLearn 7 = .ok (.aload_n 0, 1) := by decide +kernel
theorem dX9_canLearn_8 : decode cX9_canLearn 8 = .ok (.getfield 40, 3) := by decide +kernel
theorem dX9_canLearn_11 : decode cX9_canLearn 11 = .ok (.iload_n 1, 1) := by decide +kernel
theorem dX9_canLearn_12 : decode cX9_canLearn 12 = .ok (.iaload, 1) := by decide +kernel
theorem dX9_canLearn_13 : decode cX9_canLearn 13 = .ok (.aload_n 0, 1) := by decide +kernel
theorem dX9_canLearn_14 : decode cX9_canLearn 14 = .ok (.getfield 44, 3) := by decide +kernel
theorem dX9_canLearn_17 : decode cX9_canLearn 17 = .ok (.iload_n 1, 1) := by decide +kernel
theorem dX9_canLearn_18 : decode cX9_canLearn 18 = .ok (.iaload, 1) := by decide +kernel
theorem dX9_canLearn_19 : decode cX9_canLearn 19 = .ok (.if_icmp .ne 18, 3) := by decide +kernel
theorem dX9_canLearn_22 : decode cX9_canLearn 22 = .ok (.aload_n 0, 1) := by decide +kernel
theorem dX9_canLearn_23 : decode cX9_canLearn 23 = .ok (.getfield 40, 3) := by decide +kernel
theorem dX9_canLearn_26 : decode cX9_canLearn 26 = .ok (.iload_n 1, 1) := by decide +kernel
theorem dX9_canLearn_27 : decode cX9_canLearn 27 = .ok (.iaload, 1) := by decide +kernel
theorem dX9_canLearn_28 : decode cX9_canLearn 28 = .ok (.bipush 99, 2) := by decide +kernel
theorem dX9_canLearn_30 : decode cX9_canLearn 30 = .ok (.if_icmp .ge 7, 3) := by decide +kernel
theorem dX9_canLearn_33 : decode cX9_canLearn 33 = .ok (.iconst 1, 1) := by decide +kernel
theorem dX9_canLearn_34 : decode cX9_canLearn 34 = .ok (.goto 4, 3) := by decide +kernel
theorem dX9_canLearn_37 : decode cX9_canLearn 37 = .ok (.iconst 0, 1) := by decide +kernel
theorem dX9_canLearn_38 : decode cX9_canLearn 38 = .ok (.ireturn, 1) := by decide +kernel
theorem dX9_countHeld_0 : decode cX9_countHeld 0 = .ok (.iconst 0, 1) := by decide +kernel
theorem dX9_countHeld_1 : decode cX9_countHeld 1 = .ok (.istore_n 2, 1) := by decide +kernel
theorem dX9_countHeld_2 : decode cX9_countHeld 2 = .ok (.iconst 0, 1) := by decide +kernel
theorem dX9_countHeld_3 : decode cX9_countHeld 3 = .ok (.istore_n 3, 1) := by decide +kernel
theorem dX9_countHeld_4 : decode cX9_countHeld 4 = .ok (.iload_n 3, 1) := by decide +kernel
theorem dX9_countHeld_5 : decode cX9_countHeld 5 = .ok (.sipush 192, 3) := by decide +kernel
theorem dX9_countHeld_8 : decode cX9_countHeld 8 = .ok (.if_icmp .ge 21, 3) := by decide +kernel
theorem dX9_countHeld_11 : decode cX9_countHeld 11 = .ok (.aload_n 0, 1) := by decide +kernel
theorem dX9_countHeld_12 : decode cX9_countHeld 12 = .ok (.iload_n 3, 1) := by decide +kernel
theorem dX9_countHeld_13 : decode cX9_countHeld 13 = .ok (.invokevirtual 83, 3) := by decide +kernel
theorem dX9_countHeld_16 : decode cX9_countHeld 16 = .ok (.iload_n 1, 1) := by decide +kernel
theorem dX9_countHeld_17 : decode cX9_countHeld 17 = .ok (.if_icmp .ne 6, 3) := by decide +kernel
theorem dX9_countHeld_20 : decode cX9_countHeld 20 = .ok (.iinc 2 1, 3) := by decide +kernel
theorem dX9_countHeld_23 : decode cX9_countHeld 23 = .ok (.iinc 3 1, 3) := by decide +kernel
theorem dX9_countHeld_26 : decode cX9_countHeld 26 = .ok (.goto (-22), 3) := by decide +kernel
theorem dX9_countHeld_29 : decode cX9_countHeld 29 = .ok (.iload_n 2, 1) := by decide +kernel
theorem dX9_countHeld_30 : decode cX9_countHeld 30 = .ok (.ireturn, 1) := by decide +kernel
theorem dX9_ears_0 : decode cX9_ears 0 = .ok (.aload_n 0, 1) := by decide +kernel
theorem dX9_ears_1 : decode cX9_ears 1 = .ok (.getfield 7, 3) := by decide +kernel
theorem dX9_ears_4 : decode cX9_ears 4 = .ok (.ifCond .lt 23, 3) := by decide +kernel
theorem dX9_ears_7 : decode cX9_ears 7 = .ok (.aload_n 0, 1) := by decide +kernel
theorem dX9_ears_8 : decode cX9_ears 8 = .ok (.getfield 7, 3) := by decide +kernel
theorem dX9_ears_11 : decode cX9_ears 11 = .ok (.bipush 8, 2) := by decide +kernel
theorem dX9_ears_13 : decode cX9_ears 13 = .ok (.if_icmp .ge 14, 3) := by decide +kernel
theorem dX9_ears_16 : decode cX9_ears 16 = .ok (.getstatic 60, 3) := by decide +kernel
theorem dX9_ears_19 : decode cX9_ears 19 = .ok (.aload_n 0, 1) := by decide +kernel
theorem dX9_ears_20 : decode cX9_ears 20 = .ok (.getfield 7, 3) := by decide +kernel
theorem dX9_ears_23 : decode cX9_ears 23 = .ok (.iaload, 1) := by decide +kernel
theorem dX9_ears_24 : decode cX9_ears 24 = .ok (.goto 4, 3) := by decide +kernel
theorem dX9_ears_27 : decode cX9_ears 27 = .ok (.iconst 0, 1) := by decide +kernel
theorem dX9_ears_28 : decode cX9_ears 28 = .ok (.ireturn, 1) := by decide +kernel
theorem ch_cX9_factOf_0 : (cX9_factOf.data.toList.drop 0).take 36 = [27, 170, 0, 0, 0, 0, 0, 122, 0, 0, 0, 0, 0, 0, 0, 10, 0, 0, 0, 59, 0, 0, 0, 64, 0, 0, 0, 69, 0, 0, 0, 74, 0, 0, 0, 79] := by decide +kernel
theorem dX9_factOf_0 : decode cX9_factOf 0 = .ok (.iload_n 1, 1) := do_27 (rdb (p := 0) (i := 0) ch_cX9_factOf_0 rfl)
theorem dX9_factOf_1 : decode cX9_factOf 1 = .ok (.tableswitch 122 0 10 #[59, 64, 69, 74, 79, 84, 89, 102, 107, 112, 117], 59) := by decide +kernel
theorem ch_cX9_factOf_32 : (cX9_factOf.data.toList.drop 32).take 36 = [0, 0, 0, 79, 0, 0, 0, 84, 0, 0, 0, 89, 0, 0, 0, 102, 0, 0, 0, 107, 0, 0, 0, 112, 0, 0, 0, 117, 42, 180, 0, 7, 172, 42, 180, 0] := by decide +kernel
theorem dX9_factOf_60 : decode cX9_factOf 60 = .ok (.aload_n 0, 1) := do_42 (rdb (p := 32) (i := 28) ch_cX9_factOf_32 rfl)
theorem dX9_factOf_61 : decode cX9_factOf 61 = .ok (.getfield 7, 3) := do_180 (rdb (p := 32) (i := 29) ch_cX9_factOf_32 rfl) (rdb (p := 32) (i := 30) ch_cX9_factOf_32 rfl) (rdb (p := 32) (i := 31) ch_cX9_factOf_32 rfl) rfl
theorem ch_cX9_factOf_64 : (cX9_factOf.data.toList.drop 64).take 36 = [172, 42, 180, 0, 13, 172, 42, 180, 0, 16, 172, 42, 180, 0, 19, 172, 42, 180, 0, 22, 172, 42, 180, 0, 25, 172, 42, 180, 0, 28, 153, 0, 7, 4, 167, 0] := by decide +kernel
theorem dX9_factOf_64 : decode cX9_factOf 64 = .ok (.ireturn, 1) := do_172 (rdb (p := 64) (i := 0) ch_cX9_factOf_64 rfl)
theorem dX9_factOf_65 : decode cX9_factOf 65 = .ok (.aload_n 0, 1) := do_42 (rdb (p := 64) (i := 1) ch_cX9_factOf_64 rfl)
theorem dX9_factOf_66 : decode cX9_factOf 66 = .ok (.getfield 13, 3) := do_180 (rdb (p := 64) (i := 2) ch_cX9_factOf_64 rfl) (rdb (p := 64) (i := 3) ch_cX9_factOf_64 rfl) (rdb (p := 64) (i := 4) ch_cX9_factOf_64 rfl) rfl
theorem dX9_factOf_69 : decode cX9_factOf 69 = .ok (.ireturn, 1) := do_172 (rdb (p := 64) (i := 5) ch_cX9_factOf_64 rfl)
theorem dX9_factOf_70 : decode cX9_factOf 70 = .ok (.aload_n 0, 1) := do_42 (rdb (p := 64) (i := 6) ch_cX9_factOf_64 rfl)
theorem dX9_factOf_71 : decode cX9_factOf 71 = .ok (.getfield 16, 3) := do_180 (rdb (p := 64) (i := 7) ch_cX9_factOf_64 rfl) (rdb (p := 64) (i := 8) ch_cX9_factOf_64 rfl) (rdb (p := 64) (i := 9) ch_cX9_factOf_64 rfl) rfl
theorem dX9_factOf_74 : decode cX9_factOf 74 = .ok (.ireturn, 1) := do_172 (rdb (p := 64) (i := 10) ch_cX9_factOf_64 rfl)
theorem dX9_factOf_75 : decode cX9_factOf 75 = .ok (.aload_n 0, 1) := do_42 (rdb (p := 64) (i := 11) ch_cX9_factOf_64 rfl)
theorem dX9_factOf_76 : decode cX9_factOf 76 = .ok (.getfield 19, 3) := do_180 (rdb (p := 64) (i := 12) ch_cX9_factOf_64 rfl) (rdb (p := 64) (i := 13) ch_cX9_factOf_64 rfl) (rdb (p := 64) (i := 14) ch_cX9_factOf_64 rfl) rfl
theorem dX9_factOf_79 : decode cX9_factOf 79 = .ok (.ireturn, 1) := do_172 (rdb (p := 64) (i := 15) ch_cX9_factOf_64 rfl)
theorem dX9_factOf_80 : decode cX9_factOf 80 = .ok (.aload_n 0, 1) := do_42 (rdb (p := 64) (i := 16) ch_cX9_factOf_64 rfl)
theorem dX9_factOf_81 : decode cX9_factOf 81 = .ok (.getfield 22, 3) := do_180 (rdb (p := 64) (i := 17) ch_cX9_factOf_64 rfl) (rdb (p := 64) (i := 18) ch_cX9_factOf_64 rfl) (rdb (p := 64) (i := 19) ch_cX9_factOf_64 rfl) rfl
theorem dX9_factOf_84 : decode cX9_factOf 84 = .ok (.ireturn, 1) := do_172 (rdb (p := 64) (i := 20) ch_cX9_factOf_64 rfl)
theorem dX9_factOf_85 : decode cX9_factOf 85 = .ok (.aload_n 0, 1) := do_42 (rdb (p := 64) (i := 21) ch_cX9_factOf_64 rfl)
theorem dX9_factOf_86 : decode cX9_factOf 86 = .ok (.getfield 25, 3) := do_180 (rdb (p := 64) (i := 22) ch_cX9_factOf_64 rfl) (rdb (p := 64) (i := 23) ch_cX9_factOf_64 rfl) (rdb (p := 64) (i := 24) ch_cX9_factOf_64 rfl) rfl
theorem dX9_factOf_89 : decode cX9_factOf 89 = .ok (.ireturn, 1) := do_172 (rdb (p := 64) (i := 25) ch_cX9_factOf_64 rfl)
theorem dX9_factOf_90 : decode cX9_factOf 90 = .ok (.aload_n 0, 1) := do_42 (rdb (p := 64) (i := 26) ch_cX9_factOf_64 rfl)
theorem dX9_factOf_91 : decode cX9_factOf 91 = .ok (.getfield 28, 3) := do_180 (rdb (p := 64) (i := 27) ch_cX9_factOf_64 rfl) (rdb (p := 64) (i := 28) ch_cX9_factOf_64 rfl) (rdb (p := 64) (i := 29) ch_cX9_factOf_64 rfl) rfl
theorem dX9_factOf_94 : decode cX9_factOf 94 = .ok (.ifCond .eq 7, 3) := do_153 (rdb (p := 64) (i := 30) ch_cX9_factOf_64 rfl) (rdb (p := 64) (i := 31) ch_cX9_factOf_64 rfl) (rdb (p := 64) (i := 32) ch_cX9_factOf_64 rfl) (by decide +kernel)
theorem ch_cX9_factOf_96 : (cX9_factOf.data.toList.drop 96).take 36 = [7, 4, 167, 0, 4, 3, 172, 42, 180, 0, 32, 172, 42, 180, 0, 35, 172, 42, 182, 0, 63, 172, 42, 182, 0, 67, 172, 42, 182, 0, 70, 172] := by decide +kernel
theorem dX9_factOf_97 : decode cX9_factOf 97 = .ok (.iconst 1, 1) := do_4 (rdb (p := 96) (i := 1) ch_cX9_factOf_96 rfl)
theorem dX9_factOf_98 : decode cX9_factOf 98 = .ok (.goto 4, 3) := do_167 (rdb (p := 96) (i := 2) ch_cX9_factOf_96 rfl) (rdb (p := 96) (i := 3) ch_cX9_factOf_96 rfl) (rdb (p := 96) (i := 4) ch_cX9_factOf_96 rfl) (by decide +kernel)
theorem dX9_factOf_101 : decode cX9_factOf 101 = .ok (.iconst 0, 1) := do_3 (rdb (p := 96) (i := 5) ch_cX9_factOf_96 rfl)
theorem dX9_factOf_102 : decode cX9_factOf 102 = .ok (.ireturn, 1) := do_172 (rdb (p := 96) (i := 6) ch_cX9_factOf_96 rfl)
theorem dX9_factOf_103 : decode cX9_factOf 103 = .ok (.aload_n 0, 1) := do_42 (rdb (p := 96) (i := 7) ch_cX9_factOf_96 rfl)
theorem dX9_factOf_104 : decode cX9_factOf 104 = .ok (.getfield 32, 3) := do_180 (rdb (p := 96) (i := 8) ch_cX9_factOf_96 rfl) (rdb (p := 96) (i := 9) ch_cX9_factOf_96 rfl) (rdb (p := 96) (i := 10) ch_cX9_factOf_96 rfl) rfl
theorem dX9_factOf_107 : decode cX9_factOf 107 = .ok (.ireturn, 1) := do_172 (rdb (p := 96) (i := 11) ch_cX9_factOf_96 rfl)
theorem dX9_factOf_108 : decode cX9_factOf 108 = .ok (.aload_n 0, 1) := do_42 (rdb (p := 96) (i := 12) ch_cX9_factOf_96 rfl)
theorem dX9_factOf_109 : decode cX9_factOf 109 = .ok (.getfield 35, 3) := do_180 (rdb (p := 96) (i := 13) ch_cX9_factOf_96 rfl) (rdb (p := 96) (i := 14) ch_cX9_factOf_96 rfl) (rdb (p := 96) (i := 15) ch_cX9_factOf_96 rfl) rfl
theorem dX9_factOf_112 : decode cX9_factOf 112 = .ok (.ireturn, 1) := do_172 (rdb (p := 96) (i := 16) ch_cX9_factOf_96 rfl)
theorem dX9_factOf_113 : decode cX9_factOf 113 = .ok (.aload_n 0, 1) := do_42 (rdb (p := 96) (i := 17) ch_cX9_factOf_96 rfl)
theorem dX9_factOf_114 : decode cX9_factOf 114 = .ok (.invokevirtual 63, 3) := do_182 (rdb (p := 96) (i := 18) ch_cX9_factOf_96 rfl) (rdb (p := 96) (i := 19) ch_cX9_factOf_96 rfl) (rdb (p := 96) (i := 20) ch_cX9_factOf_96 rfl) rfl
theorem dX9_factOf_117 : decode cX9_factOf 117 = .ok (.ireturn, 1) := do_172 (rdb (p := 96) (i := 21) ch_cX9_factOf_96 rfl)
theorem dX9_factOf_118 : decode cX9_factOf 118 = .ok (.aload_n 0, 1) := do_42 (rdb (p := 96) (i := 22) ch_cX9_factOf_96 rfl)
theorem dX9_factOf_119 : decode cX9_factOf 119 = .ok (.invokevirtual 67, 3) := do_182 (rdb (p := 96) (i := 23) ch_cX9_factOf_96 rfl) (rdb (p := 96) (i := 24) ch_cX9_factOf_96 rfl) (rdb (p := 96) (i := 25) ch_cX9_factOf_96 rfl) rfl
theorem dX9_factOf_122 : decode cX9_factOf 122 = .ok (.ireturn, 1) := do_172 (rdb (p := 96) (i := 26) ch_cX9_factOf_96 rfl)
theorem dX9_factOf_123 : decode cX9_factOf 123 = .ok (.aload_n 0, 1) := do_42 (rdb (p := 96) (i := 27) ch_cX9_factOf_96 rfl)
theorem dX9_factOf_124 : decode cX9_factOf 124 = .ok (.invokevirtual 70, 3) := do_182 (rdb (p := 96) (i := 28) ch_cX9_factOf_96 rfl) (rdb (p := 96) (i := 29) ch_cX9_factOf_96 rfl) (rdb (p := 96) (i := 30) ch_cX9_factOf_96 rfl) rfl
theorem dX9_factOf_127 : decode cX9_factOf 127 = .ok (.ireturn, 1) := do_172 (rdb (p := 96) (i := 31) ch_cX9_factOf_96 rfl)
theorem ch_cX9_held_0 : (cX9_held.data.toList.drop 0).take 36 = [27, 184, 0, 73, 153, 0, 18, 42, 180, 0, 40, 27, 46, 42, 180, 0, 44, 27, 46, 160, 0, 5, 3, 172, 42, 180, 0, 40, 27, 46, 42, 180, 0, 44, 27, 46] := by decide +kernel
theorem dX9_held_0 : decode cX9_held 0 = .ok (.iload_n 1, 1) := do_27 (rdb (p := 0) (i := 0) ch_cX9_held_0 rfl)
theorem dX9_held_1 : decode cX9_held 1 = .ok (.invokestatic 73, 3) := do_184 (rdb (p := 0) (i := 1) ch_cX9_held_0 rfl) (rdb (p := 0) (i := 2) ch_cX9_held_0 rfl) (rdb (p := 0) (i := 3) ch_cX9_held_0 rfl) rfl
theorem dX9_held_4 : decode cX9_held 4 = .ok (.ifCond .eq 18, 3) := do_153 (rdb (p := 0) (i := 4) ch_cX9_held_0 rfl) (rdb (p := 0) (i := 5) ch_cX9_held_0 rfl) (rdb (p := 0) (i := 6) ch_cX9_held_0 rfl) (by decide +kernel)
theorem dX9_held_7 : decode cX9_held 7 = .ok (.aload_n 0, 1) := do_42 (rdb (p := 0) (i := 7) ch_cX9_held_0 rfl)
theorem dX9_held_8 : decode cX9_held 8 = .ok (.getfield 40, 3) := do_180 (rdb (p := 0) (i := 8) ch_cX9_held_0 rfl) (rdb (p := 0) (i := 9) ch_cX9_held_0 rfl) (rdb (p := 0) (i := 10) ch_cX9_held_0 rfl) rfl
theorem dX9_held_11 : decode cX9_held 11 = .ok (.iload_n 1, 1) := do_27 (rdb (p := 0) (i := 11) ch_cX9_held_0 rfl)
theorem dX9_held_12 : decode cX9_held 12 = .ok (.iaload, 1) := do_46 (rdb (p := 0) (i := 12) ch_cX9_held_0 rfl)
theorem dX9_held_13 : decode cX9_held 13 = .ok (.aload_n 0, 1) := do_42 (rdb (p := 0) (i := 13) ch_cX9_held_0 rfl)
theorem dX9_held_14 : decode cX9_held 14 = .ok (.getfield 44, 3) := do_180 (rdb (p := 0) (i := 14) ch_cX9_held_0 rfl) (rdb (p := 0) (i := 15) ch_cX9_held_0 rfl) (rdb (p := 0) (i := 16) ch_cX9_held_0 rfl) rfl
theorem dX9_held_17 : decode cX9_held 17 = .ok (.iload_n 1, 1) := do_27 (rdb (p := 0) (i := 17) ch_cX9_held_0 rfl)
theorem dX9_held_18 : decode cX9_held 18 = .ok (.iaload, 1) := do_46 (rdb (p := 0) (i := 18) ch_cX9_held_0 rfl)
theorem dX9_held_19 : decode cX9_held 19 = .ok (.if_icmp .ne 5, 3) := do_160 (rdb (p := 0) (i := 19) ch_cX9_held_0 rfl) (rdb (p := 0) (i := 20) ch_cX9_held_0 rfl) (rdb (p := 0) (i := 21) ch_cX9_held_0 rfl) (by decide +kernel)
theorem dX9_held_22 : decode cX9_held 22 = .ok (.iconst 0, 1) := do_3 (rdb (p := 0) (i := 22) ch_cX9_held_0 rfl)
theorem dX9_held_23 : decode cX9_held 23 = .ok (.ireturn, 1) := do_172 (rdb (p := 0) (i := 23) ch_cX9_held_0 rfl)
theorem dX9_held_24 : decode cX9_held 24 = .ok (.aload_n 0, 1) := do_42 (rdb (p := 0) (i := 24) ch_cX9_held_0 rfl)
theorem dX9_held_25 : decode cX9_held 25 = .ok (.getfield 40, 3) := do_180 (rdb (p := 0) (i := 25) ch_cX9_held_0 rfl) (rdb (p := 0) (i := 26) ch_cX9_held_0 rfl) (rdb (p := 0) (i := 27) ch_cX9_held_0 rfl) rfl
theorem dX9_held_28 : decode cX9_held 28 = .ok (.iload_n 1, 1) := do_27 (rdb (p := 0) (i := 28) ch_cX9_held_0 rfl)
theorem dX9_held_29 : decode cX9_held 29 = .ok (.iaload, 1) := do_46 (rdb (p := 0) (i := 29) ch_cX9_held_0 rfl)
theorem dX9_held_30 : decode cX9_held 30 = .ok (.aload_n 0, 1) := do_42 (rdb (p := 0) (i := 30) ch_cX9_held_0 rfl)
theorem dX9_held_31 : decode cX9_held 31 = .ok (.getfield 44, 3) := do_180 (rdb (p := 0) (i := 31) ch_cX9_held_0 rfl) (rdb (p := 0) (i := 32) ch_cX9_held_0 rfl) (rdb (p := 0) (i := 33) ch_cX9_held_0 rfl) rfl
theorem ch_cX9_held_32 : (cX9_held.data.toList.drop 32).take 36 = [0, 44, 27, 46, 164, 0, 7, 5, 167, 0, 4, 4, 172] := by decide +kernel
theorem dX9_held_34 : decode cX9_held 34 = .ok (.iload_n 1, 1) := do_27 (rdb (p := 32) (i := 2) ch_cX9_held_32 rfl)
theorem dX9_held_35 : decode cX9_held 35 = .ok (.iaload, 1) := do_46 (rdb (p := 32) (i := 3) ch_cX9_held_32 rfl)
theorem dX9_held_36 : decode cX9_held 36 = .ok (.if_icmp .le 7, 3) := do_164 (rdb (p := 32) (i := 4) ch_cX9_held_32 rfl) (rdb (p := 32) (i := 5) ch_cX9_held_32 rfl) (rdb (p := 32) (i := 6) ch_cX9_held_32 rfl) (by decide +kernel)
theorem dX9_held_39 : decode cX9_held 39 = .ok (.iconst 2, 1) := do_5 (rdb (p := 32) (i := 7) ch_cX9_held_32 rfl)
theorem dX9_held_40 : decode cX9_held 40 = .ok (.goto 4, 3) := do_167 (rdb (p := 32) (i := 8) ch_cX9_held_32 rfl) (rdb (p := 32) (i := 9) ch_cX9_held_32 rfl) (rdb (p := 32) (i := 10) ch_cX9_held_32 rfl) (by decide +kernel)
theorem dX9_held_43 : decode cX9_held 43 = .ok (.iconst 1, 1) := do_4 (rdb (p := 32) (i := 11) ch_cX9_held_32 rfl)
theorem dX9_held_44 : decode cX9_held 44 = .ok (.ireturn, 1) := do_172 (rdb (p := 32) (i := 12) ch_cX9_held_32 rfl)
theorem dX9_isOf_0 : decode cX9_isOf 0 = .ok (.aload_n 0, 1) := by decide +kernel
theorem dX9_isOf_1 : decode cX9_isOf 1 = .ok (.getfield 7, 3) := by decide +kernel
theorem dX9_isOf_4 : decode cX9_isOf 4 = .ok (.istore_n 2, 1) := by decide +kernel
theorem dX9_isOf_5 : decode cX9_isOf 5 = .ok (.iconst 0, 1) := by decide +kernel
theorem dX9_isOf_6 : decode cX9_isOf 6 = .ok (.istore_n 3, 1) := by decide +kernel
theorem dX9_isOf_7 : decode cX9_isOf 7 = .ok (.iload_n 3, 1) := by decide +kernel
theorem dX9_isOf_8 : decode cX9_isOf 8 = .ok (.bipush 8, 2) := by decide +kernel
theorem dX9_isOf_10 : decode cX9_isOf 10 = .ok (.if_icmp .ge 25, 3) := by decide +kernel
theorem dX9_isOf_13 : decode cX9_isOf 13 = .ok (.iload_n 2, 1) := by decide +kernel
theorem dX9_isOf_14 : decode cX9_isOf 14 = .ok (.ifCond .lt 21, 3) := by decide +kernel
theorem dX9_isOf_17 : decode cX9_isOf 17 = .ok (.iload_n 2, 1) := by decide +kernel
theorem dX9_isOf_18 : decode cX9_isOf 18 = .ok (.iload_n 1, 1) := by decide +kernel
theorem dX9_isOf_19 : decode cX9_isOf 19 = .ok (.if_icmp .ne 5, 3) := by decide +kernel
theorem dX9_isOf_22 : decode cX9_isOf 22 = .ok (.iconst 1, 1) := by decide +kernel
theorem dX9_isOf_23 : decode cX9_isOf 23 = .ok (.ireturn, 1) := by decide +kernel
theorem dX9_isOf_24 : decode cX9_isOf 24 = .ok (.iload_n 2, 1) := by decide +kernel
theorem dX9_isOf_25 : decode cX9_isOf 25 = .ok (.invokestatic 50, 3) := by decide +kernel
theorem dX9_isOf_28 : decode cX9_isOf 28 = .ok (.istore_n 2, 1) := by decide +kernel
theorem dX9_isOf_29 : decode cX9_isOf 29 = .ok (.iinc 3 1, 3) := by decide +kernel
theorem dX9_isOf_32 : decode cX9_isOf 32 = .ok (.goto (-25), 3) := by decide +kernel
theorem dX9_isOf_35 : decode cX9_isOf 35 = .ok (.iconst 0, 1) := by decide +kernel
theorem dX9_isOf_36 : decode cX9_isOf 36 = .ok (.ireturn, 1) := by decide +kernel
theorem dX9_ownClick_0 : decode cX9_ownClick 0 = .ok (.bipush 100, 2) := by decide +kernel
theorem dX9_ownClick_2 : decode cX9_ownClick 2 = .ok (.aload_n 0, 1) := by decide +kernel
theorem dX9_ownClick_3 : decode cX9_ownClick 3 = .ok (.getfield 19, 3) := by decide +kernel
theorem dX9_ownClick_6 : decode cX9_ownClick 6 = .ok (.imul, 1) := by decide +kernel
theorem dX9_ownClick_7 : decode cX9_ownClick 7 = .ok (.aload_n 0, 1) := by decide +kernel
theorem dX9_ownClick_8 : decode cX9_ownClick 8 = .ok (.getfield 22, 3) := by decide +kernel
theorem dX9_ownClick_11 : decode cX9_ownClick 11 = .ok (.iadd, 1) := by decide +kernel
theorem dX9_ownClick_12 : decode cX9_ownClick 12 = .ok (.ireturn, 1) := by decide +kernel
theorem dX9_reach_0 : decode cX9_reach 0 = .ok (.aload_n 0, 1) := by decide +kernel
theorem dX9_reach_1 : decode cX9_reach 1 = .ok (.getfield 7, 3) := by decide +kernel
theorem dX9_reach_4 : decode cX9_reach 4 = .ok (.ifCond .lt 23, 3) := by decide +kernel
theorem dX9_reach_7 : decode cX9_reach 7 = .ok (.aload_n 0, 1) := by decide +kernel
theorem dX9_reach_8 : decode cX9_reach 8 = .ok (.getfield 7, 3) := by decide +kernel
theorem dX9_reach_11 : decode cX9_reach 11 = .ok (.bipush 8, 2) := by decide +kernel
theorem dX9_reach_13 : decode cX9_reach 13 = .ok (.if_icmp .ge 14, 3) := by decide +kernel
theorem dX9_reach_16 : decode cX9_reach 16 = .ok (.getstatic 54, 3) := by decide +kernel
theorem dX9_reach_19 : decode cX9_reach 19 = .ok (.aload_n 0, 1) := by decide +kernel
theorem dX9_reach_20 : decode cX9_reach 20 = .ok (.getfield 7, 3) := by decide +kernel
theorem dX9_reach_23 : decode cX9_reach 23 = .ok (.iaload, 1) := by decide +kernel
theorem dX9_reach_24 : decode cX9_reach 24 = .ok (.goto 4, 3) := by decide +kernel
theorem dX9_reach_27 : decode cX9_reach 27 = .ok (.iconst 0, 1) := by decide +kernel
theorem dX9_reach_28 : decode cX9_reach 28 = .ok (.ireturn, 1) := by decide +kernel
theorem dX9_speed_0 : decode cX9_speed 0 = .ok (.aload_n 0, 1) := by decide +kernel
theorem dX9_speed_1 : decode cX9_speed 1 = .ok (.getfield 7, 3) := by decide +kernel
theorem dX9_speed_4 : decode cX9_speed 4 = .ok (.ifCond .lt 23, 3) := by decide +kernel
theorem dX9_speed_7 : decode cX9_speed 7 = .ok (.aload_n 0, 1) := by decide +kernel
theorem dX9_speed_8 : decode cX9_speed 8 = .ok (.getfield 7, 3) := by decide +kernel
theorem dX9_speed_11 : decode cX9_speed 11 = .ok (.bipush 8, 2) := by decide +kernel
theorem dX9_speed_13 : decode cX9_speed 13 = .ok (.if_icmp .ge 14, 3) := by decide +kernel
theorem dX9_speed_16 : decode cX9_speed 16 = .ok (.getstatic 57, 3) := by decide +kernel
theorem dX9_speed_19 : decode cX9_speed 19 = .ok (.aload_n 0, 1) := by decide +kernel
theorem dX9_speed_20 : decode cX9_speed 20 = .ok (.getfield 7, 3) := by decide +kernel
theorem dX9_speed_23 : decode cX9_speed 23 = .ok (.iaload, 1) := by decide +kernel
theorem dX9_speed_24 : decode cX9_speed 24 = .ok (.goto 4, 3) := by decide +kernel
theorem dX9_speed_27 : decode cX9_speed 27 = .ok (.iconst 0, 1) := by decide +kernel
theorem dX9_speed_28 : decode cX9_speed 28 = .ok (.ireturn, 1) := by decide +kernel
theorem ch_cX9_takeFrom_0 : (cX9_takeFrom.data.toList.drop 0).take 36 = [42, 43, 180, 0, 7, 181, 0, 7, 42, 43, 180, 0, 13, 181, 0, 13, 42, 43, 180, 0, 16, 181, 0, 16, 42, 43, 180, 0, 19, 181, 0, 19, 42, 43, 180, 0] := by decide +kernel
theorem dX9_takeFrom_0 : decode cX9_takeFrom 0 = .ok (.aload_n 0, 1) := do_42 (rdb (p := 0) (i := 0) ch_cX9_takeFrom_0 rfl)
theorem dX9_takeFrom_1 : decode cX9_takeFrom 1 = .ok (.aload_n 1, 1) := do_43 (rdb (p := 0) (i := 1) ch_cX9_takeFrom_0 rfl)
theorem dX9_takeFrom_2 : decode cX9_takeFrom 2 = .ok (.getfield 7, 3) := do_180 (rdb (p := 0) (i := 2) ch_cX9_takeFrom_0 rfl) (rdb (p := 0) (i := 3) ch_cX9_takeFrom_0 rfl) (rdb (p := 0) (i := 4) ch_cX9_takeFrom_0 rfl) rfl
theorem dX9_takeFrom_5 : decode cX9_takeFrom 5 = .ok (.putfield 7, 3) := do_181 (rdb (p := 0) (i := 5) ch_cX9_takeFrom_0 rfl) (rdb (p := 0) (i := 6) ch_cX9_takeFrom_0 rfl) (rdb (p := 0) (i := 7) ch_cX9_takeFrom_0 rfl) rfl
theorem dX9_takeFrom_8 : decode cX9_takeFrom 8 = .ok (.aload_n 0, 1) := do_42 (rdb (p := 0) (i := 8) ch_cX9_takeFrom_0 rfl)
theorem dX9_takeFrom_9 : decode cX9_takeFrom 9 = .ok (.aload_n 1, 1) := do_43 (rdb (p := 0) (i := 9) ch_cX9_takeFrom_0 rfl)
theorem dX9_takeFrom_10 : decode cX9_takeFrom 10 = .ok (.getfield 13, 3) := do_180 (rdb (p := 0) (i := 10) ch_cX9_takeFrom_0 rfl) (rdb (p := 0) (i := 11) ch_cX9_takeFrom_0 rfl) (rdb (p := 0) (i := 12) ch_cX9_takeFrom_0 rfl) rfl
theorem dX9_takeFrom_13 : decode cX9_takeFrom 13 = .ok (.putfield 13, 3) := do_181 (rdb (p := 0) (i := 13) ch_cX9_takeFrom_0 rfl) (rdb (p := 0) (i := 14) ch_cX9_takeFrom_0 rfl) (rdb (p := 0) (i := 15) ch_cX9_takeFrom_0 rfl) rfl
theorem dX9_takeFrom_16 : decode cX9_takeFrom 16 = .ok (.aload_n 0, 1) := do_42 (rdb (p := 0) (i := 16) ch_cX9_takeFrom_0 rfl)
theorem dX9_takeFrom_17 : decode cX9_takeFrom 17 = .ok (.aload_n 1, 1) := do_43 (rdb (p := 0) (i := 17) ch_cX9_takeFrom_0 rfl)
theorem dX9_takeFrom_18 : decode cX9_takeFrom 18 = .ok (.getfield 16, 3) := do_180 (rdb (p := 0) (i := 18) ch_cX9_takeFrom_0 rfl) (rdb (p := 0) (i := 19) ch_cX9_takeFrom_0 rfl) (rdb (p := 0) (i := 20) ch_cX9_takeFrom_0 rfl) rfl
theorem dX9_takeFrom_21 : decode cX9_takeFrom 21 = .ok (.putfield 16, 3) := do_181 (rdb (p := 0) (i := 21) ch_cX9_takeFrom_0 rfl) (rdb (p := 0) (i := 22) ch_cX9_takeFrom_0 rfl) (rdb (p := 0) (i := 23) ch_cX9_takeFrom_0 rfl) rfl
theorem dX9_takeFrom_24 : decode cX9_takeFrom 24 = .ok (.aload_n 0, 1) := do_42 (rdb (p := 0) (i := 24) ch_cX9_takeFrom_0 rfl)
theorem dX9_takeFrom_25 : decode cX9_takeFrom 25 = .ok (.aload_n 1, 1) := do_43 (rdb (p := 0) (i := 25) ch_cX9_takeFrom_0 rfl)
theorem dX9_takeFrom_26 : decode cX9_takeFrom 26 = .ok (.getfield 19, 3) := do_180 (rdb (p := 0) (i := 26) ch_cX9_takeFrom_0 rfl) (rdb (p := 0) (i := 27) ch_cX9_takeFrom_0 rfl) (rdb (p := 0) (i := 28) ch_cX9_takeFrom_0 rfl) rfl
theorem dX9_takeFrom_29 : decode cX9_takeFrom 29 = .ok (.putfield 19, 3) := do_181 (rdb (p := 0) (i := 29) ch_cX9_takeFrom_0 rfl) (rdb (p := 0) (i := 30) ch_cX9_takeFrom_0 rfl) (rdb (p := 0) (i := 31) ch_cX9_takeFrom_0 rfl) rfl
theorem ch_cX9_takeFrom_32 : (cX9_takeFrom.data.toList.drop 32).take 36 = [42, 43, 180, 0, 22, 181, 0, 22, 42, 43, 180, 0, 25, 181, 0, 25, 42, 43, 180, 0, 28, 181, 0, 28, 42, 43, 180, 0, 32, 181, 0, 32, 42, 43, 180, 0] := by decide +kernel
theorem dX9_takeFrom_32 : decode cX9_takeFrom 32 = .ok (.aload_n 0, 1) := do_42 (rdb (p := 32) (i := 0) ch_cX9_takeFrom_32 rfl)
theorem dX9_takeFrom_33 : decode cX9_takeFrom 33 = .ok (.aload_n 1, 1) := do_43 (rdb (p := 32) (i := 1) ch_cX9_takeFrom_32 rfl)
theorem dX9_takeFrom_34 : decode cX9_takeFrom 34 = .ok (.getfield 22, 3) := do_180 (rdb (p := 32) (i := 2) ch_cX9_takeFrom_32 rfl) (rdb (p := 32) (i := 3) ch_cX9_takeFrom_32 rfl) (rdb (p := 32) (i := 4) ch_cX9_takeFrom_32 rfl) rfl
theorem dX9_takeFrom_37 : decode cX9_takeFrom 37 = .ok (.putfield 22, 3) := do_181 (rdb (p := 32) (i := 5) ch_cX9_takeFrom_32 rfl) (rdb (p := 32) (i := 6) ch_cX9_takeFrom_32 rfl) (rdb (p := 32) (i := 7) ch_cX9_takeFrom_32 rfl) rfl
theorem dX9_takeFrom_40 : decode cX9_takeFrom 40 = .ok (.aload_n 0, 1) := do_42 (rdb (p := 32) (i := 8) ch_cX9_takeFrom_32 rfl)
theorem dX9_takeFrom_41 : decode cX9_takeFrom 41 = .ok (.aload_n 1, 1) := do_43 (rdb (p := 32) (i := 9) ch_cX9_takeFrom_32 rfl)
theorem dX9_takeFrom_42 : decode cX9_takeFrom 42 = .ok (.getfield 25, 3) := do_180 (rdb (p := 32) (i := 10) ch_cX9_takeFrom_32 rfl) (rdb (p := 32) (i := 11) ch_cX9_takeFrom_32 rfl) (rdb (p := 32) (i := 12) ch_cX9_takeFrom_32 rfl) rfl
theorem dX9_takeFrom_45 : decode cX9_takeFrom 45 = .ok (.putfield 25, 3) := do_181 (rdb (p := 32) (i := 13) ch_cX9_takeFrom_32 rfl) (rdb (p := 32) (i := 14) ch_cX9_takeFrom_32 rfl) (rdb (p := 32) (i := 15) ch_cX9_takeFrom_32 rfl) rfl
theorem dX9_takeFrom_48 : decode cX9_takeFrom 48 = .ok (.aload_n 0, 1) := do_42 (rdb (p := 32) (i := 16) ch_cX9_takeFrom_32 rfl)
theorem dX9_takeFrom_49 : decode cX9_takeFrom 49 = .ok (.aload_n 1, 1) := do_43 (rdb (p := 32) (i := 17) ch_cX9_takeFrom_32 rfl)
theorem dX9_takeFrom_50 : decode cX9_takeFrom 50 = .ok (.getfield 28, 3) := do_180 (rdb (p := 32) (i := 18) ch_cX9_takeFrom_32 rfl) (rdb (p := 32) (i := 19) ch_cX9_takeFrom_32 rfl) (rdb (p := 32) (i := 20) ch_cX9_takeFrom_32 rfl) rfl
theorem dX9_takeFrom_53 : decode cX9_takeFrom 53 = .ok (.putfield 28, 3) := do_181 (rdb (p := 32) (i := 21) ch_cX9_takeFrom_32 rfl) (rdb (p := 32) (i := 22) ch_cX9_takeFrom_32 rfl) (rdb (p := 32) (i := 23) ch_cX9_takeFrom_32 rfl) rfl
theorem dX9_takeFrom_56 : decode cX9_takeFrom 56 = .ok (.aload_n 0, 1) := do_42 (rdb (p := 32) (i := 24) ch_cX9_takeFrom_32 rfl)
theorem dX9_takeFrom_57 : decode cX9_takeFrom 57 = .ok (.aload_n 1, 1) := do_43 (rdb (p := 32) (i := 25) ch_cX9_takeFrom_32 rfl)
theorem dX9_takeFrom_58 : decode cX9_takeFrom 58 = .ok (.getfield 32, 3) := do_180 (rdb (p := 32) (i := 26) ch_cX9_takeFrom_32 rfl) (rdb (p := 32) (i := 27) ch_cX9_takeFrom_32 rfl) (rdb (p := 32) (i := 28) ch_cX9_takeFrom_32 rfl) rfl
theorem dX9_takeFrom_61 : decode cX9_takeFrom 61 = .ok (.putfield 32, 3) := do_181 (rdb (p := 32) (i := 29) ch_cX9_takeFrom_32 rfl) (rdb (p := 32) (i := 30) ch_cX9_takeFrom_32 rfl) (rdb (p := 32) (i := 31) ch_cX9_takeFrom_32 rfl) rfl
theorem ch_cX9_takeFrom_64 : (cX9_takeFrom.data.toList.drop 64).take 36 = [42, 43, 180, 0, 35, 181, 0, 35, 43, 180, 0, 40, 3, 42, 180, 0, 40, 3, 17, 0, 192, 184, 0, 90, 43, 180, 0, 44, 3, 42, 180, 0, 44, 3, 17, 0] := by decide +kernel
theorem dX9_takeFrom_64 : decode cX9_takeFrom 64 = .ok (.aload_n 0, 1) := do_42 (rdb (p := 64) (i := 0) ch_cX9_takeFrom_64 rfl)
theorem dX9_takeFrom_65 : decode cX9_takeFrom 65 = .ok (.aload_n 1, 1) := do_43 (rdb (p := 64) (i := 1) ch_cX9_takeFrom_64 rfl)
theorem dX9_takeFrom_66 : decode cX9_takeFrom 66 = .ok (.getfield 35, 3) := do_180 (rdb (p := 64) (i := 2) ch_cX9_takeFrom_64 rfl) (rdb (p := 64) (i := 3) ch_cX9_takeFrom_64 rfl) (rdb (p := 64) (i := 4) ch_cX9_takeFrom_64 rfl) rfl
theorem dX9_takeFrom_69 : decode cX9_takeFrom 69 = .ok (.putfield 35, 3) := do_181 (rdb (p := 64) (i := 5) ch_cX9_takeFrom_64 rfl) (rdb (p := 64) (i := 6) ch_cX9_takeFrom_64 rfl) (rdb (p := 64) (i := 7) ch_cX9_takeFrom_64 rfl) rfl
theorem dX9_takeFrom_72 : decode cX9_takeFrom 72 = .ok (.aload_n 1, 1) := do_43 (rdb (p := 64) (i := 8) ch_cX9_takeFrom_64 rfl)
theorem dX9_takeFrom_73 : decode cX9_takeFrom 73 = .ok (.getfield 40, 3) := do_180 (rdb (p := 64) (i := 9) ch_cX9_takeFrom_64 rfl) (rdb (p := 64) (i := 10) ch_cX9_takeFrom_64 rfl) (rdb (p := 64) (i := 11) ch_cX9_takeFrom_64 rfl) rfl
theorem dX9_takeFrom_76 : decode cX9_takeFrom 76 = .ok (.iconst 0, 1) := do_3 (rdb (p := 64) (i := 12) ch_cX9_takeFrom_64 rfl)
theorem dX9_takeFrom_77 : decode cX9_takeFrom 77 = .ok (.aload_n 0, 1) := do_42 (rdb (p := 64) (i := 13) ch_cX9_takeFrom_64 rfl)
theorem dX9_takeFrom_78 : decode cX9_takeFrom 78 = .ok (.getfield 40, 3) := do_180 (rdb (p := 64) (i := 14) ch_cX9_takeFrom_64 rfl) (rdb (p := 64) (i := 15) ch_cX9_takeFrom_64 rfl) (rdb (p := 64) (i := 16) ch_cX9_takeFrom_64 rfl) rfl
theorem dX9_takeFrom_81 : decode cX9_takeFrom 81 = .ok (.iconst 0, 1) := do_3 (rdb (p := 64) (i := 17) ch_cX9_takeFrom_64 rfl)
theorem dX9_takeFrom_82 : decode cX9_takeFrom 82 = .ok (.sipush 192, 3) := do_17 (rdb (p := 64) (i := 18) ch_cX9_takeFrom_64 rfl) (rdb (p := 64) (i := 19) ch_cX9_takeFrom_64 rfl) (rdb (p := 64) (i := 20) ch_cX9_takeFrom_64 rfl) (by decide +kernel)
theorem dX9_takeFrom_85 : decode cX9_takeFrom 85 = .ok (.invokestatic 90, 3) := do_184 (rdb (p := 64) (i := 21) ch_cX9_takeFrom_64 rfl) (rdb (p := 64) (i := 22) ch_cX9_takeFrom_64 rfl) (rdb (p := 64) (i := 23) ch_cX9_takeFrom_64 rfl) rfl
theorem dX9_takeFrom_88 : decode cX9_takeFrom 88 = .ok (.aload_n 1, 1) := do_43 (rdb (p := 64) (i := 24) ch_cX9_takeFrom_64 rfl)
theorem dX9_takeFrom_89 : decode cX9_takeFrom 89 = .ok (.getfield 44, 3) := do_180 (rdb (p := 64) (i := 25) ch_cX9_takeFrom_64 rfl) (rdb (p := 64) (i := 26) ch_cX9_takeFrom_64 rfl) (rdb (p := 64) (i := 27) ch_cX9_takeFrom_64 rfl) rfl
theorem dX9_takeFrom_92 : decode cX9_takeFrom 92 = .ok (.iconst 0, 1) := do_3 (rdb (p := 64) (i := 28) ch_cX9_takeFrom_64 rfl)
theorem dX9_takeFrom_93 : decode cX9_takeFrom 93 = .ok (.aload_n 0, 1) := do_42 (rdb (p := 64) (i := 29) ch_cX9_takeFrom_64 rfl)
theorem dX9_takeFrom_94 : decode cX9_takeFrom 94 = .ok (.getfield 44, 3) := do_180 (rdb (p := 64) (i := 30) ch_cX9_takeFrom_64 rfl) (rdb (p := 64) (i := 31) ch_cX9_takeFrom_64 rfl) (rdb (p := 64) (i := 32) ch_cX9_takeFrom_64 rfl) rfl
theorem ch_cX9_takeFrom_96 : (cX9_takeFrom.data.toList.drop 96).take 36 = [44, 3, 17, 0, 192, 184, 0, 90, 177] := by decide +kernel
theorem dX9_takeFrom_97 : decode cX9_takeFrom 97 = .ok (.iconst 0, 1) := do_3 (rdb (p := 96) (i := 1) ch_cX9_takeFrom_96 rfl)
theorem dX9_takeFrom_98 : decode cX9_takeFrom 98 = .ok (.sipush 192, 3) := do_17 (rdb (p := 96) (i := 2) ch_cX9_takeFrom_96 rfl) (rdb (p := 96) (i := 3) ch_cX9_takeFrom_96 rfl) (rdb (p := 96) (i := 4) ch_cX9_takeFrom_96 rfl) (by decide +kernel)
theorem dX9_takeFrom_101 : decode cX9_takeFrom 101 = .ok (.invokestatic 90, 3) := do_184 (rdb (p := 96) (i := 5) ch_cX9_takeFrom_96 rfl) (rdb (p := 96) (i := 6) ch_cX9_takeFrom_96 rfl) (rdb (p := 96) (i := 7) ch_cX9_takeFrom_96 rfl) rfl
theorem dX9_takeFrom_104 : decode cX9_takeFrom 104 = .ok (.return_, 1) := do_177 (rdb (p := 96) (i := 8) ch_cX9_takeFrom_96 rfl)
theorem dX9_turn_0 : decode cX9_turn 0 = .ok (.aload_n 0, 1) := by decide +kernel
theorem dX9_turn_1 : decode cX9_turn 1 = .ok (.aload_n 0, 1) := by decide +kernel
theorem dX9_turn_2 : decode cX9_turn 2 = .ok (.getfield 16, 3) := by decide +kernel
theorem dX9_turn_5 : decode cX9_turn 5 = .ok (.iload_n 1, 1) := by decide +kernel
theorem dX9_turn_6 : decode cX9_turn 6 = .ok (.iadd, 1) := by decide +kernel
theorem dX9_turn_7 : decode cX9_turn 7 = .ok (.bipush 7, 2) := by decide +kernel
theorem dX9_turn_9 : decode cX9_turn 9 = .ok (.iand, 1) := by decide +kernel
theorem dX9_turn_10 : decode cX9_turn 10 = .ok (.putfield 16, 3) := by decide +kernel
theorem dX9_turn_13 : decode cX9_turn 13 = .ok (.return_, 1) := by decide +kernel
theorem dX9_yardsHeldFree_0 : decode cX9_yardsHeldFree 0 = .ok (.iconst 0, 1) := by decide +kernel
theorem dX9_yardsHeldFree_1 : decode cX9_yardsHeldFree 1 = .ok (.istore_n 1, 1) := by decide +kernel
theorem dX9_yardsHeldFree_2 : decode cX9_yardsHeldFree 2 = .ok (.iload_n 1, 1) := by decide +kernel
theorem dX9_yardsHeldFree_3 : decode cX9_yardsHeldFree 3 = .ok (.bipush 15, 2) := by decide +kernel
theorem dX9_yardsHeldFree_5 : decode cX9_yardsHeldFree 5 = .ok (.if_icmp .ge 31, 3) := by decide +kernel
theorem dX9_yardsHeldFree_8 : decode cX9_yardsHeldFree 8 = .ok (.aload_n 0, 1) := by decide +kernel
theorem dX9_yardsHeldFree_9 : decode cX9_yardsHeldFree 9 = .ok (.aload_n 0, 1) := by decide +kernel
theorem dX9_yardsHeldFree_10 : decode cX9_yardsHeldFree 10 = .ok (.getfield 13, 3) := by decide +kernel
theorem dX9_yardsHeldFree_13 : decode cX9_yardsHeldFree 13 = .ok (.aload_n 0, 1) := by decide +kernel
theorem dX9_yardsHeldFree_14 : decode cX9_yardsHeldFree 14 = .ok (.getfield 16, 3) := by decide +kernel
theorem dX9_yardsHeldFree_17 : decode cX9_yardsHeldFree 17 = .ok (.iload_n 1, 1) := by decide +kernel
theorem dX9_yardsHeldFree_18 : decode cX9_yardsHeldFree 18 = .ok (.iconst 1, 1) := by decide +kernel
theorem dX9_yardsHeldFree_19 : decode cX9_yardsHeldFree 19 = .ok (.iadd, 1) := by decide +kernel
theorem dX9_yardsHeldFree_20 : decode cX9_yardsHeldFree 20 = .ok (.invokestatic 86, 3) := by decide +kernel
theorem dX9_yardsHeldFree_23 : decode cX9_yardsHeldFree 23 = .ok (.invokevirtual 83, 3) := by decide +kernel
theorem dX9_yardsHeldFree_26 : decode cX9_yardsHeldFree 26 = .ok (.iconst 1, 1) := by decide +kernel
theorem dX9_yardsHeldFree_27 : decode cX9_yardsHeldFree 27 = .ok (.if_icmp .ne 9, 3) := by decide +kernel
theorem dX9_yardsHeldFree_30 : decode cX9_yardsHeldFree 30 = .ok (.iinc 1 1, 3) := by decide +kernel
theorem dX9_yardsHeldFree_33 : decode cX9_yardsHeldFree 33 = .ok (.goto (-31), 3) := by decide +kernel
theorem dX9_yardsHeldFree_36 : decode cX9_yardsHeldFree 36 = .ok (.iload_n 1, 1) := by decide +kernel
theorem dX9_yardsHeldFree_37 : decode cX9_yardsHeldFree 37 = .ok (.ireturn, 1) := by decide +kernel
theorem dX9_yardsToFull_0 : decode cX9_yardsToFull 0 = .ok (.iconst 1, 1) := by decide +kernel
theorem dX9_yardsToFull_1 : decode cX9_yardsToFull 1 = .ok (.istore_n 2, 1) := by decide +kernel
theorem dX9_yardsToFull_2 : decode cX9_yardsToFull 2 = .ok (.iload_n 2, 1) := by decide +kernel
theorem dX9_yardsToFull_3 : decode cX9_yardsToFull 3 = .ok (.bipush 9, 2) := by decide +kernel
theorem dX9_yardsToFull_5 : decode cX9_yardsToFull 5 = .ok (.if_icmp .gt 28, 3) := by decide +kernel
theorem dX9_yardsToFull_8 : decode cX9_yardsToFull 8 = .ok (.aload_n 0, 1) := by decide +kernel
theorem dX9_yardsToFull_9 : decode cX9_yardsToFull 9 = .ok (.aload_n 0, 1) := by decide +kernel
theorem dX9_yardsToFull_10 : decode cX9_yardsToFull 10 = .ok (.getfield 13, 3) := by decide +kernel
theorem dX9_yardsToFull_13 : decode cX9_yardsToFull 13 = .ok (.iload_n 1, 1) := by decide +kernel
theorem dX9_yardsToFull_14 : decode cX9_yardsToFull 14 = .ok (.iload_n 2, 1) := by decide +kernel
theorem dX9_yardsToFull_15 : decode cX9_yardsToFull 15 = .ok (.invokestatic 86, 3) := by decide +kernel
theorem dX9_yardsToFull_18 : decode cX9_yardsToFull 18 = .ok (.invokevirtual 83, 3) := by decide +kernel
theorem dX9_yardsToFull_21 : decode cX9_yardsToFull 21 = .ok (.iconst 2, 1) := by decide +kernel
theorem dX9_yardsToFull_22 : decode cX9_yardsToFull 22 = .ok (.if_icmp .ne 5, 3) := by decide +kernel
theorem dX9_yardsToFull_25 : decode cX9_yardsToFull 25 = .ok (.iload_n 2, 1) := by decide +kernel
theorem dX9_yardsToFull_26 : decode cX9_yardsToFull 26 = .ok (.ireturn, 1) := by decide +kernel
theorem dX9_yardsToFull_27 : decode cX9_yardsToFull 27 = .ok (.iinc 2 1, 3) := by decide +kernel
theorem dX9_yardsToFull_30 : decode cX9_yardsToFull 30 = .ok (.goto (-28), 3) := by decide +kernel
theorem dX9_yardsToFull_33 : decode cX9_yardsToFull 33 = .ok (.iconst 0, 1) := by decide +kernel
theorem dX9_yardsToFull_34 : decode cX9_yardsToFull 34 = .ok (.ireturn, 1) := by decide +kernel
end
section
def SP_X9_reach (b : Nat) (w : Nat) (Mz : mM) (r_ : Int32) : Prop := ∃ z1_ : Int32, (z1_ = Mz.1 (9, b, w) 0) ∧ (((z1_.toInt < 0) ∧ r_ = 0) ∨ ((0 ≤ z1_.toInt) ∧ (((8 ≤ z1_.toInt) ∧ r_ = 0) ∨ ((z1_.toInt < 8) ∧ ∃ j11_ : Nat, ((j11_ : Int) = z1_.toInt) ∧ ∃ z9_ : Int32, (z9_ = ([3, 12, 1, 6, 0, 6, 5, 10] : List Int32).getD j11_ 0) ∧ (0 ≤ z9_.toInt ∧ z9_.toInt ≤ 12) ∧ r_ = z9_))))
theorem lf_c_X9_reach_0 : 0 ≤ (0 : Int32).toInt ∧ (0 : Int32).toInt ≤ 12 := by have r9 := li_0; omega
theorem lf_c_X9_reach_3 (z1_ : Int32) (j11_ : Nat) (h6_ : z1_.toInt < 8) (h12_ : (j11_ : Int) = z1_.toInt) : j11_ < 8 := by omega
set_option maxHeartbeats 4000000 in
set_option maxRecDepth 100000 in
theorem c_X9_reach (l : Launch) (G : va_G) (cy : Nat → ClassId) (ad : rf → Nat) (d : Nat) (b : Nat) (w : Nat) (Mz : mM) (hIz : Inv Mz) (hb : b < 3) (hw : w < 8) : WP CC l G cy ad yX9_reach cX9_reach 1 (some .int) d 0 [(0, vR (9, b, w))] [] Mz (fun r M' => Mz = M' ∧ (0 ≤ r.toInt ∧ r.toInt ≤ 12) ∧ SP_X9_reach b w Mz r) := by
  refine w_aload_n dX9_reach_0 rfl 0 rfl ?_
  refine w_getI fl_RX9_7 rfl rfl (ic_9 hb hw) dX9_reach_1 (fun z1_ e2_ => ?_)
  refine w_if_lt (tgt := 27) dX9_reach_4 (by decide) (rfl : z1_.toInt = z1_.toInt) (fun h3_ => ?_) (fun h3_ => ?_)
  · refine w_iconst (v := 0) dX9_reach_27 (by decide) ?_
    exact w_iret rfl dX9_reach_28 ⟨rfl, (lf_c_X9_reach_0 ), ⟨z1_, e2_, (Or.inl ⟨h3_, rfl⟩)⟩⟩
  · refine w_aload_n dX9_reach_7 rfl 0 rfl ?_
    refine w_getI fl_RX9_7 rfl rfl (ic_9 hb hw) dX9_reach_8 (fun z4_ e5_ => ?_)
    obtain rfl : z1_ = z4_ := e2_.trans e5_.symm
    refine w_bipush (v := 8) dX9_reach_11 (by decide) ?_
    refine w_icmp_ge (tgt := 27) dX9_reach_13 (by decide) (rfl : z1_.toInt = z1_.toInt) li_8 (fun h6_ => ?_) (fun h6_ => ?_)
    · refine w_iconst (v := 0) dX9_reach_27 (by decide) ?_
      exact w_iret rfl dX9_reach_28 ⟨rfl, (lf_c_X9_reach_0 ), ⟨z1_, e2_, (Or.inr ⟨h3_, (Or.inl ⟨h6_, rfl⟩)⟩)⟩⟩
    · refine w_gets (k := 0) rfl m_621 dX9_reach_16 ?_
      refine w_aload_n dX9_reach_19 rfl 0 rfl ?_
      refine w_getI fl_RX9_7 rfl rfl (ic_9 hb hw) dX9_reach_20 (fun z7_ e8_ => ?_)
      obtain rfl : z1_ = z7_ := e2_.trans e8_.symm
      refine w_iaT (k := 0) rfl (rfl : z1_.toInt = z1_.toInt) (lf_c_X9_kindAbove_0 z1_ h3_ h6_ ) dX9_reach_23 (fun j11_ h12_ z9_ e10_ => ?_)
      have h13_ : 0 ≤ z9_.toInt ∧ z9_.toInt ≤ 12 := by rw [e10_]; exact stb_0 j11_ (lf_c_X9_reach_3 z1_ j11_ h6_ h12_ )
      refine w_goto (tgt := 28) dX9_reach_24 (by decide) ?_
      exact w_iret rfl dX9_reach_28 ⟨rfl, h13_, ⟨z1_, e2_, (Or.inr ⟨h3_, (Or.inr ⟨h6_, j11_, h12_, z9_, e10_, h13_, rfl⟩)⟩)⟩⟩
def SP_X9_speed (b : Nat) (w : Nat) (Mz : mM) (r_ : Int32) : Prop := ∃ z1_ : Int32, (z1_ = Mz.1 (9, b, w) 0) ∧ (((z1_.toInt < 0) ∧ r_ = 0) ∨ ((0 ≤ z1_.toInt) ∧ (((8 ≤ z1_.toInt) ∧ r_ = 0) ∨ ((z1_.toInt < 8) ∧ ∃ j11_ : Nat, ((j11_ : Int) = z1_.toInt) ∧ ∃ z9_ : Int32, (z9_ = ([1, 1, 1, 1, 1, 1, 1, 2] : List Int32).getD j11_ 0) ∧ (1 ≤ z9_.toInt ∧ z9_.toInt ≤ 2) ∧ r_ = z9_))))
theorem lf_c_X9_speed_0 : 0 ≤ (0 : Int32).toInt ∧ (0 : Int32).toInt ≤ 2 := by have r9 := li_0; omega
theorem lf_c_X9_speed_4 (z9_ : Int32) (h13_ : 1 ≤ z9_.toInt ∧ z9_.toInt ≤ 2) : 0 ≤ z9_.toInt ∧ z9_.toInt ≤ 2 := by omega
set_option maxHeartbeats 4000000 in
set_option maxRecDepth 100000 in
theorem c_X9_speed (l : Launch) (G : va_G) (cy : Nat → ClassId) (ad : rf → Nat) (d : Nat) (b : Nat) (w : Nat) (Mz : mM) (hIz : Inv Mz) (hb : b < 3) (hw : w < 8) : WP CC l G cy ad yX9_speed cX9_speed 1 (some .int) d 0 [(0, vR (9, b, w))] [] Mz (fun r M' => Mz = M' ∧ (0 ≤ r.toInt ∧ r.toInt ≤ 2) ∧ SP_X9_speed b w Mz r) := by
  refine w_aload_n dX9_speed_0 rfl 0 rfl ?_
  refine w_getI fl_RX9_7 rfl rfl (ic_9 hb hw) dX9_speed_1 (fun z1_ e2_ => ?_)
  refine w_if_lt (tgt := 27) dX9_speed_4 (by decide) (rfl : z1_.toInt = z1_.toInt) (fun h3_ => ?_) (fun h3_ => ?_)
  · refine w_iconst (v := 0) dX9_speed_27 (by decide) ?_
    exact w_iret rfl dX9_speed_28 ⟨rfl, (lf_c_X9_speed_0 ), ⟨z1_, e2_, (Or.inl ⟨h3_, rfl⟩)⟩⟩
  · refine w_aload_n dX9_speed_7 rfl 0 rfl ?_
    refine w_getI fl_RX9_7 rfl rfl (ic_9 hb hw) dX9_speed_8 (fun z4_ e5_ => ?_)
    obtain rfl : z1_ = z4_ := e2_.trans e5_.symm
    refine w_bipush (v := 8) dX9_speed_11 (by decide) ?_
    refine w_icmp_ge (tgt := 27) dX9_speed_13 (by decide) (rfl : z1_.toInt = z1_.toInt) li_8 (fun h6_ => ?_) (fun h6_ => ?_)
    · refine w_iconst (v := 0) dX9_speed_27 (by decide) ?_
      exact w_iret rfl dX9_speed_28 ⟨rfl, (lf_c_X9_speed_0 ), ⟨z1_, e2_, (Or.inr ⟨h3_, (Or.inl ⟨h6_, rfl⟩)⟩)⟩⟩
    · refine w_gets (k := 1) rfl m_627 dX9_speed_16 ?_
      refine w_aload_n dX9_speed_19 rfl 0 rfl ?_
      refine w_getI fl_RX9_7 rfl rfl (ic_9 hb hw) dX9_speed_20 (fun z7_ e8_ => ?_)
      obtain rfl : z1_ = z7_ := e2_.trans e8_.symm
      refine w_iaT (k := 1) rfl (rfl : z1_.toInt = z1_.toInt) (lf_c_X9_kindAbove_0 z1_ h3_ h6_ ) dX9_speed_23 (fun j11_ h12_ z9_ e10_ => ?_)
      have h13_ : 1 ≤ z9_.toInt ∧ z9_.toInt ≤ 2 := by rw [e10_]; exact stb_1 j11_ (lf_c_X9_reach_3 z1_ j11_ h6_ h12_ )
      refine w_goto (tgt := 28) dX9_speed_24 (by decide) ?_
      exact w_iret rfl dX9_speed_28 ⟨rfl, (lf_c_X9_speed_4 z9_ h13_ ), ⟨z1_, e2_, (Or.inr ⟨h3_, (Or.inr ⟨h6_, j11_, h12_, z9_, e10_, h13_, rfl⟩)⟩)⟩⟩
def SP_X9_ears (b : Nat) (w : Nat) (Mz : mM) (r_ : Int32) : Prop := ∃ z1_ : Int32, (z1_ = Mz.1 (9, b, w) 0) ∧ (((z1_.toInt < 0) ∧ r_ = 0) ∨ ((0 ≤ z1_.toInt) ∧ (((8 ≤ z1_.toInt) ∧ r_ = 0) ∨ ((z1_.toInt < 8) ∧ ∃ j11_ : Nat, ((j11_ : Int) = z1_.toInt) ∧ ∃ z9_ : Int32, (z9_ = ([9, 9, 9, 9, 9, 9, 5, 9] : List Int32).getD j11_ 0) ∧ (5 ≤ z9_.toInt ∧ z9_.toInt ≤ 9) ∧ r_ = z9_))))
theorem lf_c_X9_ears_0 : 0 ≤ (0 : Int32).toInt ∧ (0 : Int32).toInt ≤ 9 := by have r9 := li_0; omega
theorem lf_c_X9_ears_4 (z9_ : Int32) (h13_ : 5 ≤ z9_.toInt ∧ z9_.toInt ≤ 9) : 0 ≤ z9_.toInt ∧ z9_.toInt ≤ 9 := by omega
set_option maxHeartbeats 4000000 in
set_option maxRecDepth 100000 in
theorem c_X9_ears (l : Launch) (G : va_G) (cy : Nat → ClassId) (ad : rf → Nat) (d : Nat) (b : Nat) (w : Nat) (Mz : mM) (hIz : Inv Mz) (hb : b < 3) (hw : w < 8) : WP CC l G cy ad yX9_ears cX9_ears 1 (some .int) d 0 [(0, vR (9, b, w))] [] Mz (fun r M' => Mz = M' ∧ (0 ≤ r.toInt ∧ r.toInt ≤ 9) ∧ SP_X9_ears b w Mz r) := by
  refine w_aload_n dX9_ears_0 rfl 0 rfl ?_
  refine w_getI fl_RX9_7 rfl rfl (ic_9 hb hw) dX9_ears_1 (fun z1_ e2_ => ?_)
  refine w_if_lt (tgt := 27) dX9_ears_4 (by decide) (rfl : z1_.toInt = z1_.toInt) (fun h3_ => ?_) (fun h3_ => ?_)
  · refine w_iconst (v := 0) dX9_ears_27 (by decide) ?_
    exact w_iret rfl dX9_ears_28 ⟨rfl, (lf_c_X9_ears_0 ), ⟨z1_, e2_, (Or.inl ⟨h3_, rfl⟩)⟩⟩
  · refine w_aload_n dX9_ears_7 rfl 0 rfl ?_
    refine w_getI fl_RX9_7 rfl rfl (ic_9 hb hw) dX9_ears_8 (fun z4_ e5_ => ?_)
    obtain rfl : z1_ = z4_ := e2_.trans e5_.symm
    refine w_bipush (v := 8) dX9_ears_11 (by decide) ?_
    refine w_icmp_ge (tgt := 27) dX9_ears_13 (by decide) (rfl : z1_.toInt = z1_.toInt) li_8 (fun h6_ => ?_) (fun h6_ => ?_)
    · refine w_iconst (v := 0) dX9_ears_27 (by decide) ?_
      exact w_iret rfl dX9_ears_28 ⟨rfl, (lf_c_X9_ears_0 ), ⟨z1_, e2_, (Or.inr ⟨h3_, (Or.inl ⟨h6_, rfl⟩)⟩)⟩⟩
    · refine w_gets (k := 2) rfl m_633 dX9_ears_16 ?_
      refine w_aload_n dX9_ears_19 rfl 0 rfl ?_
      refine w_getI fl_RX9_7 rfl rfl (ic_9 hb hw) dX9_ears_20 (fun z7_ e8_ => ?_)
      obtain rfl : z1_ = z7_ := e2_.trans e8_.symm
      refine w_iaT (k := 2) rfl (rfl : z1_.toInt = z1_.toInt) (lf_c_X9_kindAbove_0 z1_ h3_ h6_ ) dX9_ears_23 (fun j11_ h12_ z9_ e10_ => ?_)
      have h13_ : 5 ≤ z9_.toInt ∧ z9_.toInt ≤ 9 := by rw [e10_]; exact stb_2 j11_ (lf_c_X9_reach_3 z1_ j11_ h6_ h12_ )
      refine w_goto (tgt := 28) dX9_ears_24 (by decide) ?_
      exact w_iret rfl dX9_ears_28 ⟨rfl, (lf_c_X9_ears_4 z9_ h13_ ), ⟨z1_, e2_, (Or.inr ⟨h3_, (Or.inr ⟨h6_, j11_, h12_, z9_, e10_, h13_, rfl⟩)⟩)⟩⟩
def SP_X9_ownClick (b : Nat) (w : Nat) (Mz : mM) (r_ : Int32) : Prop := ∃ z1_ : Int32, (z1_ = Mz.1 (9, b, w) 3) ∧ ∃ z3_ : Int32, (z3_ = (100 : Int32) * z1_) ∧ ∃ z5_ : Int32, (z5_ = Mz.1 (9, b, w) 4) ∧ ∃ z7_ : Int32, (z7_ = z3_ + z5_) ∧ r_ = z7_
set_option maxHeartbeats 4000000 in
set_option maxRecDepth 100000 in
theorem c_X9_ownClick (l : Launch) (G : va_G) (cy : Nat → ClassId) (ad : rf → Nat) (d : Nat) (b : Nat) (w : Nat) (Mz : mM) (hIz : Inv Mz) (hb : b < 3) (hw : w < 8) : WP CC l G cy ad yX9_ownClick cX9_ownClick 1 (some .int) d 0 [(0, vR (9, b, w))] [] Mz (fun r M' => Mz = M' ∧ (True) ∧ SP_X9_ownClick b w Mz r) := by
  refine w_bipush (v := 100) dX9_ownClick_0 (by decide) ?_
  refine w_aload_n dX9_ownClick_2 rfl 0 rfl ?_
  refine w_getI fl_RX9_19 rfl rfl (ic_9 hb hw) dX9_ownClick_3 (fun z1_ e2_ => ?_)
  refine w_imul dX9_ownClick_6 (fun z3_ h4_ => ?_)
  refine w_aload_n dX9_ownClick_7 rfl 0 rfl ?_
  refine w_getI fl_RX9_22 rfl rfl (ic_9 hb hw) dX9_ownClick_8 (fun z5_ e6_ => ?_)
  refine w_iadd dX9_ownClick_11 (fun z7_ h8_ => ?_)
  exact w_iret rfl dX9_ownClick_12 ⟨rfl, trivial, ⟨z1_, e2_, z3_, h4_, z5_, e6_, z7_, h8_, rfl⟩⟩
def S_c_X9_begin (b : Nat) (w : Nat) : rf → Nat → Prop := fun c k => (c.1 = 9 ∧ c.2.1 = b ∧ c.2.2 = w ∧ k = 0) ∨ (c.1 = 9 ∧ c.2.1 = b ∧ c.2.2 = w ∧ k = 1) ∨ (c.1 = 9 ∧ c.2.1 = b ∧ c.2.2 = w ∧ k = 2) ∨ (c.1 = 9 ∧ c.2.1 = b ∧ c.2.2 = w ∧ k = 3) ∨ (c.1 = 9 ∧ c.2.1 = b ∧ c.2.2 = w ∧ k = 4) ∨ (c.1 = 9 ∧ c.2.1 = b ∧ c.2.2 = w ∧ k = 5) ∨ (c.1 = 9 ∧ c.2.1 = b ∧ c.2.2 = w ∧ k = 6) ∨ (c.1 = 9 ∧ c.2.1 = b ∧ c.2.2 = w ∧ k = 7) ∨ (c.1 = 9 ∧ c.2.1 = b ∧ c.2.2 = w ∧ k = 8) ∨ (c.1 = 40 ∧ c.2.1 = b ∧ c.2.2 = w) ∨ (c.1 = 41 ∧ c.2.1 = b ∧ c.2.2 = w) ∨ False
def ST_X9_begin_49 (b : Nat) (w : Nat) (Mz : mM) (v4_49 : Int32) (M_49 : mM) (v4_49y : Int32) (M_49y : mM) : Prop := (0 ≤ v4_49.toInt) ∧ (v4_49.toInt ≤ 192) ∧ (Inv M_49) ∧ (FR (S_c_X9_begin b w) Mz M_49) ∧ (v4_49.toInt < 192) ∧ ∃ j41_ : Nat, ((j41_ : Int) = v4_49.toInt) ∧ ∃ M39_ : mM, (M39_ = up M_49 (40, b, w) j41_ 0) ∧ ∃ j47_ : Nat, ((j47_ : Int) = v4_49.toInt) ∧ ∃ M45_ : mM, (M45_ = up M39_ (41, b, w) j47_ 0) ∧ ∃ z51_ : Int32, (z51_.toInt = v4_49.toInt + 1) ∧ v4_49y = z51_ ∧ M_49y = M45_
def SP_X9_begin (b : Nat) (w : Nat) (v : Int32) (u : Int32) (t : Int32) (Mz : mM) (M_ : mM) : Prop := ∃ M1_ : mM, (M1_ = up Mz (9, b, w) 0 v) ∧ ∃ M5_ : mM, (M5_ = up M1_ (9, b, w) 1 u) ∧ ∃ M9_ : mM, (M9_ = up M5_ (9, b, w) 2 t) ∧ ∃ M13_ : mM, (M13_ = up M9_ (9, b, w) 3 5) ∧ ∃ M17_ : mM, (M17_ = up M13_ (9, b, w) 4 60) ∧ ∃ M21_ : mM, (M21_ = up M17_ (9, b, w) 5 0) ∧ ∃ M25_ : mM, (M25_ = up M21_ (9, b, w) 6 0) ∧ ∃ M29_ : mM, (M29_ = up M25_ (9, b, w) 7 0) ∧ ∃ M33_ : mM, (M33_ = up M29_ (9, b, w) 8 0) ∧ ∃ v4_49 : Int32, (0 ≤ v4_49.toInt) ∧ (v4_49.toInt ≤ 192) ∧ ∃ M_49 : mM, (RCH (fun x_ y_ => ST_X9_begin_49 b w Mz x_.1 x_.2 y_.1 y_.2) ((0 : Int32), M33_) (v4_49, M_49)) ∧ (Inv M_49) ∧ (FR (S_c_X9_begin b w) Mz M_49) ∧ (192 ≤ v4_49.toInt) ∧ M_ = M_49
theorem lf_c_X9_begin_0 (v4_49 : Int32) (hv0_49 : 0 ≤ v4_49.toInt) (h38_ : v4_49.toInt < 192) : 0 ≤ v4_49.toInt ∧ v4_49.toInt < ((192 : Nat) : Int) := by omega
theorem lf_c_X9_begin_2 (v4_49 : Int32) (hv0_49 : 0 ≤ v4_49.toInt) (h38_ : v4_49.toInt < 192) : -2147483648 ≤ v4_49.toInt + 1 ∧ v4_49.toInt + 1 < 2147483648 := by omega
theorem lf_c_X9_begin_4 (v4_49 : Int32) (z51_ : Int32) (h38_ : v4_49.toInt < 192) (h52_ : z51_.toInt = v4_49.toInt + 1) : z51_.toInt ≤ 192 := by omega
theorem lf_c_X9_begin_5 (v4_49 : Int32) (z51_ : Int32) (h38_ : v4_49.toInt < 192) (h52_ : z51_.toInt = v4_49.toInt + 1) : (2147483648 - z51_.toInt).toNat < (2147483648 - v4_49.toInt).toNat := by omega
theorem lf_c_X9_begin_7 : (0 : Int32).toInt ≤ 192 := by have q0 := li_0; omega
set_option maxHeartbeats 4000000 in
set_option maxRecDepth 100000 in
theorem c_X9_begin (l : Launch) (G : va_G) (cy : Nat → ClassId) (ad : rf → Nat) (d : Nat) (b : Nat) (w : Nat) (v : Int32) (u : Int32) (t : Int32) (Mz : mM) (hIz : Inv Mz) (hb : b < 3) (hw : w < 8) : WP CC l G cy ad yX9_begin cX9_begin 5 none d 0 [(0, vR (9, b, w)), (1, vI v), (2, vI u), (3, vI t)] [] Mz (fun r M' => Inv M' ∧ FR (S_c_X9_begin b w) Mz M' ∧ (True) ∧ SP_X9_begin b w v u t Mz M') := by
  have hFz : FR (S_c_X9_begin b w) Mz Mz := FR.self
  refine w_aload_n dX9_begin_0 rfl 0 rfl ?_
  refine w_iload_n dX9_begin_1 rfl 1 rfl ?_
  refine w_putI CC_nd fl_RX9_7 rfl rfl (ic_9 hb hw) dX9_begin_2 (fun M1_ hM2_ => ?_)
  have hI3_ := hIz.put hM2_ (fun h => absurd h (by decide))
  have hF4_ := hFz.put hM2_ (Or.inl ⟨rfl, rfl, rfl, rfl⟩)
  refine w_aload_n dX9_begin_5 rfl 0 rfl ?_
  refine w_iload_n dX9_begin_6 rfl 2 rfl ?_
  refine w_putI CC_nd fl_RX9_13 rfl rfl (ic_9 hb hw) dX9_begin_7 (fun M5_ hM6_ => ?_)
  have hI7_ := hI3_.put hM6_ (fun h => absurd h (by decide))
  have hF8_ := hF4_.put hM6_ (Or.inr (Or.inl ⟨rfl, rfl, rfl, rfl⟩))
  refine w_aload_n dX9_begin_10 rfl 0 rfl ?_
  refine w_iload_n dX9_begin_11 rfl 3 rfl ?_
  refine w_putI CC_nd fl_RX9_16 rfl rfl (ic_9 hb hw) dX9_begin_12 (fun M9_ hM10_ => ?_)
  have hI11_ := hI7_.put hM10_ (fun h => absurd h (by decide))
  have hF12_ := hF8_.put hM10_ (Or.inr (Or.inr (Or.inl ⟨rfl, rfl, rfl, rfl⟩)))
  refine w_aload_n dX9_begin_15 rfl 0 rfl ?_
  refine w_iconst (v := 5) dX9_begin_16 (by decide) ?_
  refine w_putI CC_nd fl_RX9_19 rfl rfl (ic_9 hb hw) dX9_begin_17 (fun M13_ hM14_ => ?_)
  have hI15_ := hI11_.put hM14_ (fun h => absurd h (by decide))
  have hF16_ := hF12_.put hM14_ (Or.inr (Or.inr (Or.inr (Or.inl ⟨rfl, rfl, rfl, rfl⟩))))
  refine w_aload_n dX9_begin_20 rfl 0 rfl ?_
  refine w_bipush (v := 60) dX9_begin_21 (by decide) ?_
  refine w_putI CC_nd fl_RX9_22 rfl rfl (ic_9 hb hw) dX9_begin_23 (fun M17_ hM18_ => ?_)
  have hI19_ := hI15_.put hM18_ (fun h => absurd h (by decide))
  have hF20_ := hF16_.put hM18_ (Or.inr (Or.inr (Or.inr (Or.inr (Or.inl ⟨rfl, rfl, rfl, rfl⟩)))))
  refine w_aload_n dX9_begin_26 rfl 0 rfl ?_
  refine w_iconst (v := 0) dX9_begin_27 (by decide) ?_
  refine w_putI CC_nd fl_RX9_25 rfl rfl (ic_9 hb hw) dX9_begin_28 (fun M21_ hM22_ => ?_)
  have hI23_ := hI19_.put hM22_ (fun h => absurd h (by decide))
  have hF24_ := hF20_.put hM22_ (Or.inr (Or.inr (Or.inr (Or.inr (Or.inr (Or.inl ⟨rfl, rfl, rfl, rfl⟩))))))
  refine w_aload_n dX9_begin_31 rfl 0 rfl ?_
  refine w_iconst (v := 0) dX9_begin_32 (by decide) ?_
  refine w_putZ CC_nd fl_RX9_28 rfl rfl (ic_9 hb hw) ⟨by decide, by decide⟩ dX9_begin_33 (fun M25_ hM26_ => ?_)
  have hI27_ := hI23_.put hM26_ (fun _ => ⟨by decide, by decide⟩)
  have hF28_ := hF24_.put hM26_ (Or.inr (Or.inr (Or.inr (Or.inr (Or.inr (Or.inr (Or.inl ⟨rfl, rfl, rfl, rfl⟩)))))))
  refine w_aload_n dX9_begin_36 rfl 0 rfl ?_
  refine w_iconst (v := 0) dX9_begin_37 (by decide) ?_
  refine w_putI CC_nd fl_RX9_32 rfl rfl (ic_9 hb hw) dX9_begin_38 (fun M29_ hM30_ => ?_)
  have hI31_ := hI27_.put hM30_ (fun h => absurd h (by decide))
  have hF32_ := hF28_.put hM30_ (Or.inr (Or.inr (Or.inr (Or.inr (Or.inr (Or.inr (Or.inr (Or.inl ⟨rfl, rfl, rfl, rfl⟩))))))))
  refine w_aload_n dX9_begin_41 rfl 0 rfl ?_
  refine w_iconst (v := 0) dX9_begin_42 (by decide) ?_
  refine w_putI CC_nd fl_RX9_35 rfl rfl (ic_9 hb hw) dX9_begin_43 (fun M33_ hM34_ => ?_)
  have hI35_ := hI31_.put hM34_ (fun h => absurd h (by decide))
  have hF36_ := hF32_.put hM34_ (Or.inr (Or.inr (Or.inr (Or.inr (Or.inr (Or.inr (Or.inr (Or.inr (Or.inl ⟨rfl, rfl, rfl, rfl⟩)))))))))
  refine w_iconst (v := 0) dX9_begin_46 (by decide) ?_
  refine w_istore (ls' := [(4, vI 0), (0, vR (9, b, w)), (1, vI v), (2, vI u), (3, vI t)]) dX9_begin_47 (by decide) rfl ?_
  have lp37_ : ∀ (nn_49 : Nat) (M_49 : mM) (hI_49 : Inv M_49) (hF_49 : FR (S_c_X9_begin b w) Mz M_49) (v4_49 : Int32) (hv0_49 : 0 ≤ v4_49.toInt) (hv1_49 : v4_49.toInt ≤ 192) (hL_49 : RCH (fun x_ y_ => ST_X9_begin_49 b w Mz x_.1 x_.2 y_.1 y_.2) ((0 : Int32), M33_) (v4_49, M_49)), (2147483648 - v4_49.toInt).toNat < nn_49 → WP CC l G cy ad yX9_begin cX9_begin 5 none d 49 [(4, vI v4_49), (0, vR (9, b, w)), (1, vI v), (2, vI u), (3, vI t)] [] M_49 (fun r M' => Inv M' ∧ FR (S_c_X9_begin b w) Mz M' ∧ (True) ∧ SP_X9_begin b w v u t Mz M') := by
    intro nn_49
    induction nn_49 with
    | zero => intro M_49 hI_49 hF_49 v4_49 hv0_49 hv1_49 hL_49 hm_49; exact absurd hm_49 (Nat.not_lt_zero _)
    | succ nn_49 ih_49 =>
      intro M_49 hI_49 hF_49 v4_49 hv0_49 hv1_49 hL_49 hm_49
      refine w_iload dX9_begin_49 0 rfl ?_
      refine w_sipush (v := 192) dX9_begin_51 (by decide) ?_
      refine w_icmp_ge (tgt := 79) dX9_begin_54 (by decide) (rfl : v4_49.toInt = v4_49.toInt) li_192 (fun h38_ => ?_) (fun h38_ => ?_)
      · exact w_vret rfl dX9_begin_79 ⟨hI_49, hF_49, trivial, ⟨M1_, hM2_, M5_, hM6_, M9_, hM10_, M13_, hM14_, M17_, hM18_, M21_, hM22_, M25_, hM26_, M29_, hM30_, M33_, hM34_, v4_49, hv0_49, hv1_49, M_49, hL_49, hI_49, hF_49, h38_, rfl⟩⟩
      · refine w_aload_n dX9_begin_57 rfl 1 rfl ?_
        refine w_getR (c' := (40, b, w)) fl_RX9_40 rfl rfl (ic_9 hb hw) dX9_begin_58 rfl ?_
        refine w_iload dX9_begin_61 0 rfl ?_
        refine w_iconst (v := 0) dX9_begin_63 (by decide) ?_
        refine w_iast CC_nd rfl rfl (ic_40 hb hw) (rfl : v4_49.toInt = v4_49.toInt) (lf_c_X9_begin_0 v4_49 hv0_49 h38_ ) dX9_begin_64 (fun j41_ h42_ M39_ hM40_ => ?_)
        have hI43_ := hI_49.put hM40_ trivial
        have hF44_ := hF_49.put hM40_ (Or.inr (Or.inr (Or.inr (Or.inr (Or.inr (Or.inr (Or.inr (Or.inr (Or.inr (Or.inl ⟨rfl, rfl, rfl⟩))))))))))
        refine w_aload_n dX9_begin_65 rfl 1 rfl ?_
        refine w_getR (c' := (41, b, w)) fl_RX9_44 rfl rfl (ic_9 hb hw) dX9_begin_66 rfl ?_
        refine w_iload dX9_begin_69 0 rfl ?_
        refine w_iconst (v := 0) dX9_begin_71 (by decide) ?_
        refine w_iast CC_nd rfl rfl (ic_41 hb hw) (rfl : v4_49.toInt = v4_49.toInt) (lf_c_X9_begin_0 v4_49 hv0_49 h38_ ) dX9_begin_72 (fun j47_ h48_ M45_ hM46_ => ?_)
        have hI49_ := hI43_.put hM46_ trivial
        have hF50_ := hF44_.put hM46_ (Or.inr (Or.inr (Or.inr (Or.inr (Or.inr (Or.inr (Or.inr (Or.inr (Or.inr (Or.inr (Or.inl ⟨rfl, rfl, rfl⟩)))))))))))
        refine w_iincB (j := 0) (f := fun z51_ => [(4, vI z51_), (0, vR (9, b, w)), (1, vI v), (2, vI u), (3, vI t)]) dX9_begin_73 rfl (by decide) (fun _ => rfl) (rfl : v4_49.toInt = v4_49.toInt) li_1 (lf_c_X9_begin_2 v4_49 hv0_49 h38_ ) (fun z51_ h52_ => ?_)
        refine w_goto (tgt := 49) dX9_begin_76 (by decide) ?_
        refine w_loc (ls' := [(4, vI z51_), (0, vR (9, b, w)), (1, vI v), (2, vI u), (3, vI t)]) [0, 1, 2, 3, 4] rfl ?_
        exact ih_49 M45_ hI49_ hF50_ z51_ (lf_c_X5_takeFrom_3 v4_49 z51_ hv0_49 h52_ ) (lf_c_X9_begin_4 v4_49 z51_ h38_ h52_ ) (RCH.tail hL_49 ⟨hv0_49, hv1_49, hI_49, hF_49, h38_, j41_, h42_, M39_, hM40_, j47_, h48_, M45_, hM46_, z51_, h52_, rfl, rfl⟩) (Nat.lt_of_lt_of_le (lf_c_X9_begin_5 v4_49 z51_ h38_ h52_ ) (Nat.le_of_lt_succ hm_49))
  exact lp37_ _ M33_ hI35_ hF36_ 0 (lf_c_X5_takeFrom_5 ) (lf_c_X9_begin_7 ) RCH.refl (Nat.lt_succ_self _)
def ST_X9_isOf_7 (v : Int32) (Mz : mM) (v3_7 : Int32) (v2_7 : Int32) (v3_7y : Int32) (v2_7y : Int32) : Prop := (0 ≤ v3_7.toInt) ∧ (v3_7.toInt ≤ 8) ∧ (v3_7.toInt < 8) ∧ (0 ≤ v2_7.toInt) ∧ (¬ v2_7.toInt = v.toInt) ∧ ∃ r7_ : Int32, (SP_X9_kindAbove v2_7 Mz r7_) ∧ ∃ z12_ : Int32, (z12_.toInt = v3_7.toInt + 1) ∧ v3_7y = z12_ ∧ v2_7y = r7_
def SP_X9_isOf (b : Nat) (w : Nat) (v : Int32) (Mz : mM) (r_ : Int32) : Prop := ∃ z1_ : Int32, (z1_ = Mz.1 (9, b, w) 0) ∧ ∃ v3_7 : Int32, (0 ≤ v3_7.toInt) ∧ (v3_7.toInt ≤ 8) ∧ ∃ v2_7 : Int32, (RCH (fun x_ y_ => ST_X9_isOf_7 v Mz x_.1 x_.2 y_.1 y_.2) ((0 : Int32), z1_) (v3_7, v2_7)) ∧ (((8 ≤ v3_7.toInt) ∧ r_ = 0) ∨ ((v3_7.toInt < 8) ∧ (((v2_7.toInt < 0) ∧ r_ = 0) ∨ ((0 ≤ v2_7.toInt) ∧ (v2_7.toInt = v.toInt) ∧ r_ = 1))))
theorem lf_c_X9_isOf_0 (v3_7 : Int32) (hv0_7 : 0 ≤ v3_7.toInt) (h4_ : v3_7.toInt < 8) : -2147483648 ≤ v3_7.toInt + 1 ∧ v3_7.toInt + 1 < 2147483648 := by omega
theorem lf_c_X9_isOf_2 (v3_7 : Int32) (z12_ : Int32) (h4_ : v3_7.toInt < 8) (h13_ : z12_.toInt = v3_7.toInt + 1) : z12_.toInt ≤ 8 := by omega
theorem lf_c_X9_isOf_3 (v3_7 : Int32) (z12_ : Int32) (h4_ : v3_7.toInt < 8) (h13_ : z12_.toInt = v3_7.toInt + 1) : (2147483648 - z12_.toInt).toNat < (2147483648 - v3_7.toInt).toNat := by omega
theorem lf_c_X9_isOf_5 : (0 : Int32).toInt ≤ 8 := by have q0 := li_0; omega
set_option maxHeartbeats 4000000 in
set_option maxRecDepth 100000 in
theorem c_X9_isOf (l : Launch) (G : va_G) (cy : Nat → ClassId) (ad : rf → Nat) (d : Nat) (b : Nat) (w : Nat) (v : Int32) (Mz : mM) (hIz : Inv Mz) (hb : b < 3) (hw : w < 8) : WP CC l G cy ad yX9_isOf cX9_isOf 4 (some .boolean) (d + 1) 0 [(0, vR (9, b, w)), (1, vI v)] [] Mz (fun r M' => Mz = M' ∧ ((0 ≤ r.toInt ∧ r.toInt ≤ 1)) ∧ SP_X9_isOf b w v Mz r) := by
  refine w_aload_n dX9_isOf_0 rfl 0 rfl ?_
  refine w_getI fl_RX9_7 rfl rfl (ic_9 hb hw) dX9_isOf_1 (fun z1_ e2_ => ?_)
  refine w_istore_n (ls' := [(2, vI z1_), (0, vR (9, b, w)), (1, vI v)]) dX9_isOf_4 rfl (by decide) rfl ?_
  refine w_iconst (v := 0) dX9_isOf_5 (by decide) ?_
  refine w_istore_n (ls' := [(3, vI 0), (2, vI z1_), (0, vR (9, b, w)), (1, vI v)]) dX9_isOf_6 rfl (by decide) rfl ?_
  have lp3_ : ∀ (nn_7 : Nat) (v3_7 : Int32) (v2_7 : Int32) (hv0_7 : 0 ≤ v3_7.toInt) (hv1_7 : v3_7.toInt ≤ 8) (hL_7 : RCH (fun x_ y_ => ST_X9_isOf_7 v Mz x_.1 x_.2 y_.1 y_.2) ((0 : Int32), z1_) (v3_7, v2_7)), (2147483648 - v3_7.toInt).toNat < nn_7 → WP CC l G cy ad yX9_isOf cX9_isOf 4 (some .boolean) (d + 1) 7 [(3, vI v3_7), (2, vI v2_7), (0, vR (9, b, w)), (1, vI v)] [] Mz (fun r M' => Mz = M' ∧ ((0 ≤ r.toInt ∧ r.toInt ≤ 1)) ∧ SP_X9_isOf b w v Mz r) := by
    intro nn_7
    induction nn_7 with
    | zero => intro v3_7 v2_7 hv0_7 hv1_7 hL_7 hm_7; exact absurd hm_7 (Nat.not_lt_zero _)
    | succ nn_7 ih_7 =>
      intro v3_7 v2_7 hv0_7 hv1_7 hL_7 hm_7
      refine w_iload_n dX9_isOf_7 rfl 0 rfl ?_
      refine w_bipush (v := 8) dX9_isOf_8 (by decide) ?_
      refine w_icmp_ge (tgt := 35) dX9_isOf_10 (by decide) (rfl : v3_7.toInt = v3_7.toInt) li_8 (fun h4_ => ?_) (fun h4_ => ?_)
      · refine w_iconst (v := 0) dX9_isOf_35 (by decide) ?_
        exact w_zret rfl dX9_isOf_36 ⟨by decide, by decide⟩ ⟨rfl, ⟨by decide, by decide⟩, ⟨z1_, e2_, v3_7, hv0_7, hv1_7, v2_7, hL_7, (Or.inl ⟨h4_, rfl⟩)⟩⟩
      · refine w_iload_n dX9_isOf_13 rfl 1 rfl ?_
        refine w_if_lt (tgt := 35) dX9_isOf_14 (by decide) (rfl : v2_7.toInt = v2_7.toInt) (fun h5_ => ?_) (fun h5_ => ?_)
        · refine w_iconst (v := 0) dX9_isOf_35 (by decide) ?_
          exact w_zret rfl dX9_isOf_36 ⟨by decide, by decide⟩ ⟨rfl, ⟨by decide, by decide⟩, ⟨z1_, e2_, v3_7, hv0_7, hv1_7, v2_7, hL_7, (Or.inr ⟨h4_, (Or.inl ⟨h5_, rfl⟩)⟩)⟩⟩
        · refine w_iload_n dX9_isOf_17 rfl 1 rfl ?_
          refine w_iload_n dX9_isOf_18 rfl 3 rfl ?_
          refine w_icmp_ne (tgt := 24) dX9_isOf_19 (by decide) (rfl : v2_7.toInt = v2_7.toInt) (rfl : v.toInt = v.toInt) (fun h6_ => ?_) (fun h6_ => ?_)
          · refine w_iload_n dX9_isOf_24 rfl 1 rfl ?_
            refine w_callS (as := [vI v2_7]) (rest := []) (c_X9_kindAbove l G cy ad d v2_7 Mz hIz) kS_X9_kindAbove pnn_3 (Nat.le_of_ble_eq_true rfl) m_643 rfl rfl (by decide) (Nat.le_of_ble_eq_true rfl) dX9_isOf_25 (fun r7_ M8_ q9_ => ?_)
            obtain ⟨rfl, h10_, hs11_⟩ := q9_
            refine w_istore_n (ls' := [(2, vI r7_), (3, vI v3_7), (0, vR (9, b, w)), (1, vI v)]) dX9_isOf_28 rfl (by decide) rfl ?_
            refine w_iincB (j := 1) (f := fun z12_ => [(3, vI z12_), (2, vI r7_), (0, vR (9, b, w)), (1, vI v)]) dX9_isOf_29 rfl (by decide) (fun _ => rfl) (rfl : v3_7.toInt = v3_7.toInt) li_1 (lf_c_X9_isOf_0 v3_7 hv0_7 h4_ ) (fun z12_ h13_ => ?_)
            refine w_goto (tgt := 7) dX9_isOf_32 (by decide) ?_
            refine w_loc (ls' := [(3, vI z12_), (2, vI r7_), (0, vR (9, b, w)), (1, vI v)]) [0, 1, 2, 3] rfl ?_
            exact ih_7 z12_ r7_ (lf_c_X5_takeFrom_3 v3_7 z12_ hv0_7 h13_ ) (lf_c_X9_isOf_2 v3_7 z12_ h4_ h13_ ) (RCH.tail hL_7 ⟨hv0_7, hv1_7, h4_, h5_, h6_, r7_, hs11_, z12_, h13_, rfl, rfl⟩) (Nat.lt_of_lt_of_le (lf_c_X9_isOf_3 v3_7 z12_ h4_ h13_ ) (Nat.le_of_lt_succ hm_7))
          · refine w_iconst (v := 1) dX9_isOf_22 (by decide) ?_
            exact w_zret rfl dX9_isOf_23 ⟨by decide, by decide⟩ ⟨rfl, ⟨by decide, by decide⟩, ⟨z1_, e2_, v3_7, hv0_7, hv1_7, v2_7, hL_7, (Or.inr ⟨h4_, (Or.inr ⟨h5_, h6_, rfl⟩)⟩)⟩⟩
  exact lp3_ _ 0 z1_ (lf_c_X5_takeFrom_5 ) (lf_c_X9_isOf_5 ) RCH.refl (Nat.lt_succ_self _)
def SP_X9_factOf (b : Nat) (w : Nat) (v : Int32) (Mz : mM) (r_ : Int32) : Prop := (((v.toInt = 0) ∧ ∃ z2_ : Int32, (z2_ = Mz.1 (9, b, w) 0) ∧ r_ = z2_) ∨ ((v.toInt = 1) ∧ ∃ z4_ : Int32, (z4_ = Mz.1 (9, b, w) 1) ∧ r_ = z4_) ∨ ((v.toInt = 2) ∧ ∃ z6_ : Int32, (z6_ = Mz.1 (9, b, w) 2) ∧ r_ = z6_) ∨ ((v.toInt = 3) ∧ ∃ z8_ : Int32, (z8_ = Mz.1 (9, b, w) 3) ∧ r_ = z8_) ∨ ((v.toInt = 4) ∧ ∃ z10_ : Int32, (z10_ = Mz.1 (9, b, w) 4) ∧ r_ = z10_) ∨ ((v.toInt = 5) ∧ ∃ z12_ : Int32, (z12_ = Mz.1 (9, b, w) 5) ∧ r_ = z12_) ∨ ((v.toInt = 6) ∧ ∃ z14_ : Int32, (z14_ = Mz.1 (9, b, w) 6) ∧ (0 ≤ z14_.toInt ∧ z14_.toInt ≤ 1) ∧ (((z14_.toInt = 0) ∧ r_ = 0) ∨ ((¬ z14_.toInt = 0) ∧ r_ = 1))) ∨ ((v.toInt = 7) ∧ ∃ z18_ : Int32, (z18_ = Mz.1 (9, b, w) 7) ∧ r_ = z18_) ∨ ((v.toInt = 8) ∧ ∃ z20_ : Int32, (z20_ = Mz.1 (9, b, w) 8) ∧ r_ = z20_) ∨ ((v.toInt = 9) ∧ ∃ r22_ : Int32, (SP_X9_reach b w Mz r22_) ∧ (0 ≤ r22_.toInt ∧ r22_.toInt ≤ 12) ∧ r_ = r22_) ∨ ((v.toInt = 10) ∧ ∃ r27_ : Int32, (SP_X9_speed b w Mz r27_) ∧ (0 ≤ r27_.toInt ∧ r27_.toInt ≤ 2) ∧ r_ = r27_) ∨ (((¬ v.toInt = 0 ∧ ¬ v.toInt = 1 ∧ ¬ v.toInt = 2 ∧ ¬ v.toInt = 3 ∧ ¬ v.toInt = 4 ∧ ¬ v.toInt = 5 ∧ ¬ v.toInt = 6 ∧ ¬ v.toInt = 7 ∧ ¬ v.toInt = 8 ∧ ¬ v.toInt = 9 ∧ ¬ v.toInt = 10)) ∧ ∃ r32_ : Int32, (SP_X9_ears b w Mz r32_) ∧ (0 ≤ r32_.toInt ∧ r32_.toInt ≤ 9) ∧ r_ = r32_))
theorem lf_c_X9_factOf_0 (v : Int32) : v.toInt = 0 ∨ v.toInt = 1 ∨ v.toInt = 2 ∨ v.toInt = 3 ∨ v.toInt = 4 ∨ v.toInt = 5 ∨ v.toInt = 6 ∨ v.toInt = 7 ∨ v.toInt = 8 ∨ v.toInt = 9 ∨ v.toInt = 10 ∨ (¬ v.toInt = 0 ∧ ¬ v.toInt = 1 ∧ ¬ v.toInt = 2 ∧ ¬ v.toInt = 3 ∧ ¬ v.toInt = 4 ∧ ¬ v.toInt = 5 ∧ ¬ v.toInt = 6 ∧ ¬ v.toInt = 7 ∧ ¬ v.toInt = 8 ∧ ¬ v.toInt = 9 ∧ ¬ v.toInt = 10) := by have r_v := rngI v; omega
theorem lf_c_X9_factOf_1 (v : Int32) (e1_ : (¬ v.toInt = 0 ∧ ¬ v.toInt = 1 ∧ ¬ v.toInt = 2 ∧ ¬ v.toInt = 3 ∧ ¬ v.toInt = 4 ∧ ¬ v.toInt = 5 ∧ ¬ v.toInt = 6 ∧ ¬ v.toInt = 7 ∧ ¬ v.toInt = 8 ∧ ¬ v.toInt = 9 ∧ ¬ v.toInt = 10)) : v.toInt < 0 ∨ 10 < v.toInt := by have r_v := rngI v; omega
set_option maxHeartbeats 4000000 in
set_option maxRecDepth 100000 in
theorem c_X9_factOf (l : Launch) (G : va_G) (cy : Nat → ClassId) (ad : rf → Nat) (d : Nat) (b : Nat) (w : Nat) (v : Int32) (Mz : mM) (hIz : Inv Mz) (hb : b < 3) (hw : w < 8) : WP CC l G cy ad yX9_factOf cX9_factOf 2 (some .int) (d + 1) 0 [(0, vR (9, b, w)), (1, vI v)] [] Mz (fun r M' => Mz = M' ∧ (True) ∧ SP_X9_factOf b w v Mz r) := by
  refine w_iload_n dX9_factOf_0 rfl 1 rfl ?_
  rcases (lf_c_X9_factOf_0 v ) with e1_ | e1_ | e1_ | e1_ | e1_ | e1_ | e1_ | e1_ | e1_ | e1_ | e1_ | e1_
  · refine w_tsIn (tgt := 60) (off := 59) dX9_factOf_1 e1_ (by decide) (by decide) rfl (by decide) ?_
    refine w_aload_n dX9_factOf_60 rfl 0 rfl ?_
    refine w_getI fl_RX9_7 rfl rfl (ic_9 hb hw) dX9_factOf_61 (fun z2_ e3_ => ?_)
    exact w_iret rfl dX9_factOf_64 ⟨rfl, trivial, (Or.inl ⟨e1_, z2_, e3_, rfl⟩)⟩
  · refine w_tsIn (tgt := 65) (off := 64) dX9_factOf_1 e1_ (by decide) (by decide) rfl (by decide) ?_
    refine w_aload_n dX9_factOf_65 rfl 0 rfl ?_
    refine w_getI fl_RX9_13 rfl rfl (ic_9 hb hw) dX9_factOf_66 (fun z4_ e5_ => ?_)
    exact w_iret rfl dX9_factOf_69 ⟨rfl, trivial, (Or.inr (Or.inl ⟨e1_, z4_, e5_, rfl⟩))⟩
  · refine w_tsIn (tgt := 70) (off := 69) dX9_factOf_1 e1_ (by decide) (by decide) rfl (by decide) ?_
    refine w_aload_n dX9_factOf_70 rfl 0 rfl ?_
    refine w_getI fl_RX9_16 rfl rfl (ic_9 hb hw) dX9_factOf_71 (fun z6_ e7_ => ?_)
    exact w_iret rfl dX9_factOf_74 ⟨rfl, trivial, (Or.inr (Or.inr (Or.inl ⟨e1_, z6_, e7_, rfl⟩)))⟩
  · refine w_tsIn (tgt := 75) (off := 74) dX9_factOf_1 e1_ (by decide) (by decide) rfl (by decide) ?_
    refine w_aload_n dX9_factOf_75 rfl 0 rfl ?_
    refine w_getI fl_RX9_19 rfl rfl (ic_9 hb hw) dX9_factOf_76 (fun z8_ e9_ => ?_)
    exact w_iret rfl dX9_factOf_79 ⟨rfl, trivial, (Or.inr (Or.inr (Or.inr (Or.inl ⟨e1_, z8_, e9_, rfl⟩))))⟩
  · refine w_tsIn (tgt := 80) (off := 79) dX9_factOf_1 e1_ (by decide) (by decide) rfl (by decide) ?_
    refine w_aload_n dX9_factOf_80 rfl 0 rfl ?_
    refine w_getI fl_RX9_22 rfl rfl (ic_9 hb hw) dX9_factOf_81 (fun z10_ e11_ => ?_)
    exact w_iret rfl dX9_factOf_84 ⟨rfl, trivial, (Or.inr (Or.inr (Or.inr (Or.inr (Or.inl ⟨e1_, z10_, e11_, rfl⟩)))))⟩
  · refine w_tsIn (tgt := 85) (off := 84) dX9_factOf_1 e1_ (by decide) (by decide) rfl (by decide) ?_
    refine w_aload_n dX9_factOf_85 rfl 0 rfl ?_
    refine w_getI fl_RX9_25 rfl rfl (ic_9 hb hw) dX9_factOf_86 (fun z12_ e13_ => ?_)
    exact w_iret rfl dX9_factOf_89 ⟨rfl, trivial, (Or.inr (Or.inr (Or.inr (Or.inr (Or.inr (Or.inl ⟨e1_, z12_, e13_, rfl⟩))))))⟩
  · refine w_tsIn (tgt := 90) (off := 89) dX9_factOf_1 e1_ (by decide) (by decide) rfl (by decide) ?_
    refine w_aload_n dX9_factOf_90 rfl 0 rfl ?_
    refine w_getI fl_RX9_28 rfl rfl (ic_9 hb hw) dX9_factOf_91 (fun z14_ e15_ => ?_)
    have h16_ : 0 ≤ z14_.toInt ∧ z14_.toInt ≤ 1 := ofEq (P := fun v => 0 ≤ v.toInt ∧ v.toInt ≤ 1) e15_ (hIz (9, b, w) 6 rfl)
    refine w_if_eq (tgt := 101) dX9_factOf_94 (by decide) (rfl : z14_.toInt = z14_.toInt) (fun h17_ => ?_) (fun h17_ => ?_)
    · refine w_iconst (v := 0) dX9_factOf_101 (by decide) ?_
      exact w_iret rfl dX9_factOf_102 ⟨rfl, trivial, (Or.inr (Or.inr (Or.inr (Or.inr (Or.inr (Or.inr (Or.inl ⟨e1_, z14_, e15_, h16_, (Or.inl ⟨h17_, rfl⟩)⟩)))))))⟩
    · refine w_iconst (v := 1) dX9_factOf_97 (by decide) ?_
      refine w_goto (tgt := 102) dX9_factOf_98 (by decide) ?_
      exact w_iret rfl dX9_factOf_102 ⟨rfl, trivial, (Or.inr (Or.inr (Or.inr (Or.inr (Or.inr (Or.inr (Or.inl ⟨e1_, z14_, e15_, h16_, (Or.inr ⟨h17_, rfl⟩)⟩)))))))⟩
  · refine w_tsIn (tgt := 103) (off := 102) dX9_factOf_1 e1_ (by decide) (by decide) rfl (by decide) ?_
    refine w_aload_n dX9_factOf_103 rfl 0 rfl ?_
    refine w_getI fl_RX9_32 rfl rfl (ic_9 hb hw) dX9_factOf_104 (fun z18_ e19_ => ?_)
    exact w_iret rfl dX9_factOf_107 ⟨rfl, trivial, (Or.inr (Or.inr (Or.inr (Or.inr (Or.inr (Or.inr (Or.inr (Or.inl ⟨e1_, z18_, e19_, rfl⟩))))))))⟩
  · refine w_tsIn (tgt := 108) (off := 107) dX9_factOf_1 e1_ (by decide) (by decide) rfl (by decide) ?_
    refine w_aload_n dX9_factOf_108 rfl 0 rfl ?_
    refine w_getI fl_RX9_35 rfl rfl (ic_9 hb hw) dX9_factOf_109 (fun z20_ e21_ => ?_)
    exact w_iret rfl dX9_factOf_112 ⟨rfl, trivial, (Or.inr (Or.inr (Or.inr (Or.inr (Or.inr (Or.inr (Or.inr (Or.inr (Or.inl ⟨e1_, z20_, e21_, rfl⟩)))))))))⟩
  · refine w_tsIn (tgt := 113) (off := 112) dX9_factOf_1 e1_ (by decide) (by decide) rfl (by decide) ?_
    refine w_aload_n dX9_factOf_113 rfl 0 rfl ?_
    refine w_callV (as := []) (rest := []) (c_X9_reach l G cy ad d b w Mz hIz hb hw) kV_X9_reach pnn_3 (Nat.le_of_ble_eq_true rfl) m_617 rfl rfl rfl (ic_9 hb hw) rfl rfl (by decide) (Nat.le_of_ble_eq_true rfl) dX9_factOf_114 (fun r22_ M23_ q24_ => ?_)
    obtain ⟨rfl, h25_, hs26_⟩ := q24_
    exact w_iret rfl dX9_factOf_117 ⟨rfl, trivial, (Or.inr (Or.inr (Or.inr (Or.inr (Or.inr (Or.inr (Or.inr (Or.inr (Or.inr (Or.inl ⟨e1_, r22_, hs26_, h25_, rfl⟩))))))))))⟩
  · refine w_tsIn (tgt := 118) (off := 117) dX9_factOf_1 e1_ (by decide) (by decide) rfl (by decide) ?_
    refine w_aload_n dX9_factOf_118 rfl 0 rfl ?_
    refine w_callV (as := []) (rest := []) (c_X9_speed l G cy ad d b w Mz hIz hb hw) kV_X9_speed pnn_3 (Nat.le_of_ble_eq_true rfl) m_623 rfl rfl rfl (ic_9 hb hw) rfl rfl (by decide) (Nat.le_of_ble_eq_true rfl) dX9_factOf_119 (fun r27_ M28_ q29_ => ?_)
    obtain ⟨rfl, h30_, hs31_⟩ := q29_
    exact w_iret rfl dX9_factOf_122 ⟨rfl, trivial, (Or.inr (Or.inr (Or.inr (Or.inr (Or.inr (Or.inr (Or.inr (Or.inr (Or.inr (Or.inr (Or.inl ⟨e1_, r27_, hs31_, h30_, rfl⟩)))))))))))⟩
  · refine w_tsOut (tgt := 123) dX9_factOf_1 rfl (lf_c_X9_factOf_1 v e1_ ) (by decide) ?_
    refine w_aload_n dX9_factOf_123 rfl 0 rfl ?_
    refine w_callV (as := []) (rest := []) (c_X9_ears l G cy ad d b w Mz hIz hb hw) kV_X9_ears pnn_3 (Nat.le_of_ble_eq_true rfl) m_629 rfl rfl rfl (ic_9 hb hw) rfl rfl (by decide) (Nat.le_of_ble_eq_true rfl) dX9_factOf_124 (fun r32_ M33_ q34_ => ?_)
    obtain ⟨rfl, h35_, hs36_⟩ := q34_
    exact w_iret rfl dX9_factOf_127 ⟨rfl, trivial, (Or.inr (Or.inr (Or.inr (Or.inr (Or.inr (Or.inr (Or.inr (Or.inr (Or.inr (Or.inr (Or.inr ⟨e1_, r32_, hs36_, h35_, rfl⟩)))))))))))⟩
def S_c_X9_addYes (b : Nat) (w : Nat) : rf → Nat → Prop := fun c k => (c.1 = 40 ∧ c.2.1 = b ∧ c.2.2 = w) ∨ False
def SP_X9_addYes (b : Nat) (w : Nat) (v : Int32) (u : Int32) (Mz : mM) (M_ : mM) : Prop := (((SP_X7_isCell v Mz (1 : Int32)) ∧ (0 ≤ v.toInt ∧ v.toInt ≤ 191) ∧ ∃ j9_ : Nat, ((j9_ : Int) = v.toInt) ∧ ∃ z7_ : Int32, (z7_ = Mz.1 (40, b, w) j9_) ∧ ∃ z11_ : Int32, (z11_ = z7_ + u) ∧ ∃ z13_ : Int32, ((z13_.toInt = 99 ∧ 99 ≤ z11_.toInt) ∨ (z13_.toInt = z11_.toInt ∧ z11_.toInt ≤ 99)) ∧ ∃ j17_ : Nat, ((j17_ : Int) = v.toInt) ∧ ∃ M15_ : mM, (M15_ = up Mz (40, b, w) j17_ z13_) ∧ M_ = M15_) ∨ ((SP_X7_isCell v Mz (0 : Int32)) ∧ (¬ (0 ≤ v.toInt ∧ v.toInt ≤ 191)) ∧ M_ = Mz))
set_option maxHeartbeats 4000000 in
set_option maxRecDepth 100000 in
theorem c_X9_addYes (l : Launch) (G : va_G) (cy : Nat → ClassId) (ad : rf → Nat) (d : Nat) (b : Nat) (w : Nat) (v : Int32) (u : Int32) (Mz : mM) (hIz : Inv Mz) (hb : b < 3) (hw : w < 8) : WP CC l G cy ad yX9_addYes cX9_addYes 3 none (d + 1) 0 [(0, vR (9, b, w)), (1, vI v), (2, vI u)] [] Mz (fun r M' => Inv M' ∧ FR (S_c_X9_addYes b w) Mz M' ∧ (True) ∧ SP_X9_addYes b w v u Mz M') := by
  have hFz : FR (S_c_X9_addYes b w) Mz Mz := FR.self
  refine w_iload_n dX9_addYes_0 rfl 1 rfl ?_
  refine w_callS (as := [vI v]) (rest := []) (c_X7_isCell l G cy ad d v Mz hIz) kS_X7_isCell pnn_1 (Nat.le_of_ble_eq_true rfl) m_919 rfl rfl (by decide) (Nat.le_of_ble_eq_true rfl) dX9_addYes_1 (fun r1_ M2_ q3_ => ?_)
  obtain ⟨rfl, h4_, hs5_⟩ := q3_
  rcases h4_ with ⟨rfl, h4_⟩ | ⟨rfl, h4_⟩
  · refine w_if_eq (tgt := 26) dX9_addYes_4 (by decide) li_1 (fun h9 => (absurd h9 (by decide))) (fun h6_ => ?_)
    refine w_aload_n dX9_addYes_7 rfl 0 rfl ?_
    refine w_getR (c' := (40, b, w)) fl_RX9_40 rfl rfl (ic_9 hb hw) dX9_addYes_8 rfl ?_
    refine w_iload_n dX9_addYes_11 rfl 1 rfl ?_
    refine w_bipush (v := 99) dX9_addYes_12 (by decide) ?_
    refine w_aload_n dX9_addYes_14 rfl 0 rfl ?_
    refine w_getR (c' := (40, b, w)) fl_RX9_40 rfl rfl (ic_9 hb hw) dX9_addYes_15 rfl ?_
    refine w_iload_n dX9_addYes_18 rfl 1 rfl ?_
    refine w_iald rfl rfl (ic_40 hb hw) (rfl : v.toInt = v.toInt) (lf_c_X7_isFree_0 v h4_ ) dX9_addYes_19 (fun j9_ h10_ z7_ e8_ => ?_)
    refine w_iload_n dX9_addYes_20 rfl 2 rfl ?_
    refine w_iadd dX9_addYes_21 (fun z11_ h12_ => ?_)
    refine w_min m_920 m_770 m_86 m_771 li_99 (rfl : z11_.toInt = z11_.toInt) (Nat.le_of_ble_eq_true rfl) (by omega) dX9_addYes_22 (fun z13_ h14_ => ?_)
    refine w_iast CC_nd rfl rfl (ic_40 hb hw) (rfl : v.toInt = v.toInt) (lf_c_X7_isFree_0 v h4_ ) dX9_addYes_25 (fun j17_ h18_ M15_ hM16_ => ?_)
    have hI19_ := hIz.put hM16_ trivial
    have hF20_ := hFz.put hM16_ (Or.inl ⟨rfl, rfl, rfl⟩)
    exact w_vret rfl dX9_addYes_26 ⟨hI19_, hF20_, trivial, (Or.inl ⟨hs5_, h4_, j9_, h10_, z7_, e8_, z11_, h12_, z13_, h14_, j17_, h18_, M15_, hM16_, rfl⟩)⟩
  · refine w_if_eq (tgt := 26) dX9_addYes_4 (by decide) li_0 (fun h21_ => ?_) (fun h9 => (absurd h9 (by decide)))
    exact w_vret rfl dX9_addYes_26 ⟨hIz, hFz, trivial, (Or.inr ⟨hs5_, h4_, rfl⟩)⟩
def S_c_X9_addNo (b : Nat) (w : Nat) : rf → Nat → Prop := fun c k => (c.1 = 41 ∧ c.2.1 = b ∧ c.2.2 = w) ∨ False
def SP_X9_addNo (b : Nat) (w : Nat) (v : Int32) (Mz : mM) (M_ : mM) : Prop := (((SP_X7_isCell v Mz (1 : Int32)) ∧ (0 ≤ v.toInt ∧ v.toInt ≤ 191) ∧ ∃ j9_ : Nat, ((j9_ : Int) = v.toInt) ∧ ∃ z7_ : Int32, (z7_ = Mz.1 (41, b, w) j9_) ∧ ∃ z11_ : Int32, (z11_ = z7_ + (1 : Int32)) ∧ ∃ z13_ : Int32, ((z13_.toInt = 99 ∧ 99 ≤ z11_.toInt) ∨ (z13_.toInt = z11_.toInt ∧ z11_.toInt ≤ 99)) ∧ ∃ j17_ : Nat, ((j17_ : Int) = v.toInt) ∧ ∃ M15_ : mM, (M15_ = up Mz (41, b, w) j17_ z13_) ∧ M_ = M15_) ∨ ((SP_X7_isCell v Mz (0 : Int32)) ∧ (¬ (0 ≤ v.toInt ∧ v.toInt ≤ 191)) ∧ M_ = Mz))
set_option maxHeartbeats 4000000 in
set_option maxRecDepth 100000 in
theorem c_X9_addNo (l : Launch) (G : va_G) (cy : Nat → ClassId) (ad : rf → Nat) (d : Nat) (b : Nat) (w : Nat) (v : Int32) (Mz : mM) (hIz : Inv Mz) (hb : b < 3) (hw : w < 8) : WP CC l G cy ad yX9_addNo cX9_addNo 2 none (d + 1) 0 [(0, vR (9, b, w)), (1, vI v)] [] Mz (fun r M' => Inv M' ∧ FR (S_c_X9_addNo b w) Mz M' ∧ (True) ∧ SP_X9_addNo b w v Mz M') := by
  have hFz : FR (S_c_X9_addNo b w) Mz Mz := FR.self
  refine w_iload_n dX9_addNo_0 rfl 1 rfl ?_
  refine w_callS (as := [vI v]) (rest := []) (c_X7_isCell l G cy ad d v Mz hIz) kS_X7_isCell pnn_1 (Nat.le_of_ble_eq_true rfl) m_919 rfl rfl (by decide) (Nat.le_of_ble_eq_true rfl) dX9_addNo_1 (fun r1_ M2_ q3_ => ?_)
  obtain ⟨rfl, h4_, hs5_⟩ := q3_
  rcases h4_ with ⟨rfl, h4_⟩ | ⟨rfl, h4_⟩
  · refine w_if_eq (tgt := 26) dX9_addNo_4 (by decide) li_1 (fun h9 => (absurd h9 (by decide))) (fun h6_ => ?_)
    refine w_aload_n dX9_addNo_7 rfl 0 rfl ?_
    refine w_getR (c' := (41, b, w)) fl_RX9_44 rfl rfl (ic_9 hb hw) dX9_addNo_8 rfl ?_
    refine w_iload_n dX9_addNo_11 rfl 1 rfl ?_
    refine w_bipush (v := 99) dX9_addNo_12 (by decide) ?_
    refine w_aload_n dX9_addNo_14 rfl 0 rfl ?_
    refine w_getR (c' := (41, b, w)) fl_RX9_44 rfl rfl (ic_9 hb hw) dX9_addNo_15 rfl ?_
    refine w_iload_n dX9_addNo_18 rfl 1 rfl ?_
    refine w_iald rfl rfl (ic_41 hb hw) (rfl : v.toInt = v.toInt) (lf_c_X7_isFree_0 v h4_ ) dX9_addNo_19 (fun j9_ h10_ z7_ e8_ => ?_)
    refine w_iconst (v := 1) dX9_addNo_20 (by decide) ?_
    refine w_iadd dX9_addNo_21 (fun z11_ h12_ => ?_)
    refine w_min m_920 m_770 m_86 m_771 li_99 (rfl : z11_.toInt = z11_.toInt) (Nat.le_of_ble_eq_true rfl) (by omega) dX9_addNo_22 (fun z13_ h14_ => ?_)
    refine w_iast CC_nd rfl rfl (ic_41 hb hw) (rfl : v.toInt = v.toInt) (lf_c_X7_isFree_0 v h4_ ) dX9_addNo_25 (fun j17_ h18_ M15_ hM16_ => ?_)
    have hI19_ := hIz.put hM16_ trivial
    have hF20_ := hFz.put hM16_ (Or.inl ⟨rfl, rfl, rfl⟩)
    exact w_vret rfl dX9_addNo_26 ⟨hI19_, hF20_, trivial, (Or.inl ⟨hs5_, h4_, j9_, h10_, z7_, e8_, z11_, h12_, z13_, h14_, j17_, h18_, M15_, hM16_, rfl⟩)⟩
  · refine w_if_eq (tgt := 26) dX9_addNo_4 (by decide) li_0 (fun h21_ => ?_) (fun h9 => (absurd h9 (by decide)))
    exact w_vret rfl dX9_addNo_26 ⟨hIz, hFz, trivial, (Or.inr ⟨hs5_, h4_, rfl⟩)⟩
def SP_X9_held (b : Nat) (w : Nat) (v : Int32) (Mz : mM) (r_ : Int32) : Prop := (((SP_X7_isCell v Mz (1 : Int32)) ∧ (0 ≤ v.toInt ∧ v.toInt ≤ 191) ∧ ∃ j9_ : Nat, ((j9_ : Int) = v.toInt) ∧ ∃ z7_ : Int32, (z7_ = Mz.1 (40, b, w) j9_) ∧ ∃ j13_ : Nat, ((j13_ : Int) = v.toInt) ∧ ∃ z11_ : Int32, (z11_ = Mz.1 (41, b, w) j13_) ∧ (((¬ z7_.toInt = z11_.toInt) ∧ ∃ j18_ : Nat, ((j18_ : Int) = v.toInt) ∧ ∃ z16_ : Int32, (z16_ = Mz.1 (40, b, w) j18_) ∧ ∃ j22_ : Nat, ((j22_ : Int) = v.toInt) ∧ ∃ z20_ : Int32, (z20_ = Mz.1 (41, b, w) j22_) ∧ (((z16_.toInt ≤ z20_.toInt) ∧ r_ = 1) ∨ ((z20_.toInt < z16_.toInt) ∧ r_ = 2))) ∨ ((z7_.toInt = z11_.toInt) ∧ r_ = 0))) ∨ ((SP_X7_isCell v Mz (0 : Int32)) ∧ (¬ (0 ≤ v.toInt ∧ v.toInt ≤ 191)) ∧ r_ = 0))
set_option maxHeartbeats 4000000 in
set_option maxRecDepth 100000 in
theorem c_X9_held (l : Launch) (G : va_G) (cy : Nat → ClassId) (ad : rf → Nat) (d : Nat) (b : Nat) (w : Nat) (v : Int32) (Mz : mM) (hIz : Inv Mz) (hb : b < 3) (hw : w < 8) : WP CC l G cy ad yX9_held cX9_held 2 (some .int) (d + 1) 0 [(0, vR (9, b, w)), (1, vI v)] [] Mz (fun r M' => Mz = M' ∧ (True) ∧ SP_X9_held b w v Mz r) := by
  refine w_iload_n dX9_held_0 rfl 1 rfl ?_
  refine w_callS (as := [vI v]) (rest := []) (c_X7_isCell l G cy ad d v Mz hIz) kS_X7_isCell pnn_1 (Nat.le_of_ble_eq_true rfl) m_919 rfl rfl (by decide) (Nat.le_of_ble_eq_true rfl) dX9_held_1 (fun r1_ M2_ q3_ => ?_)
  obtain ⟨rfl, h4_, hs5_⟩ := q3_
  rcases h4_ with ⟨rfl, h4_⟩ | ⟨rfl, h4_⟩
  · refine w_if_eq (tgt := 22) dX9_held_4 (by decide) li_1 (fun h9 => (absurd h9 (by decide))) (fun h6_ => ?_)
    refine w_aload_n dX9_held_7 rfl 0 rfl ?_
    refine w_getR (c' := (40, b, w)) fl_RX9_40 rfl rfl (ic_9 hb hw) dX9_held_8 rfl ?_
    refine w_iload_n dX9_held_11 rfl 1 rfl ?_
    refine w_iald rfl rfl (ic_40 hb hw) (rfl : v.toInt = v.toInt) (lf_c_X7_isFree_0 v h4_ ) dX9_held_12 (fun j9_ h10_ z7_ e8_ => ?_)
    refine w_aload_n dX9_held_13 rfl 0 rfl ?_
    refine w_getR (c' := (41, b, w)) fl_RX9_44 rfl rfl (ic_9 hb hw) dX9_held_14 rfl ?_
    refine w_iload_n dX9_held_17 rfl 1 rfl ?_
    refine w_iald rfl rfl (ic_41 hb hw) (rfl : v.toInt = v.toInt) (lf_c_X7_isFree_0 v h4_ ) dX9_held_18 (fun j13_ h14_ z11_ e12_ => ?_)
    refine w_icmp_ne (tgt := 24) dX9_held_19 (by decide) (rfl : z7_.toInt = z7_.toInt) (rfl : z11_.toInt = z11_.toInt) (fun h15_ => ?_) (fun h15_ => ?_)
    · refine w_aload_n dX9_held_24 rfl 0 rfl ?_
      refine w_getR (c' := (40, b, w)) fl_RX9_40 rfl rfl (ic_9 hb hw) dX9_held_25 rfl ?_
      refine w_iload_n dX9_held_28 rfl 1 rfl ?_
      refine w_iald rfl rfl (ic_40 hb hw) (rfl : v.toInt = v.toInt) (lf_c_X7_isFree_0 v h4_ ) dX9_held_29 (fun j18_ h19_ z16_ e17_ => ?_)
      refine w_aload_n dX9_held_30 rfl 0 rfl ?_
      refine w_getR (c' := (41, b, w)) fl_RX9_44 rfl rfl (ic_9 hb hw) dX9_held_31 rfl ?_
      refine w_iload_n dX9_held_34 rfl 1 rfl ?_
      refine w_iald rfl rfl (ic_41 hb hw) (rfl : v.toInt = v.toInt) (lf_c_X7_isFree_0 v h4_ ) dX9_held_35 (fun j22_ h23_ z20_ e21_ => ?_)
      refine w_icmp_le (tgt := 43) dX9_held_36 (by decide) (rfl : z16_.toInt = z16_.toInt) (rfl : z20_.toInt = z20_.toInt) (fun h24_ => ?_) (fun h24_ => ?_)
      · refine w_iconst (v := 1) dX9_held_43 (by decide) ?_
        exact w_iret rfl dX9_held_44 ⟨rfl, trivial, (Or.inl ⟨hs5_, h4_, j9_, h10_, z7_, e8_, j13_, h14_, z11_, e12_, (Or.inl ⟨h15_, j18_, h19_, z16_, e17_, j22_, h23_, z20_, e21_, (Or.inl ⟨h24_, rfl⟩)⟩)⟩)⟩
      · refine w_iconst (v := 2) dX9_held_39 (by decide) ?_
        refine w_goto (tgt := 44) dX9_held_40 (by decide) ?_
        exact w_iret rfl dX9_held_44 ⟨rfl, trivial, (Or.inl ⟨hs5_, h4_, j9_, h10_, z7_, e8_, j13_, h14_, z11_, e12_, (Or.inl ⟨h15_, j18_, h19_, z16_, e17_, j22_, h23_, z20_, e21_, (Or.inr ⟨h24_, rfl⟩)⟩)⟩)⟩
    · refine w_iconst (v := 0) dX9_held_22 (by decide) ?_
      exact w_iret rfl dX9_held_23 ⟨rfl, trivial, (Or.inl ⟨hs5_, h4_, j9_, h10_, z7_, e8_, j13_, h14_, z11_, e12_, (Or.inr ⟨h15_, rfl⟩)⟩)⟩
  · refine w_if_eq (tgt := 22) dX9_held_4 (by decide) li_0 (fun h25_ => ?_) (fun h9 => (absurd h9 (by decide)))
    refine w_iconst (v := 0) dX9_held_22 (by decide) ?_
    exact w_iret rfl dX9_held_23 ⟨rfl, trivial, (Or.inr ⟨hs5_, h4_, rfl⟩)⟩
def SP_X9_canLearn (b : Nat) (w : Nat) (v : Int32) (Mz : mM) (r_ : Int32) : Prop := (((SP_X7_isCell v Mz (1 : Int32)) ∧ (0 ≤ v.toInt ∧ v.toInt ≤ 191) ∧ ∃ j9_ : Nat, ((j9_ : Int) = v.toInt) ∧ ∃ z7_ : Int32, (z7_ = Mz.1 (40, b, w) j9_) ∧ ∃ j13_ : Nat, ((j13_ : Int) = v.toInt) ∧ ∃ z11_ : Int32, (z11_ = Mz.1 (41, b, w) j13_) ∧ (((¬ z7_.toInt = z11_.toInt) ∧ r_ = 0) ∨ ((z7_.toInt = z11_.toInt) ∧ ∃ j18_ : Nat, ((j18_ : Int) = v.toInt) ∧ ∃ z16_ : Int32, (z16_ = Mz.1 (40, b, w) j18_) ∧ (((99 ≤ z16_.toInt) ∧ r_ = 0) ∨ ((z16_.toInt < 99) ∧ r_ = 1))))) ∨ ((SP_X7_isCell v Mz (0 : Int32)) ∧ (¬ (0 ≤ v.toInt ∧ v.toInt ≤ 191)) ∧ r_ = 0))
set_option maxHeartbeats 4000000 in
set_option maxRecDepth 100000 in
theorem c_X9_canLearn (l : Launch) (G : va_G) (cy : Nat → ClassId) (ad : rf → Nat) (d : Nat) (b : Nat) (w : Nat) (v : Int32) (Mz : mM) (hIz : Inv Mz) (hb : b < 3) (hw : w < 8) : WP CC l G cy ad yX9_canLearn cX9_canLearn 2 (some .boolean) (d + 1) 0 [(0, vR (9, b, w)), (1, vI v)] [] Mz (fun r M' => Mz = M' ∧ (((r = 1 ∧ 0 ≤ v.toInt ∧ v.toInt ≤ 191) ∨ r = 0)) ∧ SP_X9_canLearn b w v Mz r) := by
  refine w_iload_n dX9_canLearn_0 rfl 1 rfl ?_
  refine w_callS (as := [vI v]) (rest := []) (c_X7_isCell l G cy ad d v Mz hIz) kS_X7_isCell pnn_1 (Nat.le_of_ble_eq_true rfl) m_919 rfl rfl (by decide) (Nat.le_of_ble_eq_true rfl) dX9_canLearn_1 (fun r1_ M2_ q3_ => ?_)
  obtain ⟨rfl, h4_, hs5_⟩ := q3_
  rcases h4_ with ⟨rfl, h4_⟩ | ⟨rfl, h4_⟩
  · refine w_if_eq (tgt := 37) dX9_canLearn_4 (by decide) li_1 (fun h9 => (absurd h9 (by decide))) (fun h6_ => ?_)
    refine w_aload_n dX9_canLearn_7 rfl 0 rfl ?_
    refine w_getR (c' := (40, b, w)) fl_RX9_40 rfl rfl (ic_9 hb hw) dX9_canLearn_8 rfl ?_
    refine w_iload_n dX9_canLearn_11 rfl 1 rfl ?_
    refine w_iald rfl rfl (ic_40 hb hw) (rfl : v.toInt = v.toInt) (lf_c_X7_isFree_0 v h4_ ) dX9_canLearn_12 (fun j9_ h10_ z7_ e8_ => ?_)
    refine w_aload_n dX9_canLearn_13 rfl 0 rfl ?_
    refine w_getR (c' := (41, b, w)) fl_RX9_44 rfl rfl (ic_9 hb hw) dX9_canLearn_14 rfl ?_
    refine w_iload_n dX9_canLearn_17 rfl 1 rfl ?_
    refine w_iald rfl rfl (ic_41 hb hw) (rfl : v.toInt = v.toInt) (lf_c_X7_isFree_0 v h4_ ) dX9_canLearn_18 (fun j13_ h14_ z11_ e12_ => ?_)
    refine w_icmp_ne (tgt := 37) dX9_canLearn_19 (by decide) (rfl : z7_.toInt = z7_.toInt) (rfl : z11_.toInt = z11_.toInt) (fun h15_ => ?_) (fun h15_ => ?_)
    · refine w_iconst (v := 0) dX9_canLearn_37 (by decide) ?_
      exact w_zret rfl dX9_canLearn_38 ⟨by decide, by decide⟩ ⟨rfl, (Or.inr rfl), (Or.inl ⟨hs5_, h4_, j9_, h10_, z7_, e8_, j13_, h14_, z11_, e12_, (Or.inl ⟨h15_, rfl⟩)⟩)⟩
    · refine w_aload_n dX9_canLearn_22 rfl 0 rfl ?_
      refine w_getR (c' := (40, b, w)) fl_RX9_40 rfl rfl (ic_9 hb hw) dX9_canLearn_23 rfl ?_
      refine w_iload_n dX9_canLearn_26 rfl 1 rfl ?_
      refine w_iald rfl rfl (ic_40 hb hw) (rfl : v.toInt = v.toInt) (lf_c_X7_isFree_0 v h4_ ) dX9_canLearn_27 (fun j18_ h19_ z16_ e17_ => ?_)
      refine w_bipush (v := 99) dX9_canLearn_28 (by decide) ?_
      refine w_icmp_ge (tgt := 37) dX9_canLearn_30 (by decide) (rfl : z16_.toInt = z16_.toInt) li_99 (fun h20_ => ?_) (fun h20_ => ?_)
      · refine w_iconst (v := 0) dX9_canLearn_37 (by decide) ?_
        exact w_zret rfl dX9_canLearn_38 ⟨by decide, by decide⟩ ⟨rfl, (Or.inr rfl), (Or.inl ⟨hs5_, h4_, j9_, h10_, z7_, e8_, j13_, h14_, z11_, e12_, (Or.inr ⟨h15_, j18_, h19_, z16_, e17_, (Or.inl ⟨h20_, rfl⟩)⟩)⟩)⟩
      · refine w_iconst (v := 1) dX9_canLearn_33 (by decide) ?_
        refine w_goto (tgt := 38) dX9_canLearn_34 (by decide) ?_
        exact w_zret rfl dX9_canLearn_38 ⟨by decide, by decide⟩ ⟨rfl, (Or.inl ⟨rfl, h4_⟩), (Or.inl ⟨hs5_, h4_, j9_, h10_, z7_, e8_, j13_, h14_, z11_, e12_, (Or.inr ⟨h15_, j18_, h19_, z16_, e17_, (Or.inr ⟨h20_, rfl⟩)⟩)⟩)⟩
  · refine w_if_eq (tgt := 37) dX9_canLearn_4 (by decide) li_0 (fun h21_ => ?_) (fun h9 => (absurd h9 (by decide)))
    refine w_iconst (v := 0) dX9_canLearn_37 (by decide) ?_
    exact w_zret rfl dX9_canLearn_38 ⟨by decide, by decide⟩ ⟨rfl, (Or.inr rfl), (Or.inr ⟨hs5_, h4_, rfl⟩)⟩
def ST_X9_countHeld_4 (b : Nat) (w : Nat) (v : Int32) (Mz : mM) (v3_4 : Int32) (v2_4 : Int32) (v3_4y : Int32) (v2_4y : Int32) : Prop := (0 ≤ v3_4.toInt) ∧ (v3_4.toInt ≤ 192) ∧ (v3_4.toInt < 192) ∧ ∃ r3_ : Int32, (SP_X9_held b w v3_4 Mz r3_) ∧ (((¬ r3_.toInt = v.toInt) ∧ ∃ z9_ : Int32, (z9_.toInt = v3_4.toInt + 1) ∧ v3_4y = z9_ ∧ v2_4y = v2_4) ∨ ((r3_.toInt = v.toInt) ∧ ∃ z11_ : Int32, (z11_ = v2_4 + Int32.ofInt 1) ∧ ∃ z13_ : Int32, (z13_.toInt = v3_4.toInt + 1) ∧ v3_4y = z13_ ∧ v2_4y = z11_))
def SP_X9_countHeld (b : Nat) (w : Nat) (v : Int32) (Mz : mM) (r_ : Int32) : Prop := ∃ v3_4 : Int32, (0 ≤ v3_4.toInt) ∧ (v3_4.toInt ≤ 192) ∧ ∃ v2_4 : Int32, (RCH (fun x_ y_ => ST_X9_countHeld_4 b w v Mz x_.1 x_.2 y_.1 y_.2) ((0 : Int32), (0 : Int32)) (v3_4, v2_4)) ∧ (192 ≤ v3_4.toInt) ∧ r_ = v2_4
set_option maxHeartbeats 4000000 in
set_option maxRecDepth 100000 in
theorem c_X9_countHeld (l : Launch) (G : va_G) (cy : Nat → ClassId) (ad : rf → Nat) (d : Nat) (b : Nat) (w : Nat) (v : Int32) (Mz : mM) (hIz : Inv Mz) (hb : b < 3) (hw : w < 8) : WP CC l G cy ad yX9_countHeld cX9_countHeld 4 (some .int) (d + 2) 0 [(0, vR (9, b, w)), (1, vI v)] [] Mz (fun r M' => Mz = M' ∧ (True) ∧ SP_X9_countHeld b w v Mz r) := by
  refine w_iconst (v := 0) dX9_countHeld_0 (by decide) ?_
  refine w_istore_n (ls' := [(2, vI 0), (0, vR (9, b, w)), (1, vI v)]) dX9_countHeld_1 rfl (by decide) rfl ?_
  refine w_iconst (v := 0) dX9_countHeld_2 (by decide) ?_
  refine w_istore_n (ls' := [(3, vI 0), (2, vI 0), (0, vR (9, b, w)), (1, vI v)]) dX9_countHeld_3 rfl (by decide) rfl ?_
  have lp1_ : ∀ (nn_4 : Nat) (v3_4 : Int32) (v2_4 : Int32) (hv0_4 : 0 ≤ v3_4.toInt) (hv1_4 : v3_4.toInt ≤ 192) (hL_4 : RCH (fun x_ y_ => ST_X9_countHeld_4 b w v Mz x_.1 x_.2 y_.1 y_.2) ((0 : Int32), (0 : Int32)) (v3_4, v2_4)), (2147483648 - v3_4.toInt).toNat < nn_4 → WP CC l G cy ad yX9_countHeld cX9_countHeld 4 (some .int) (d + 2) 4 [(3, vI v3_4), (2, vI v2_4), (0, vR (9, b, w)), (1, vI v)] [] Mz (fun r M' => Mz = M' ∧ (True) ∧ SP_X9_countHeld b w v Mz r) := by
    intro nn_4
    induction nn_4 with
    | zero => intro v3_4 v2_4 hv0_4 hv1_4 hL_4 hm_4; exact absurd hm_4 (Nat.not_lt_zero _)
    | succ nn_4 ih_4 =>
      intro v3_4 v2_4 hv0_4 hv1_4 hL_4 hm_4
      refine w_iload_n dX9_countHeld_4 rfl 0 rfl ?_
      refine w_sipush (v := 192) dX9_countHeld_5 (by decide) ?_
      refine w_icmp_ge (tgt := 29) dX9_countHeld_8 (by decide) (rfl : v3_4.toInt = v3_4.toInt) li_192 (fun h2_ => ?_) (fun h2_ => ?_)
      · refine w_iload_n dX9_countHeld_29 rfl 1 rfl ?_
        exact w_iret rfl dX9_countHeld_30 ⟨rfl, trivial, ⟨v3_4, hv0_4, hv1_4, v2_4, hL_4, h2_, rfl⟩⟩
      · refine w_aload_n dX9_countHeld_11 rfl 2 rfl ?_
        refine w_iload_n dX9_countHeld_12 rfl 0 rfl ?_
        refine w_callV (as := [vI v3_4]) (rest := []) (c_X9_held l G cy ad d b w v3_4 Mz hIz hb hw) kV_X9_held pnn_3 (Nat.le_of_ble_eq_true rfl) m_946 rfl rfl rfl (ic_9 hb hw) rfl rfl (by decide) (Nat.le_of_ble_eq_true rfl) dX9_countHeld_13 (fun r3_ M4_ q5_ => ?_)
        obtain ⟨rfl, h6_, hs7_⟩ := q5_
        refine w_iload_n dX9_countHeld_16 rfl 3 rfl ?_
        refine w_icmp_ne (tgt := 23) dX9_countHeld_17 (by decide) (rfl : r3_.toInt = r3_.toInt) (rfl : v.toInt = v.toInt) (fun h8_ => ?_) (fun h8_ => ?_)
        · refine w_iincB (j := 0) (f := fun z9_ => [(3, vI z9_), (2, vI v2_4), (0, vR (9, b, w)), (1, vI v)]) dX9_countHeld_23 rfl (by decide) (fun _ => rfl) (rfl : v3_4.toInt = v3_4.toInt) li_1 (lf_c_X9_begin_2 v3_4 hv0_4 h2_ ) (fun z9_ h10_ => ?_)
          refine w_goto (tgt := 4) dX9_countHeld_26 (by decide) ?_
          refine w_loc (ls' := [(3, vI z9_), (2, vI v2_4), (0, vR (9, b, w)), (1, vI v)]) [0, 1, 2, 3] rfl ?_
          exact ih_4 z9_ v2_4 (lf_c_X5_takeFrom_3 v3_4 z9_ hv0_4 h10_ ) (lf_c_X9_begin_4 v3_4 z9_ h2_ h10_ ) (RCH.tail hL_4 ⟨hv0_4, hv1_4, h2_, r3_, hs7_, (Or.inl ⟨h8_, z9_, h10_, rfl, rfl⟩)⟩) (Nat.lt_of_lt_of_le (lf_c_X9_begin_5 v3_4 z9_ h2_ h10_ ) (Nat.le_of_lt_succ hm_4))
        · refine w_iincX (j := 1) (f := fun z11_ => [(2, vI z11_), (3, vI v3_4), (0, vR (9, b, w)), (1, vI v)]) dX9_countHeld_20 rfl (by decide) (fun _ => rfl) (fun z11_ h12_ => ?_)
          refine w_iincB (j := 1) (f := fun z13_ => [(3, vI z13_), (2, vI z11_), (0, vR (9, b, w)), (1, vI v)]) dX9_countHeld_23 rfl (by decide) (fun _ => rfl) (rfl : v3_4.toInt = v3_4.toInt) li_1 (lf_c_X9_begin_2 v3_4 hv0_4 h2_ ) (fun z13_ h14_ => ?_)
          refine w_goto (tgt := 4) dX9_countHeld_26 (by decide) ?_
          refine w_loc (ls' := [(3, vI z13_), (2, vI z11_), (0, vR (9, b, w)), (1, vI v)]) [0, 1, 2, 3] rfl ?_
          exact ih_4 z13_ z11_ (lf_c_X5_takeFrom_3 v3_4 z13_ hv0_4 h14_ ) (lf_c_X9_begin_4 v3_4 z13_ h2_ h14_ ) (RCH.tail hL_4 ⟨hv0_4, hv1_4, h2_, r3_, hs7_, (Or.inr ⟨h8_, z11_, h12_, z13_, h14_, rfl, rfl⟩)⟩) (Nat.lt_of_lt_of_le (lf_c_X9_begin_5 v3_4 z13_ h2_ h14_ ) (Nat.le_of_lt_succ hm_4))
  exact lp1_ _ 0 0 (lf_c_X5_takeFrom_5 ) (lf_c_X9_begin_7 ) RCH.refl (Nat.lt_succ_self _)
def ST_X9_yardsToFull_2 (b : Nat) (w : Nat) (v : Int32) (Mz : mM) (v2_2 : Int32) (v2_2y : Int32) : Prop := (1 ≤ v2_2.toInt) ∧ (v2_2.toInt ≤ 10) ∧ (v2_2.toInt ≤ 9) ∧ ∃ z3_ : Int32, (z3_ = Mz.1 (9, b, w) 1) ∧ ∃ r5_ : Int32, (SP_X7_cellFrom z3_ v v2_2 Mz r5_) ∧ (-1 ≤ r5_.toInt ∧ r5_.toInt ≤ 191) ∧ ∃ r10_ : Int32, (SP_X9_held b w r5_ Mz r10_) ∧ (¬ r10_.toInt = 2) ∧ ∃ z16_ : Int32, (z16_.toInt = v2_2.toInt + 1) ∧ v2_2y = z16_
def SP_X9_yardsToFull (b : Nat) (w : Nat) (v : Int32) (Mz : mM) (r_ : Int32) : Prop := ∃ v2_2 : Int32, (1 ≤ v2_2.toInt) ∧ (v2_2.toInt ≤ 10) ∧ (RCH (fun x_ y_ => ST_X9_yardsToFull_2 b w v Mz x_ y_) (1 : Int32) v2_2) ∧ (((9 < v2_2.toInt) ∧ r_ = 0) ∨ ((v2_2.toInt ≤ 9) ∧ ∃ z3_ : Int32, (z3_ = Mz.1 (9, b, w) 1) ∧ ∃ r5_ : Int32, (SP_X7_cellFrom z3_ v v2_2 Mz r5_) ∧ (-1 ≤ r5_.toInt ∧ r5_.toInt ≤ 191) ∧ ∃ r10_ : Int32, (SP_X9_held b w r5_ Mz r10_) ∧ (r10_.toInt = 2) ∧ r_ = v2_2))
theorem lf_c_X9_yardsToFull_0 (v2_2 : Int32) (hv0_2 : 1 ≤ v2_2.toInt) (h2_ : v2_2.toInt ≤ 9) : -2147483648 ≤ v2_2.toInt + 1 ∧ v2_2.toInt + 1 < 2147483648 := by omega
theorem lf_c_X9_yardsToFull_1 (v2_2 : Int32) (z16_ : Int32) (hv0_2 : 1 ≤ v2_2.toInt) (h17_ : z16_.toInt = v2_2.toInt + 1) : 1 ≤ z16_.toInt := by omega
theorem lf_c_X9_yardsToFull_2 (v2_2 : Int32) (z16_ : Int32) (h2_ : v2_2.toInt ≤ 9) (h17_ : z16_.toInt = v2_2.toInt + 1) : z16_.toInt ≤ 10 := by omega
theorem lf_c_X9_yardsToFull_3 (v2_2 : Int32) (z16_ : Int32) (h2_ : v2_2.toInt ≤ 9) (h17_ : z16_.toInt = v2_2.toInt + 1) : (2147483648 - z16_.toInt).toNat < (2147483648 - v2_2.toInt).toNat := by omega
theorem lf_c_X9_yardsToFull_4 : 1 ≤ (1 : Int32).toInt := by have q0 := li_1; omega
theorem lf_c_X9_yardsToFull_5 : (1 : Int32).toInt ≤ 10 := by have q0 := li_1; omega
set_option maxHeartbeats 4000000 in
set_option maxRecDepth 100000 in
theorem c_X9_yardsToFull (l : Launch) (G : va_G) (cy : Nat → ClassId) (ad : rf → Nat) (d : Nat) (b : Nat) (w : Nat) (v : Int32) (Mz : mM) (hIz : Inv Mz) (hb : b < 3) (hw : w < 8) : WP CC l G cy ad yX9_yardsToFull cX9_yardsToFull 3 (some .int) (d + 2) 0 [(0, vR (9, b, w)), (1, vI v)] [] Mz (fun r M' => Mz = M' ∧ (True) ∧ SP_X9_yardsToFull b w v Mz r) := by
  refine w_iconst (v := 1) dX9_yardsToFull_0 (by decide) ?_
  refine w_istore_n (ls' := [(2, vI 1), (0, vR (9, b, w)), (1, vI v)]) dX9_yardsToFull_1 rfl (by decide) rfl ?_
  have lp1_ : ∀ (nn_2 : Nat) (v2_2 : Int32) (hv0_2 : 1 ≤ v2_2.toInt) (hv1_2 : v2_2.toInt ≤ 10) (hL_2 : RCH (fun x_ y_ => ST_X9_yardsToFull_2 b w v Mz x_ y_) (1 : Int32) v2_2), (2147483648 - v2_2.toInt).toNat < nn_2 → WP CC l G cy ad yX9_yardsToFull cX9_yardsToFull 3 (some .int) (d + 2) 2 [(2, vI v2_2), (0, vR (9, b, w)), (1, vI v)] [] Mz (fun r M' => Mz = M' ∧ (True) ∧ SP_X9_yardsToFull b w v Mz r) := by
    intro nn_2
    induction nn_2 with
    | zero => intro v2_2 hv0_2 hv1_2 hL_2 hm_2; exact absurd hm_2 (Nat.not_lt_zero _)
    | succ nn_2 ih_2 =>
      intro v2_2 hv0_2 hv1_2 hL_2 hm_2
      refine w_iload_n dX9_yardsToFull_2 rfl 0 rfl ?_
      refine w_bipush (v := 9) dX9_yardsToFull_3 (by decide) ?_
      refine w_icmp_gt (tgt := 33) dX9_yardsToFull_5 (by decide) (rfl : v2_2.toInt = v2_2.toInt) li_9 (fun h2_ => ?_) (fun h2_ => ?_)
      · refine w_iconst (v := 0) dX9_yardsToFull_33 (by decide) ?_
        exact w_iret rfl dX9_yardsToFull_34 ⟨rfl, trivial, ⟨v2_2, hv0_2, hv1_2, hL_2, (Or.inl ⟨h2_, rfl⟩)⟩⟩
      · refine w_aload_n dX9_yardsToFull_8 rfl 1 rfl ?_
        refine w_aload_n dX9_yardsToFull_9 rfl 1 rfl ?_
        refine w_getI fl_RX9_13 rfl rfl (ic_9 hb hw) dX9_yardsToFull_10 (fun z3_ e4_ => ?_)
        refine w_iload_n dX9_yardsToFull_13 rfl 2 rfl ?_
        refine w_iload_n dX9_yardsToFull_14 rfl 0 rfl ?_
        refine w_callS (as := [vI z3_, vI v, vI v2_2]) (rest := [vR (9, b, w)]) (c_X7_cellFrom l G cy ad d z3_ v v2_2 Mz hIz) kS_X7_cellFrom pnn_1 (Nat.le_of_ble_eq_true rfl) m_1049 rfl rfl (by decide) (Nat.le_of_ble_eq_true rfl) dX9_yardsToFull_15 (fun r5_ M6_ q7_ => ?_)
        obtain ⟨rfl, h8_, hs9_⟩ := q7_
        refine w_callV (as := [vI r5_]) (rest := []) (c_X9_held l G cy ad d b w r5_ Mz hIz hb hw) kV_X9_held pnn_3 (Nat.le_of_ble_eq_true rfl) m_946 rfl rfl rfl (ic_9 hb hw) rfl rfl (by decide) (Nat.le_of_ble_eq_true rfl) dX9_yardsToFull_18 (fun r10_ M11_ q12_ => ?_)
        obtain ⟨rfl, h13_, hs14_⟩ := q12_
        refine w_iconst (v := 2) dX9_yardsToFull_21 (by decide) ?_
        refine w_icmp_ne (tgt := 27) dX9_yardsToFull_22 (by decide) (rfl : r10_.toInt = r10_.toInt) li_2 (fun h15_ => ?_) (fun h15_ => ?_)
        · refine w_iincB (j := 0) (f := fun z16_ => [(2, vI z16_), (0, vR (9, b, w)), (1, vI v)]) dX9_yardsToFull_27 rfl (by decide) (fun _ => rfl) (rfl : v2_2.toInt = v2_2.toInt) li_1 (lf_c_X9_yardsToFull_0 v2_2 hv0_2 h2_ ) (fun z16_ h17_ => ?_)
          refine w_goto (tgt := 2) dX9_yardsToFull_30 (by decide) ?_
          refine w_loc (ls' := [(2, vI z16_), (0, vR (9, b, w)), (1, vI v)]) [0, 1, 2] rfl ?_
          exact ih_2 z16_ (lf_c_X9_yardsToFull_1 v2_2 z16_ hv0_2 h17_ ) (lf_c_X9_yardsToFull_2 v2_2 z16_ h2_ h17_ ) (RCH.tail hL_2 ⟨hv0_2, hv1_2, h2_, z3_, e4_, r5_, hs9_, h8_, r10_, hs14_, h15_, z16_, h17_, rfl⟩) (Nat.lt_of_lt_of_le (lf_c_X9_yardsToFull_3 v2_2 z16_ h2_ h17_ ) (Nat.le_of_lt_succ hm_2))
        · refine w_iload_n dX9_yardsToFull_25 rfl 0 rfl ?_
          exact w_iret rfl dX9_yardsToFull_26 ⟨rfl, trivial, ⟨v2_2, hv0_2, hv1_2, hL_2, (Or.inr ⟨h2_, z3_, e4_, r5_, hs9_, h8_, r10_, hs14_, h15_, rfl⟩)⟩⟩
  exact lp1_ _ 1 (lf_c_X9_yardsToFull_4 ) (lf_c_X9_yardsToFull_5 ) RCH.refl (Nat.lt_succ_self _)
def ST_X9_yardsHeldFree_2 (b : Nat) (w : Nat) (Mz : mM) (v1_2 : Int32) (v1_2y : Int32) : Prop := (0 ≤ v1_2.toInt) ∧ (v1_2.toInt ≤ 15) ∧ (v1_2.toInt < 15) ∧ ∃ z3_ : Int32, (z3_ = Mz.1 (9, b, w) 1) ∧ ∃ z5_ : Int32, (z5_ = Mz.1 (9, b, w) 2) ∧ ∃ z7_ : Int32, (z7_.toInt = v1_2.toInt + 1) ∧ ∃ r9_ : Int32, (SP_X7_cellFrom z3_ z5_ z7_ Mz r9_) ∧ (-1 ≤ r9_.toInt ∧ r9_.toInt ≤ 191) ∧ ∃ r14_ : Int32, (SP_X9_held b w r9_ Mz r14_) ∧ (r14_.toInt = 1) ∧ ∃ z20_ : Int32, (z20_.toInt = v1_2.toInt + 1) ∧ v1_2y = z20_
def SP_X9_yardsHeldFree (b : Nat) (w : Nat) (Mz : mM) (r_ : Int32) : Prop := ∃ v1_2 : Int32, (0 ≤ v1_2.toInt) ∧ (v1_2.toInt ≤ 15) ∧ (RCH (fun x_ y_ => ST_X9_yardsHeldFree_2 b w Mz x_ y_) (0 : Int32) v1_2) ∧ (((15 ≤ v1_2.toInt) ∧ r_ = v1_2) ∨ ((v1_2.toInt < 15) ∧ ∃ z3_ : Int32, (z3_ = Mz.1 (9, b, w) 1) ∧ ∃ z5_ : Int32, (z5_ = Mz.1 (9, b, w) 2) ∧ ∃ z7_ : Int32, (z7_.toInt = v1_2.toInt + 1) ∧ ∃ r9_ : Int32, (SP_X7_cellFrom z3_ z5_ z7_ Mz r9_) ∧ (-1 ≤ r9_.toInt ∧ r9_.toInt ≤ 191) ∧ ∃ r14_ : Int32, (SP_X9_held b w r9_ Mz r14_) ∧ (¬ r14_.toInt = 1) ∧ r_ = v1_2))
theorem lf_c_X9_yardsHeldFree_0 (v1_2 : Int32) (hv0_2 : 0 ≤ v1_2.toInt) (h2_ : v1_2.toInt < 15) : -2147483648 ≤ v1_2.toInt + 1 ∧ v1_2.toInt + 1 < 2147483648 := by omega
theorem lf_c_X9_yardsHeldFree_3 (v1_2 : Int32) (z20_ : Int32) (h2_ : v1_2.toInt < 15) (h21_ : z20_.toInt = v1_2.toInt + 1) : z20_.toInt ≤ 15 := by omega
theorem lf_c_X9_yardsHeldFree_4 (v1_2 : Int32) (z20_ : Int32) (h2_ : v1_2.toInt < 15) (h21_ : z20_.toInt = v1_2.toInt + 1) : (2147483648 - z20_.toInt).toNat < (2147483648 - v1_2.toInt).toNat := by omega
theorem lf_c_X9_yardsHeldFree_6 : (0 : Int32).toInt ≤ 15 := by have q0 := li_0; omega
set_option maxHeartbeats 4000000 in
set_option maxRecDepth 100000 in
theorem c_X9_yardsHeldFree (l : Launch) (G : va_G) (cy : Nat → ClassId) (ad : rf → Nat) (d : Nat) (b : Nat) (w : Nat) (Mz : mM) (hIz : Inv Mz) (hb : b < 3) (hw : w < 8) : WP CC l G cy ad yX9_yardsHeldFree cX9_yardsHeldFree 2 (some .int) (d + 2) 0 [(0, vR (9, b, w))] [] Mz (fun r M' => Mz = M' ∧ (True) ∧ SP_X9_yardsHeldFree b w Mz r) := by
  refine w_iconst (v := 0) dX9_yardsHeldFree_0 (by decide) ?_
  refine w_istore_n (ls' := [(1, vI 0), (0, vR (9, b, w))]) dX9_yardsHeldFree_1 rfl (by decide) rfl ?_
  have lp1_ : ∀ (nn_2 : Nat) (v1_2 : Int32) (hv0_2 : 0 ≤ v1_2.toInt) (hv1_2 : v1_2.toInt ≤ 15) (hL_2 : RCH (fun x_ y_ => ST_X9_yardsHeldFree_2 b w Mz x_ y_) (0 : Int32) v1_2), (2147483648 - v1_2.toInt).toNat < nn_2 → WP CC l G cy ad yX9_yardsHeldFree cX9_yardsHeldFree 2 (some .int) (d + 2) 2 [(1, vI v1_2), (0, vR (9, b, w))] [] Mz (fun r M' => Mz = M' ∧ (True) ∧ SP_X9_yardsHeldFree b w Mz r) := by
    intro nn_2
    induction nn_2 with
    | zero => intro v1_2 hv0_2 hv1_2 hL_2 hm_2; exact absurd hm_2 (Nat.not_lt_zero _)
    | succ nn_2 ih_2 =>
      intro v1_2 hv0_2 hv1_2 hL_2 hm_2
      refine w_iload_n dX9_yardsHeldFree_2 rfl 0 rfl ?_
      refine w_bipush (v := 15) dX9_yardsHeldFree_3 (by decide) ?_
      refine w_icmp_ge (tgt := 36) dX9_yardsHeldFree_5 (by decide) (rfl : v1_2.toInt = v1_2.toInt) li_15 (fun h2_ => ?_) (fun h2_ => ?_)
      · refine w_iload_n dX9_yardsHeldFree_36 rfl 0 rfl ?_
        exact w_iret rfl dX9_yardsHeldFree_37 ⟨rfl, trivial, ⟨v1_2, hv0_2, hv1_2, hL_2, (Or.inl ⟨h2_, rfl⟩)⟩⟩
      · refine w_aload_n dX9_yardsHeldFree_8 rfl 1 rfl ?_
        refine w_aload_n dX9_yardsHeldFree_9 rfl 1 rfl ?_
        refine w_getI fl_RX9_13 rfl rfl (ic_9 hb hw) dX9_yardsHeldFree_10 (fun z3_ e4_ => ?_)
        refine w_aload_n dX9_yardsHeldFree_13 rfl 1 rfl ?_
        refine w_getI fl_RX9_16 rfl rfl (ic_9 hb hw) dX9_yardsHeldFree_14 (fun z5_ e6_ => ?_)
        refine w_iload_n dX9_yardsHeldFree_17 rfl 0 rfl ?_
        refine w_iconst (v := 1) dX9_yardsHeldFree_18 (by decide) ?_
        refine w_iaddB dX9_yardsHeldFree_19 (rfl : v1_2.toInt = v1_2.toInt) li_1 (lf_c_X9_yardsHeldFree_0 v1_2 hv0_2 h2_ ) (fun z7_ h8_ => ?_)
        refine w_callS (as := [vI z3_, vI z5_, vI z7_]) (rest := [vR (9, b, w)]) (c_X7_cellFrom l G cy ad d z3_ z5_ z7_ Mz hIz) kS_X7_cellFrom pnn_1 (Nat.le_of_ble_eq_true rfl) m_1049 rfl rfl (by decide) (Nat.le_of_ble_eq_true rfl) dX9_yardsHeldFree_20 (fun r9_ M10_ q11_ => ?_)
        obtain ⟨rfl, h12_, hs13_⟩ := q11_
        refine w_callV (as := [vI r9_]) (rest := []) (c_X9_held l G cy ad d b w r9_ Mz hIz hb hw) kV_X9_held pnn_3 (Nat.le_of_ble_eq_true rfl) m_946 rfl rfl rfl (ic_9 hb hw) rfl rfl (by decide) (Nat.le_of_ble_eq_true rfl) dX9_yardsHeldFree_23 (fun r14_ M15_ q16_ => ?_)
        obtain ⟨rfl, h17_, hs18_⟩ := q16_
        refine w_iconst (v := 1) dX9_yardsHeldFree_26 (by decide) ?_
        refine w_icmp_ne (tgt := 36) dX9_yardsHeldFree_27 (by decide) (rfl : r14_.toInt = r14_.toInt) li_1 (fun h19_ => ?_) (fun h19_ => ?_)
        · refine w_iload_n dX9_yardsHeldFree_36 rfl 0 rfl ?_
          exact w_iret rfl dX9_yardsHeldFree_37 ⟨rfl, trivial, ⟨v1_2, hv0_2, hv1_2, hL_2, (Or.inr ⟨h2_, z3_, e4_, z5_, e6_, z7_, h8_, r9_, hs13_, h12_, r14_, hs18_, h19_, rfl⟩)⟩⟩
        · refine w_iincB (j := 0) (f := fun z20_ => [(1, vI z20_), (0, vR (9, b, w))]) dX9_yardsHeldFree_30 rfl (by decide) (fun _ => rfl) (rfl : v1_2.toInt = v1_2.toInt) li_1 (lf_c_X9_yardsHeldFree_0 v1_2 hv0_2 h2_ ) (fun z20_ h21_ => ?_)
          refine w_goto (tgt := 2) dX9_yardsHeldFree_33 (by decide) ?_
          refine w_loc (ls' := [(1, vI z20_), (0, vR (9, b, w))]) [0, 1] rfl ?_
          exact ih_2 z20_ (lf_c_X5_takeFrom_3 v1_2 z20_ hv0_2 h21_ ) (lf_c_X9_yardsHeldFree_3 v1_2 z20_ h2_ h21_ ) (RCH.tail hL_2 ⟨hv0_2, hv1_2, h2_, z3_, e4_, z5_, e6_, z7_, h8_, r9_, hs13_, h12_, r14_, hs18_, h19_, z20_, h21_, rfl⟩) (Nat.lt_of_lt_of_le (lf_c_X9_yardsHeldFree_4 v1_2 z20_ h2_ h21_ ) (Nat.le_of_lt_succ hm_2))
  exact lp1_ _ 0 (lf_c_X5_takeFrom_5 ) (lf_c_X9_yardsHeldFree_6 ) RCH.refl (Nat.lt_succ_self _)
def S_c_X9_turn (b : Nat) (w : Nat) : rf → Nat → Prop := fun c k => (c.1 = 9 ∧ c.2.1 = b ∧ c.2.2 = w ∧ k = 2) ∨ False
def SP_X9_turn (b : Nat) (w : Nat) (v : Int32) (Mz : mM) (M_ : mM) : Prop := ∃ z1_ : Int32, (z1_ = Mz.1 (9, b, w) 2) ∧ ∃ z3_ : Int32, (z3_ = z1_ + v) ∧ ∃ z5_ : Int32, (z5_ = z3_ &&& (7 : Int32)) ∧ (0 ≤ z5_.toInt ∧ z5_.toInt < ((2 ^ 3 : Nat) : Int)) ∧ ∃ M8_ : mM, (M8_ = up Mz (9, b, w) 2 z5_) ∧ M_ = M8_
set_option maxHeartbeats 4000000 in
set_option maxRecDepth 100000 in
theorem c_X9_turn (l : Launch) (G : va_G) (cy : Nat → ClassId) (ad : rf → Nat) (d : Nat) (b : Nat) (w : Nat) (v : Int32) (Mz : mM) (hIz : Inv Mz) (hb : b < 3) (hw : w < 8) : WP CC l G cy ad yX9_turn cX9_turn 2 none d 0 [(0, vR (9, b, w)), (1, vI v)] [] Mz (fun r M' => Inv M' ∧ FR (S_c_X9_turn b w) Mz M' ∧ (True) ∧ SP_X9_turn b w v Mz M') := by
  have hFz : FR (S_c_X9_turn b w) Mz Mz := FR.self
  refine w_aload_n dX9_turn_0 rfl 0 rfl ?_
  refine w_aload_n dX9_turn_1 rfl 0 rfl ?_
  refine w_getI fl_RX9_16 rfl rfl (ic_9 hb hw) dX9_turn_2 (fun z1_ e2_ => ?_)
  refine w_iload_n dX9_turn_5 rfl 1 rfl ?_
  refine w_iadd dX9_turn_6 (fun z3_ h4_ => ?_)
  refine w_bipush (v := 7) dX9_turn_7 (by decide) ?_
  refine w_iand dX9_turn_9 (fun z5_ h7_ => ?_)
  have h6_ : 0 ≤ z5_.toInt ∧ z5_.toInt < ((2 ^ 3 : Nat) : Int) := by rw [h7_]; exact andI _ 3 (by decide) (by decide)
  refine w_putI CC_nd fl_RX9_16 rfl rfl (ic_9 hb hw) dX9_turn_10 (fun M8_ hM9_ => ?_)
  have hI10_ := hIz.put hM9_ (fun h => absurd h (by decide))
  have hF11_ := hFz.put hM9_ (Or.inl ⟨rfl, rfl, rfl, rfl⟩)
  exact w_vret rfl dX9_turn_13 ⟨hI10_, hF11_, trivial, ⟨z1_, e2_, z3_, h4_, z5_, h7_, h6_, M8_, hM9_, rfl⟩⟩
def S_c_X9_takeFrom (b : Nat) (w : Nat) (b2 : Nat) (w2 : Nat) : rf → Nat → Prop := fun c k => (c.1 = 9 ∧ c.2.1 = b ∧ c.2.2 = w ∧ k = 0) ∨ (c.1 = 9 ∧ c.2.1 = b ∧ c.2.2 = w ∧ k = 1) ∨ (c.1 = 9 ∧ c.2.1 = b ∧ c.2.2 = w ∧ k = 2) ∨ (c.1 = 9 ∧ c.2.1 = b ∧ c.2.2 = w ∧ k = 3) ∨ (c.1 = 9 ∧ c.2.1 = b ∧ c.2.2 = w ∧ k = 4) ∨ (c.1 = 9 ∧ c.2.1 = b ∧ c.2.2 = w ∧ k = 5) ∨ (c.1 = 9 ∧ c.2.1 = b ∧ c.2.2 = w ∧ k = 6) ∨ (c.1 = 9 ∧ c.2.1 = b ∧ c.2.2 = w ∧ k = 7) ∨ (c.1 = 9 ∧ c.2.1 = b ∧ c.2.2 = w ∧ k = 8) ∨ (c.1 = 40 ∧ c.2.1 = b ∧ c.2.2 = w) ∨ (c.1 = 41 ∧ c.2.1 = b ∧ c.2.2 = w) ∨ False
def SP_X9_takeFrom (b : Nat) (w : Nat) (b2 : Nat) (w2 : Nat) (Mz : mM) (M_ : mM) : Prop := ∃ z1_ : Int32, (z1_ = Mz.1 (9, b2, w2) 0) ∧ ∃ M3_ : mM, (M3_ = up Mz (9, b, w) 0 z1_) ∧ ∃ z7_ : Int32, (z7_ = M3_.1 (9, b2, w2) 1) ∧ ∃ M9_ : mM, (M9_ = up M3_ (9, b, w) 1 z7_) ∧ ∃ z13_ : Int32, (z13_ = M9_.1 (9, b2, w2) 2) ∧ ∃ M15_ : mM, (M15_ = up M9_ (9, b, w) 2 z13_) ∧ ∃ z19_ : Int32, (z19_ = M15_.1 (9, b2, w2) 3) ∧ ∃ M21_ : mM, (M21_ = up M15_ (9, b, w) 3 z19_) ∧ ∃ z25_ : Int32, (z25_ = M21_.1 (9, b2, w2) 4) ∧ ∃ M27_ : mM, (M27_ = up M21_ (9, b, w) 4 z25_) ∧ ∃ z31_ : Int32, (z31_ = M27_.1 (9, b2, w2) 5) ∧ ∃ M33_ : mM, (M33_ = up M27_ (9, b, w) 5 z31_) ∧ ∃ z37_ : Int32, (z37_ = M33_.1 (9, b2, w2) 6) ∧ (0 ≤ z37_.toInt ∧ z37_.toInt ≤ 1) ∧ ∃ M40_ : mM, (M40_ = up M33_ (9, b, w) 6 z37_) ∧ ∃ z44_ : Int32, (z44_ = M40_.1 (9, b2, w2) 7) ∧ ∃ M46_ : mM, (M46_ = up M40_ (9, b, w) 7 z44_) ∧ ∃ z50_ : Int32, (z50_ = M46_.1 (9, b2, w2) 8) ∧ ∃ M52_ : mM, (M52_ = up M46_ (9, b, w) 8 z50_) ∧ ∃ M56_ : mM, (M56_ = cp M52_ (40, b2, w2) (40, b, w) (0 : Int32).toNatClampNeg (0 : Int32).toNatClampNeg (192 : Int32).toNatClampNeg) ∧ ∃ M60_ : mM, (M60_ = cp M56_ (41, b2, w2) (41, b, w) (0 : Int32).toNatClampNeg (0 : Int32).toNatClampNeg (192 : Int32).toNatClampNeg) ∧ M_ = M60_
set_option maxHeartbeats 4000000 in
set_option maxRecDepth 100000 in
theorem c_X9_takeFrom (l : Launch) (G : va_G) (cy : Nat → ClassId) (ad : rf → Nat) (d : Nat) (b : Nat) (w : Nat) (b2 : Nat) (w2 : Nat) (Mz : mM) (hIz : Inv Mz) (hb : b < 3) (hw : w < 8) (hb2 : b2 < 3) (hw2 : w2 < 8) : WP CC l G cy ad yX9_takeFrom cX9_takeFrom 2 none (d + 1) 0 [(0, vR (9, b, w)), (1, vR (9, b2, w2))] [] Mz (fun r M' => Inv M' ∧ FR (S_c_X9_takeFrom b w b2 w2) Mz M' ∧ (True) ∧ SP_X9_takeFrom b w b2 w2 Mz M') := by
  have hFz : FR (S_c_X9_takeFrom b w b2 w2) Mz Mz := FR.self
  refine w_aload_n dX9_takeFrom_0 rfl 0 rfl ?_
  refine w_aload_n dX9_takeFrom_1 rfl 1 rfl ?_
  refine w_getI fl_RX9_7 rfl rfl (ic_9 hb2 hw2) dX9_takeFrom_2 (fun z1_ e2_ => ?_)
  refine w_putI CC_nd fl_RX9_7 rfl rfl (ic_9 hb hw) dX9_takeFrom_5 (fun M3_ hM4_ => ?_)
  have hI5_ := hIz.put hM4_ (fun h => absurd h (by decide))
  have hF6_ := hFz.put hM4_ (Or.inl ⟨rfl, rfl, rfl, rfl⟩)
  refine w_aload_n dX9_takeFrom_8 rfl 0 rfl ?_
  refine w_aload_n dX9_takeFrom_9 rfl 1 rfl ?_
  refine w_getI fl_RX9_13 rfl rfl (ic_9 hb2 hw2) dX9_takeFrom_10 (fun z7_ e8_ => ?_)
  refine w_putI CC_nd fl_RX9_13 rfl rfl (ic_9 hb hw) dX9_takeFrom_13 (fun M9_ hM10_ => ?_)
  have hI11_ := hI5_.put hM10_ (fun h => absurd h (by decide))
  have hF12_ := hF6_.put hM10_ (Or.inr (Or.inl ⟨rfl, rfl, rfl, rfl⟩))
  refine w_aload_n dX9_takeFrom_16 rfl 0 rfl ?_
  refine w_aload_n dX9_takeFrom_17 rfl 1 rfl ?_
  refine w_getI fl_RX9_16 rfl rfl (ic_9 hb2 hw2) dX9_takeFrom_18 (fun z13_ e14_ => ?_)
  refine w_putI CC_nd fl_RX9_16 rfl rfl (ic_9 hb hw) dX9_takeFrom_21 (fun M15_ hM16_ => ?_)
  have hI17_ := hI11_.put hM16_ (fun h => absurd h (by decide))
  have hF18_ := hF12_.put hM16_ (Or.inr (Or.inr (Or.inl ⟨rfl, rfl, rfl, rfl⟩)))
  refine w_aload_n dX9_takeFrom_24 rfl 0 rfl ?_
  refine w_aload_n dX9_takeFrom_25 rfl 1 rfl ?_
  refine w_getI fl_RX9_19 rfl rfl (ic_9 hb2 hw2) dX9_takeFrom_26 (fun z19_ e20_ => ?_)
  refine w_putI CC_nd fl_RX9_19 rfl rfl (ic_9 hb hw) dX9_takeFrom_29 (fun M21_ hM22_ => ?_)
  have hI23_ := hI17_.put hM22_ (fun h => absurd h (by decide))
  have hF24_ := hF18_.put hM22_ (Or.inr (Or.inr (Or.inr (Or.inl ⟨rfl, rfl, rfl, rfl⟩))))
  refine w_aload_n dX9_takeFrom_32 rfl 0 rfl ?_
  refine w_aload_n dX9_takeFrom_33 rfl 1 rfl ?_
  refine w_getI fl_RX9_22 rfl rfl (ic_9 hb2 hw2) dX9_takeFrom_34 (fun z25_ e26_ => ?_)
  refine w_putI CC_nd fl_RX9_22 rfl rfl (ic_9 hb hw) dX9_takeFrom_37 (fun M27_ hM28_ => ?_)
  have hI29_ := hI23_.put hM28_ (fun h => absurd h (by decide))
  have hF30_ := hF24_.put hM28_ (Or.inr (Or.inr (Or.inr (Or.inr (Or.inl ⟨rfl, rfl, rfl, rfl⟩)))))
  refine w_aload_n dX9_takeFrom_40 rfl 0 rfl ?_
  refine w_aload_n dX9_takeFrom_41 rfl 1 rfl ?_
  refine w_getI fl_RX9_25 rfl rfl (ic_9 hb2 hw2) dX9_takeFrom_42 (fun z31_ e32_ => ?_)
  refine w_putI CC_nd fl_RX9_25 rfl rfl (ic_9 hb hw) dX9_takeFrom_45 (fun M33_ hM34_ => ?_)
  have hI35_ := hI29_.put hM34_ (fun h => absurd h (by decide))
  have hF36_ := hF30_.put hM34_ (Or.inr (Or.inr (Or.inr (Or.inr (Or.inr (Or.inl ⟨rfl, rfl, rfl, rfl⟩))))))
  refine w_aload_n dX9_takeFrom_48 rfl 0 rfl ?_
  refine w_aload_n dX9_takeFrom_49 rfl 1 rfl ?_
  refine w_getI fl_RX9_28 rfl rfl (ic_9 hb2 hw2) dX9_takeFrom_50 (fun z37_ e38_ => ?_)
  have h39_ : 0 ≤ z37_.toInt ∧ z37_.toInt ≤ 1 := ofEq (P := fun v => 0 ≤ v.toInt ∧ v.toInt ≤ 1) e38_ (hI35_ (9, b2, w2) 6 rfl)
  refine w_putZ CC_nd fl_RX9_28 rfl rfl (ic_9 hb hw) h39_ dX9_takeFrom_53 (fun M40_ hM41_ => ?_)
  have hI42_ := hI35_.put hM41_ (fun _ => h39_)
  have hF43_ := hF36_.put hM41_ (Or.inr (Or.inr (Or.inr (Or.inr (Or.inr (Or.inr (Or.inl ⟨rfl, rfl, rfl, rfl⟩)))))))
  refine w_aload_n dX9_takeFrom_56 rfl 0 rfl ?_
  refine w_aload_n dX9_takeFrom_57 rfl 1 rfl ?_
  refine w_getI fl_RX9_32 rfl rfl (ic_9 hb2 hw2) dX9_takeFrom_58 (fun z44_ e45_ => ?_)
  refine w_putI CC_nd fl_RX9_32 rfl rfl (ic_9 hb hw) dX9_takeFrom_61 (fun M46_ hM47_ => ?_)
  have hI48_ := hI42_.put hM47_ (fun h => absurd h (by decide))
  have hF49_ := hF43_.put hM47_ (Or.inr (Or.inr (Or.inr (Or.inr (Or.inr (Or.inr (Or.inr (Or.inl ⟨rfl, rfl, rfl, rfl⟩))))))))
  refine w_aload_n dX9_takeFrom_64 rfl 0 rfl ?_
  refine w_aload_n dX9_takeFrom_65 rfl 1 rfl ?_
  refine w_getI fl_RX9_35 rfl rfl (ic_9 hb2 hw2) dX9_takeFrom_66 (fun z50_ e51_ => ?_)
  refine w_putI CC_nd fl_RX9_35 rfl rfl (ic_9 hb hw) dX9_takeFrom_69 (fun M52_ hM53_ => ?_)
  have hI54_ := hI48_.put hM53_ (fun h => absurd h (by decide))
  have hF55_ := hF49_.put hM53_ (Or.inr (Or.inr (Or.inr (Or.inr (Or.inr (Or.inr (Or.inr (Or.inr (Or.inl ⟨rfl, rfl, rfl, rfl⟩)))))))))
  refine w_aload_n dX9_takeFrom_72 rfl 1 rfl ?_
  refine w_getR (c' := (40, b2, w2)) fl_RX9_40 rfl rfl (ic_9 hb2 hw2) dX9_takeFrom_73 rfl ?_
  refine w_iconst (v := 0) dX9_takeFrom_76 (by decide) ?_
  refine w_aload_n dX9_takeFrom_77 rfl 0 rfl ?_
  refine w_getR (c' := (40, b, w)) fl_RX9_40 rfl rfl (ic_9 hb hw) dX9_takeFrom_78 rfl ?_
  refine w_iconst (v := 0) dX9_takeFrom_81 (by decide) ?_
  refine w_sipush (v := 192) dX9_takeFrom_82 (by decide) ?_
  refine w_copy CC_nd rfl rfl (ic_40 hb2 hw2) rfl rfl (ic_40 hb hw) m_1279 m_830 m_829 m_98 li_0 li_0 li_192 (by decide) rfl (by omega) dX9_takeFrom_85 (fun M56_ hM57_ => ?_)
  have hI58_ := hI54_.cpy hM57_ (fun _ _ => trivial)
  have hF59_ := hF55_.cpy hM57_ (fun _ => (Or.inr (Or.inr (Or.inr (Or.inr (Or.inr (Or.inr (Or.inr (Or.inr (Or.inr (Or.inl ⟨rfl, rfl, rfl⟩)))))))))))
  refine w_aload_n dX9_takeFrom_88 rfl 1 rfl ?_
  refine w_getR (c' := (41, b2, w2)) fl_RX9_44 rfl rfl (ic_9 hb2 hw2) dX9_takeFrom_89 rfl ?_
  refine w_iconst (v := 0) dX9_takeFrom_92 (by decide) ?_
  refine w_aload_n dX9_takeFrom_93 rfl 0 rfl ?_
  refine w_getR (c' := (41, b, w)) fl_RX9_44 rfl rfl (ic_9 hb hw) dX9_takeFrom_94 rfl ?_
  refine w_iconst (v := 0) dX9_takeFrom_97 (by decide) ?_
  refine w_sipush (v := 192) dX9_takeFrom_98 (by decide) ?_
  refine w_copy CC_nd rfl rfl (ic_41 hb2 hw2) rfl rfl (ic_41 hb hw) m_1279 m_830 m_829 m_98 li_0 li_0 li_192 (by decide) rfl (by omega) dX9_takeFrom_101 (fun M60_ hM61_ => ?_)
  have hI62_ := hI58_.cpy hM61_ (fun _ _ => trivial)
  have hF63_ := hF59_.cpy hM61_ (fun _ => (Or.inr (Or.inr (Or.inr (Or.inr (Or.inr (Or.inr (Or.inr (Or.inr (Or.inr (Or.inr (Or.inl ⟨rfl, rfl, rfl⟩))))))))))))
  exact w_vret rfl dX9_takeFrom_104 ⟨hI62_, hF63_, trivial, ⟨z1_, e2_, M3_, hM4_, z7_, e8_, M9_, hM10_, z13_, e14_, M15_, hM16_, z19_, e20_, M21_, hM22_, z25_, e26_, M27_, hM28_, z31_, e32_, M33_, hM34_, z37_, e38_, h39_, M40_, hM41_, z44_, e45_, M46_, hM47_, z50_, e51_, M52_, hM53_, M56_, hM57_, M60_, hM61_, rfl⟩⟩
def SP_X6_isMissing (w : Nat) (Mz : mM) (r_ : Int32) : Prop := ∃ z1_ : Int32, (z1_ = Mz.1 (6, 0, w) 0) ∧ (((¬ z1_.toInt = 0) ∧ r_ = 0) ∨ ((z1_.toInt = 0) ∧ r_ = 1))
set_option maxHeartbeats 4000000 in
set_option maxRecDepth 100000 in
theorem c_X6_isMissing (l : Launch) (G : va_G) (cy : Nat → ClassId) (ad : rf → Nat) (d : Nat) (w : Nat) (Mz : mM) (hIz : Inv Mz) (hw : w < 4) : WP CC l G cy ad yX6_isMissing cX6_isMissing 1 (some .boolean) d 0 [(0, vR (6, 0, w))] [] Mz (fun r M' => Mz = M' ∧ ((0 ≤ r.toInt ∧ r.toInt ≤ 1)) ∧ SP_X6_isMissing w Mz r) := by
  refine w_aload_n dX6_isMissing_0 rfl 0 rfl ?_
  refine w_getI fl_RX6_7 rfl rfl (ic_6 hw) dX6_isMissing_1 (fun z1_ e2_ => ?_)
  refine w_if_ne (tgt := 11) dX6_isMissing_4 (by decide) (rfl : z1_.toInt = z1_.toInt) (fun h3_ => ?_) (fun h3_ => ?_)
  · refine w_iconst (v := 0) dX6_isMissing_11 (by decide) ?_
    exact w_zret rfl dX6_isMissing_12 ⟨by decide, by decide⟩ ⟨rfl, ⟨by decide, by decide⟩, ⟨z1_, e2_, (Or.inl ⟨h3_, rfl⟩)⟩⟩
  · refine w_iconst (v := 1) dX6_isMissing_7 (by decide) ?_
    refine w_goto (tgt := 12) dX6_isMissing_8 (by decide) ?_
    exact w_zret rfl dX6_isMissing_12 ⟨by decide, by decide⟩ ⟨rfl, ⟨by decide, by decide⟩, ⟨z1_, e2_, (Or.inr ⟨h3_, rfl⟩)⟩⟩
def S_c_X6_drop (w : Nat) : rf → Nat → Prop := fun c k => (c.1 = 6 ∧ c.2.1 = 0 ∧ c.2.2 = w ∧ k = 0) ∨ (c.1 = 6 ∧ c.2.1 = 0 ∧ c.2.2 = w ∧ k = 1) ∨ False
def SP_X6_drop (w : Nat) (Mz : mM) (M_ : mM) : Prop := ∃ M1_ : mM, (M1_ = up Mz (6, 0, w) 0 0) ∧ ∃ M5_ : mM, (M5_ = up M1_ (6, 0, w) 1 0) ∧ M_ = M5_
set_option maxHeartbeats 4000000 in
set_option maxRecDepth 100000 in
theorem c_X6_drop (l : Launch) (G : va_G) (cy : Nat → ClassId) (ad : rf → Nat) (d : Nat) (w : Nat) (Mz : mM) (hIz : Inv Mz) (hw : w < 4) : WP CC l G cy ad yX6_drop cX6_drop 1 none d 0 [(0, vR (6, 0, w))] [] Mz (fun r M' => Inv M' ∧ FR (S_c_X6_drop w) Mz M' ∧ (True) ∧ SP_X6_drop w Mz M') := by
  have hFz : FR (S_c_X6_drop w) Mz Mz := FR.self
  refine w_aload_n dX6_drop_0 rfl 0 rfl ?_
  refine w_iconst (v := 0) dX6_drop_1 (by decide) ?_
  refine w_putI CC_nd fl_RX6_7 rfl rfl (ic_6 hw) dX6_drop_2 (fun M1_ hM2_ => ?_)
  have hI3_ := hIz.put hM2_ (fun h => absurd h (by decide))
  have hF4_ := hFz.put hM2_ (Or.inl ⟨rfl, rfl, rfl, rfl⟩)
  refine w_aload_n dX6_drop_5 rfl 0 rfl ?_
  refine w_iconst (v := 0) dX6_drop_6 (by decide) ?_
  refine w_putI CC_nd fl_RX6_13 rfl rfl (ic_6 hw) dX6_drop_7 (fun M5_ hM6_ => ?_)
  have hI7_ := hI3_.put hM6_ (fun _ => ⟨by decide, by decide⟩)
  have hF8_ := hF4_.put hM6_ (Or.inr (Or.inl ⟨rfl, rfl, rfl, rfl⟩))
  exact w_vret rfl dX6_drop_10 ⟨hI7_, hF8_, trivial, ⟨M1_, hM2_, M5_, hM6_, rfl⟩⟩
def S_c_X6_begin (w : Nat) : rf → Nat → Prop := fun c k => (c.1 = 6 ∧ c.2.1 = 0 ∧ c.2.2 = w ∧ k = 0) ∨ (c.1 = 6 ∧ c.2.1 = 0 ∧ c.2.2 = w ∧ k = 1) ∨ (c.1 = 34 ∧ c.2.1 = 0 ∧ c.2.2 = w) ∨ False
def ST_X6_begin_21 (w : Nat) (Mz : mM) (v3_21 : Int32) (M_21 : mM) (v3_21y : Int32) (M_21y : mM) : Prop := (0 ≤ v3_21.toInt) ∧ (v3_21.toInt ≤ 24) ∧ (Inv M_21) ∧ (FR (S_c_X6_begin w) Mz M_21) ∧ (v3_21.toInt < 24) ∧ ∃ j17_ : Nat, ((j17_ : Int) = v3_21.toInt) ∧ ∃ M15_ : mM, (M15_ = up M_21 (34, 0, w) j17_ 0) ∧ ∃ z21_ : Int32, (z21_.toInt = v3_21.toInt + 1) ∧ v3_21y = z21_ ∧ M_21y = M15_
def SP_X6_begin (w : Nat) (v : Int32) (u : Int32) (Mz : mM) (M_ : mM) : Prop := ∃ M1_ : mM, (M1_ = up Mz (6, 0, w) 0 v) ∧ ∃ z5_ : Int32, ((z5_.toInt = 24 ∧ 24 ≤ u.toInt) ∨ (z5_.toInt = u.toInt ∧ u.toInt ≤ 24)) ∧ ∃ z7_ : Int32, ((z7_.toInt = 0 ∧ z5_.toInt ≤ 0) ∨ (z7_.toInt = z5_.toInt ∧ 0 ≤ z5_.toInt)) ∧ ∃ M9_ : mM, (M9_ = up M1_ (6, 0, w) 1 z7_) ∧ ∃ v3_21 : Int32, (0 ≤ v3_21.toInt) ∧ (v3_21.toInt ≤ 24) ∧ ∃ M_21 : mM, (RCH (fun x_ y_ => ST_X6_begin_21 w Mz x_.1 x_.2 y_.1 y_.2) ((0 : Int32), M9_) (v3_21, M_21)) ∧ (Inv M_21) ∧ (FR (S_c_X6_begin w) Mz M_21) ∧ (24 ≤ v3_21.toInt) ∧ M_ = M_21
theorem lf_c_X6_begin_0 (u : Int32) (z5_ : Int32) (z7_ : Int32) (h6_ : (z5_.toInt = 24 ∧ 24 ≤ u.toInt) ∨ (z5_.toInt = u.toInt ∧ u.toInt ≤ 24)) (h8_ : (z7_.toInt = 0 ∧ z5_.toInt ≤ 0) ∨ (z7_.toInt = z5_.toInt ∧ 0 ≤ z5_.toInt)) : 0 ≤ z7_.toInt ∧ z7_.toInt ≤ 24 := by omega
theorem lf_c_X6_begin_1 (v3_21 : Int32) (hv0_21 : 0 ≤ v3_21.toInt) (h14_ : v3_21.toInt < 24) : 0 ≤ v3_21.toInt ∧ v3_21.toInt < ((24 : Nat) : Int) := by omega
theorem lf_c_X6_begin_2 (v3_21 : Int32) (hv0_21 : 0 ≤ v3_21.toInt) (h14_ : v3_21.toInt < 24) : -2147483648 ≤ v3_21.toInt + 1 ∧ v3_21.toInt + 1 < 2147483648 := by omega
theorem lf_c_X6_begin_4 (v3_21 : Int32) (z21_ : Int32) (h14_ : v3_21.toInt < 24) (h22_ : z21_.toInt = v3_21.toInt + 1) : z21_.toInt ≤ 24 := by omega
theorem lf_c_X6_begin_5 (v3_21 : Int32) (z21_ : Int32) (h14_ : v3_21.toInt < 24) (h22_ : z21_.toInt = v3_21.toInt + 1) : (2147483648 - z21_.toInt).toNat < (2147483648 - v3_21.toInt).toNat := by omega
theorem lf_c_X6_begin_7 : (0 : Int32).toInt ≤ 24 := by have q0 := li_0; omega
set_option maxHeartbeats 4000000 in
set_option maxRecDepth 100000 in
theorem c_X6_begin (l : Launch) (G : va_G) (cy : Nat → ClassId) (ad : rf → Nat) (d : Nat) (w : Nat) (v : Int32) (u : Int32) (Mz : mM) (hIz : Inv Mz) (hw : w < 4) : WP CC l G cy ad yX6_begin cX6_begin 4 none (d + 1) 0 [(0, vR (6, 0, w)), (1, vI v), (2, vI u)] [] Mz (fun r M' => Inv M' ∧ FR (S_c_X6_begin w) Mz M' ∧ (True) ∧ SP_X6_begin w v u Mz M') := by
  have hFz : FR (S_c_X6_begin w) Mz Mz := FR.self
  refine w_aload_n dX6_begin_0 rfl 0 rfl ?_
  refine w_iload_n dX6_begin_1 rfl 1 rfl ?_
  refine w_putI CC_nd fl_RX6_7 rfl rfl (ic_6 hw) dX6_begin_2 (fun M1_ hM2_ => ?_)
  have hI3_ := hIz.put hM2_ (fun h => absurd h (by decide))
  have hF4_ := hFz.put hM2_ (Or.inl ⟨rfl, rfl, rfl, rfl⟩)
  refine w_aload_n dX6_begin_5 rfl 0 rfl ?_
  refine w_iconst (v := 0) dX6_begin_6 (by decide) ?_
  refine w_bipush (v := 24) dX6_begin_7 (by decide) ?_
  refine w_iload_n dX6_begin_9 rfl 2 rfl ?_
  refine w_min m_1230 m_770 m_86 m_771 li_24 (rfl : u.toInt = u.toInt) (Nat.le_of_ble_eq_true rfl) (by omega) dX6_begin_10 (fun z5_ h6_ => ?_)
  refine w_max m_1231 m_206 m_86 m_207 li_0 (rfl : z5_.toInt = z5_.toInt) (Nat.le_of_ble_eq_true rfl) (by omega) dX6_begin_13 (fun z7_ h8_ => ?_)
  refine w_putI CC_nd fl_RX6_13 rfl rfl (ic_6 hw) dX6_begin_16 (fun M9_ hM10_ => ?_)
  have hI11_ := hI3_.put hM10_ (fun _ => (lf_c_X6_begin_0 u z5_ z7_ h6_ h8_ ))
  have hF12_ := hF4_.put hM10_ (Or.inr (Or.inl ⟨rfl, rfl, rfl, rfl⟩))
  refine w_iconst (v := 0) dX6_begin_19 (by decide) ?_
  refine w_istore_n (ls' := [(3, vI 0), (0, vR (6, 0, w)), (1, vI v), (2, vI u)]) dX6_begin_20 rfl (by decide) rfl ?_
  have lp13_ : ∀ (nn_21 : Nat) (M_21 : mM) (hI_21 : Inv M_21) (hF_21 : FR (S_c_X6_begin w) Mz M_21) (v3_21 : Int32) (hv0_21 : 0 ≤ v3_21.toInt) (hv1_21 : v3_21.toInt ≤ 24) (hL_21 : RCH (fun x_ y_ => ST_X6_begin_21 w Mz x_.1 x_.2 y_.1 y_.2) ((0 : Int32), M9_) (v3_21, M_21)), (2147483648 - v3_21.toInt).toNat < nn_21 → WP CC l G cy ad yX6_begin cX6_begin 4 none (d + 1) 21 [(3, vI v3_21), (0, vR (6, 0, w)), (1, vI v), (2, vI u)] [] M_21 (fun r M' => Inv M' ∧ FR (S_c_X6_begin w) Mz M' ∧ (True) ∧ SP_X6_begin w v u Mz M') := by
    intro nn_21
    induction nn_21 with
    | zero => intro M_21 hI_21 hF_21 v3_21 hv0_21 hv1_21 hL_21 hm_21; exact absurd hm_21 (Nat.not_lt_zero _)
    | succ nn_21 ih_21 =>
      intro M_21 hI_21 hF_21 v3_21 hv0_21 hv1_21 hL_21 hm_21
      refine w_iload_n dX6_begin_21 rfl 0 rfl ?_
      refine w_bipush (v := 24) dX6_begin_22 (by decide) ?_
      refine w_icmp_ge (tgt := 40) dX6_begin_24 (by decide) (rfl : v3_21.toInt = v3_21.toInt) li_24 (fun h14_ => ?_) (fun h14_ => ?_)
      · exact w_vret rfl dX6_begin_40 ⟨hI_21, hF_21, trivial, ⟨M1_, hM2_, z5_, h6_, z7_, h8_, M9_, hM10_, v3_21, hv0_21, hv1_21, M_21, hL_21, hI_21, hF_21, h14_, rfl⟩⟩
      · refine w_aload_n dX6_begin_27 rfl 1 rfl ?_
        refine w_getR (c' := (34, 0, w)) fl_RX6_16 rfl rfl (ic_6 hw) dX6_begin_28 rfl ?_
        refine w_iload_n dX6_begin_31 rfl 0 rfl ?_
        refine w_iconst (v := 0) dX6_begin_32 (by decide) ?_
        refine w_iast CC_nd rfl rfl (ic_34 hw) (rfl : v3_21.toInt = v3_21.toInt) (lf_c_X6_begin_1 v3_21 hv0_21 h14_ ) dX6_begin_33 (fun j17_ h18_ M15_ hM16_ => ?_)
        have hI19_ := hI_21.put hM16_ trivial
        have hF20_ := hF_21.put hM16_ (Or.inr (Or.inr (Or.inl ⟨rfl, rfl, rfl⟩)))
        refine w_iincB (j := 0) (f := fun z21_ => [(3, vI z21_), (0, vR (6, 0, w)), (1, vI v), (2, vI u)]) dX6_begin_34 rfl (by decide) (fun _ => rfl) (rfl : v3_21.toInt = v3_21.toInt) li_1 (lf_c_X6_begin_2 v3_21 hv0_21 h14_ ) (fun z21_ h22_ => ?_)
        refine w_goto (tgt := 21) dX6_begin_37 (by decide) ?_
        refine w_loc (ls' := [(3, vI z21_), (0, vR (6, 0, w)), (1, vI v), (2, vI u)]) [0, 1, 2, 3] rfl ?_
        exact ih_21 M15_ hI19_ hF20_ z21_ (lf_c_X5_takeFrom_3 v3_21 z21_ hv0_21 h22_ ) (lf_c_X6_begin_4 v3_21 z21_ h14_ h22_ ) (RCH.tail hL_21 ⟨hv0_21, hv1_21, hI_21, hF_21, h14_, j17_, h18_, M15_, hM16_, z21_, h22_, rfl, rfl⟩) (Nat.lt_of_lt_of_le (lf_c_X6_begin_5 v3_21 z21_ h14_ h22_ ) (Nat.le_of_lt_succ hm_21))
  exact lp13_ _ M9_ hI11_ hF12_ 0 (lf_c_X5_takeFrom_5 ) (lf_c_X6_begin_7 ) RCH.refl (Nat.lt_succ_self _)
def SP_X6_has (w : Nat) (v : Int32) (Mz : mM) (r_ : Int32) : Prop := (((v.toInt < 0) ∧ r_ = 0) ∨ ((0 ≤ v.toInt) ∧ ∃ z2_ : Int32, (z2_ = Mz.1 (6, 0, w) 1) ∧ (0 ≤ z2_.toInt ∧ z2_.toInt ≤ 24) ∧ (((z2_.toInt ≤ v.toInt) ∧ r_ = 0) ∨ ((v.toInt < z2_.toInt) ∧ (v.toInt < 24) ∧ r_ = 1))))
theorem lf_c_X6_has_0 (v : Int32) (z2_ : Int32) (h4_ : 0 ≤ z2_.toInt ∧ z2_.toInt ≤ 24) (h5_ : v.toInt < z2_.toInt) (h9 : 24 ≤ v.toInt) : False := by omega
theorem lf_c_X6_has_1 (v : Int32) (h1_ : 0 ≤ v.toInt) (h6_ : v.toInt < 24) : 0 ≤ v.toInt ∧ v.toInt ≤ 23 := by omega
set_option maxHeartbeats 4000000 in
set_option maxRecDepth 100000 in
theorem c_X6_has (l : Launch) (G : va_G) (cy : Nat → ClassId) (ad : rf → Nat) (d : Nat) (w : Nat) (v : Int32) (Mz : mM) (hIz : Inv Mz) (hw : w < 4) : WP CC l G cy ad yX6_has cX6_has 2 (some .boolean) d 0 [(0, vR (6, 0, w)), (1, vI v)] [] Mz (fun r M' => Mz = M' ∧ (((r = 1 ∧ 0 ≤ v.toInt ∧ v.toInt ≤ 23) ∨ r = 0)) ∧ SP_X6_has w v Mz r) := by
  refine w_iload_n dX6_has_0 rfl 1 rfl ?_
  refine w_if_lt (tgt := 22) dX6_has_1 (by decide) (rfl : v.toInt = v.toInt) (fun h1_ => ?_) (fun h1_ => ?_)
  · refine w_iconst (v := 0) dX6_has_22 (by decide) ?_
    exact w_zret rfl dX6_has_23 ⟨by decide, by decide⟩ ⟨rfl, (Or.inr rfl), (Or.inl ⟨h1_, rfl⟩)⟩
  · refine w_iload_n dX6_has_4 rfl 1 rfl ?_
    refine w_aload_n dX6_has_5 rfl 0 rfl ?_
    refine w_getI fl_RX6_13 rfl rfl (ic_6 hw) dX6_has_6 (fun z2_ e3_ => ?_)
    have h4_ : 0 ≤ z2_.toInt ∧ z2_.toInt ≤ 24 := ofEq (P := fun v => 0 ≤ v.toInt ∧ v.toInt ≤ 24) e3_ (hIz (6, 0, w) 1 rfl)
    refine w_icmp_ge (tgt := 22) dX6_has_9 (by decide) (rfl : v.toInt = v.toInt) (rfl : z2_.toInt = z2_.toInt) (fun h5_ => ?_) (fun h5_ => ?_)
    · refine w_iconst (v := 0) dX6_has_22 (by decide) ?_
      exact w_zret rfl dX6_has_23 ⟨by decide, by decide⟩ ⟨rfl, (Or.inr rfl), (Or.inr ⟨h1_, z2_, e3_, h4_, (Or.inl ⟨h5_, rfl⟩)⟩)⟩
    · refine w_iload_n dX6_has_12 rfl 1 rfl ?_
      refine w_bipush (v := 24) dX6_has_13 (by decide) ?_
      refine w_icmp_ge (tgt := 22) dX6_has_15 (by decide) (rfl : v.toInt = v.toInt) li_24 (fun h9 => (lf_c_X6_has_0 v z2_ h4_ h5_ h9 ).elim) (fun h6_ => ?_)
      refine w_iconst (v := 1) dX6_has_18 (by decide) ?_
      refine w_goto (tgt := 23) dX6_has_19 (by decide) ?_
      exact w_zret rfl dX6_has_23 ⟨by decide, by decide⟩ ⟨rfl, (Or.inl ⟨rfl, (lf_c_X6_has_1 v h1_ h6_ )⟩), (Or.inr ⟨h1_, z2_, e3_, h4_, (Or.inr ⟨h5_, h6_, rfl⟩)⟩)⟩
def SP_X6_numberAt (w : Nat) (v : Int32) (Mz : mM) (r_ : Int32) : Prop := (((SP_X6_has w v Mz (1 : Int32)) ∧ (0 ≤ v.toInt ∧ v.toInt ≤ 23) ∧ ∃ j9_ : Nat, ((j9_ : Int) = v.toInt) ∧ ∃ z7_ : Int32, (z7_ = Mz.1 (34, 0, w) j9_) ∧ r_ = z7_) ∨ ((SP_X6_has w v Mz (0 : Int32)) ∧ r_ = 0))
theorem lf_c_X6_numberAt_0 (v : Int32) (h4_ : 0 ≤ v.toInt ∧ v.toInt ≤ 23) : 0 ≤ v.toInt ∧ v.toInt < ((24 : Nat) : Int) := by omega
set_option maxHeartbeats 4000000 in
set_option maxRecDepth 100000 in
theorem c_X6_numberAt (l : Launch) (G : va_G) (cy : Nat → ClassId) (ad : rf → Nat) (d : Nat) (w : Nat) (v : Int32) (Mz : mM) (hIz : Inv Mz) (hw : w < 4) : WP CC l G cy ad yX6_numberAt cX6_numberAt 2 (some .int) (d + 1) 0 [(0, vR (6, 0, w)), (1, vI v)] [] Mz (fun r M' => Mz = M' ∧ (True) ∧ SP_X6_numberAt w v Mz r) := by
  refine w_aload_n dX6_numberAt_0 rfl 0 rfl ?_
  refine w_iload_n dX6_numberAt_1 rfl 1 rfl ?_
  refine w_callV (as := [vI v]) (rest := []) (c_X6_has l G cy ad d w v Mz hIz hw) kV_X6_has pnn_4 (Nat.le_of_ble_eq_true rfl) m_577 rfl rfl rfl (ic_6 hw) rfl rfl (by decide) (Nat.le_of_ble_eq_true rfl) dX6_numberAt_2 (fun r1_ M2_ q3_ => ?_)
  obtain ⟨rfl, h4_, hs5_⟩ := q3_
  rcases h4_ with ⟨rfl, h4_⟩ | rfl
  · refine w_if_eq (tgt := 17) dX6_numberAt_5 (by decide) li_1 (fun h9 => (absurd h9 (by decide))) (fun h6_ => ?_)
    refine w_aload_n dX6_numberAt_8 rfl 0 rfl ?_
    refine w_getR (c' := (34, 0, w)) fl_RX6_16 rfl rfl (ic_6 hw) dX6_numberAt_9 rfl ?_
    refine w_iload_n dX6_numberAt_12 rfl 1 rfl ?_
    refine w_iald rfl rfl (ic_34 hw) (rfl : v.toInt = v.toInt) (lf_c_X6_numberAt_0 v h4_ ) dX6_numberAt_13 (fun j9_ h10_ z7_ e8_ => ?_)
    refine w_goto (tgt := 18) dX6_numberAt_14 (by decide) ?_
    exact w_iret rfl dX6_numberAt_18 ⟨rfl, trivial, (Or.inl ⟨hs5_, h4_, j9_, h10_, z7_, e8_, rfl⟩)⟩
  · refine w_if_eq (tgt := 17) dX6_numberAt_5 (by decide) li_0 (fun h11_ => ?_) (fun h9 => (absurd h9 (by decide)))
    refine w_iconst (v := 0) dX6_numberAt_17 (by decide) ?_
    exact w_iret rfl dX6_numberAt_18 ⟨rfl, trivial, (Or.inr ⟨hs5_, rfl⟩)⟩
def S_c_X6_store (w : Nat) : rf → Nat → Prop := fun c k => (c.1 = 34 ∧ c.2.1 = 0 ∧ c.2.2 = w) ∨ False
def SP_X6_store (w : Nat) (v : Int32) (u : Int32) (Mz : mM) (M_ : mM) : Prop := (((SP_X6_has w v Mz (1 : Int32)) ∧ (0 ≤ v.toInt ∧ v.toInt ≤ 23) ∧ ∃ z7_ : Int32, (z7_ = Mz.1 (6, 0, w) 0) ∧ (((¬ z7_.toInt = 8) ∧ (((¬ z7_.toInt = 16) ∧ ∃ j15_ : Nat, ((j15_ : Int) = v.toInt) ∧ ∃ M13_ : mM, (M13_ = up Mz (34, 0, w) j15_ u) ∧ M_ = M13_) ∨ ((z7_.toInt = 16) ∧ ∃ z19_ : Int32, (z19_ = u.toInt16.toInt32) ∧ ∃ j23_ : Nat, ((j23_ : Int) = v.toInt) ∧ ∃ M21_ : mM, (M21_ = up Mz (34, 0, w) j23_ z19_) ∧ M_ = M21_))) ∨ ((z7_.toInt = 8) ∧ ∃ z27_ : Int32, (z27_ = u.toInt8.toInt32) ∧ ∃ j31_ : Nat, ((j31_ : Int) = v.toInt) ∧ ∃ M29_ : mM, (M29_ = up Mz (34, 0, w) j31_ z27_) ∧ M_ = M29_))) ∨ ((SP_X6_has w v Mz (0 : Int32)) ∧ M_ = Mz))
set_option maxHeartbeats 4000000 in
set_option maxRecDepth 100000 in
theorem c_X6_store (l : Launch) (G : va_G) (cy : Nat → ClassId) (ad : rf → Nat) (d : Nat) (w : Nat) (v : Int32) (u : Int32) (Mz : mM) (hIz : Inv Mz) (hw : w < 4) : WP CC l G cy ad yX6_store cX6_store 3 none (d + 1) 0 [(0, vR (6, 0, w)), (1, vI v), (2, vI u)] [] Mz (fun r M' => Inv M' ∧ FR (S_c_X6_store w) Mz M' ∧ (True) ∧ SP_X6_store w v u Mz M') := by
  have hFz : FR (S_c_X6_store w) Mz Mz := FR.self
  refine w_aload_n dX6_store_0 rfl 0 rfl ?_
  refine w_iload_n dX6_store_1 rfl 1 rfl ?_
  refine w_callV (as := [vI v]) (rest := []) (c_X6_has l G cy ad d w v Mz hIz hw) kV_X6_has pnn_4 (Nat.le_of_ble_eq_true rfl) m_577 rfl rfl rfl (ic_6 hw) rfl rfl (by decide) (Nat.le_of_ble_eq_true rfl) dX6_store_2 (fun r1_ M2_ q3_ => ?_)
  obtain ⟨rfl, h4_, hs5_⟩ := q3_
  rcases h4_ with ⟨rfl, h4_⟩ | rfl
  · refine w_if_eq (tgt := 43) dX6_store_5 (by decide) li_1 (fun h9 => (absurd h9 (by decide))) (fun h6_ => ?_)
    refine w_aload_n dX6_store_8 rfl 0 rfl ?_
    refine w_getR (c' := (34, 0, w)) fl_RX6_16 rfl rfl (ic_6 hw) dX6_store_9 rfl ?_
    refine w_iload_n dX6_store_12 rfl 1 rfl ?_
    refine w_aload_n dX6_store_13 rfl 0 rfl ?_
    refine w_getI fl_RX6_7 rfl rfl (ic_6 hw) dX6_store_14 (fun z7_ e8_ => ?_)
    refine w_bipush (v := 8) dX6_store_17 (by decide) ?_
    refine w_icmp_ne (tgt := 27) dX6_store_19 (by decide) (rfl : z7_.toInt = z7_.toInt) li_8 (fun h9_ => ?_) (fun h9_ => ?_)
    · refine w_aload_n dX6_store_27 rfl 0 rfl ?_
      refine w_getI fl_RX6_7 rfl rfl (ic_6 hw) dX6_store_28 (fun z10_ e11_ => ?_)
      obtain rfl : z7_ = z10_ := e8_.trans e11_.symm
      refine w_bipush (v := 16) dX6_store_31 (by decide) ?_
      refine w_icmp_ne (tgt := 41) dX6_store_33 (by decide) (rfl : z7_.toInt = z7_.toInt) li_16 (fun h12_ => ?_) (fun h12_ => ?_)
      · refine w_iload_n dX6_store_41 rfl 2 rfl ?_
        refine w_iast CC_nd rfl rfl (ic_34 hw) (rfl : v.toInt = v.toInt) (lf_c_X6_numberAt_0 v h4_ ) dX6_store_42 (fun j15_ h16_ M13_ hM14_ => ?_)
        have hI17_ := hIz.put hM14_ trivial
        have hF18_ := hFz.put hM14_ (Or.inl ⟨rfl, rfl, rfl⟩)
        exact w_vret rfl dX6_store_43 ⟨hI17_, hF18_, trivial, (Or.inl ⟨hs5_, h4_, z7_, e8_, (Or.inl ⟨h9_, (Or.inl ⟨h12_, j15_, h16_, M13_, hM14_, rfl⟩)⟩)⟩)⟩
      · refine w_iload_n dX6_store_36 rfl 2 rfl ?_
        refine w_i2s dX6_store_37 (fun z19_ h20_ => ?_)
        refine w_goto (tgt := 42) dX6_store_38 (by decide) ?_
        refine w_iast CC_nd rfl rfl (ic_34 hw) (rfl : v.toInt = v.toInt) (lf_c_X6_numberAt_0 v h4_ ) dX6_store_42 (fun j23_ h24_ M21_ hM22_ => ?_)
        have hI25_ := hIz.put hM22_ trivial
        have hF26_ := hFz.put hM22_ (Or.inl ⟨rfl, rfl, rfl⟩)
        exact w_vret rfl dX6_store_43 ⟨hI25_, hF26_, trivial, (Or.inl ⟨hs5_, h4_, z7_, e8_, (Or.inl ⟨h9_, (Or.inr ⟨h12_, z19_, h20_, j23_, h24_, M21_, hM22_, rfl⟩)⟩)⟩)⟩
    · refine w_iload_n dX6_store_22 rfl 2 rfl ?_
      refine w_i2b dX6_store_23 (fun z27_ h28_ => ?_)
      refine w_goto (tgt := 42) dX6_store_24 (by decide) ?_
      refine w_iast CC_nd rfl rfl (ic_34 hw) (rfl : v.toInt = v.toInt) (lf_c_X6_numberAt_0 v h4_ ) dX6_store_42 (fun j31_ h32_ M29_ hM30_ => ?_)
      have hI33_ := hIz.put hM30_ trivial
      have hF34_ := hFz.put hM30_ (Or.inl ⟨rfl, rfl, rfl⟩)
      exact w_vret rfl dX6_store_43 ⟨hI33_, hF34_, trivial, (Or.inl ⟨hs5_, h4_, z7_, e8_, (Or.inr ⟨h9_, z27_, h28_, j31_, h32_, M29_, hM30_, rfl⟩)⟩)⟩
  · refine w_if_eq (tgt := 43) dX6_store_5 (by decide) li_0 (fun h35_ => ?_) (fun h9 => (absurd h9 (by decide)))
    exact w_vret rfl dX6_store_43 ⟨hIz, hFz, trivial, (Or.inr ⟨hs5_, rfl⟩)⟩
def SP_X6_hasRun (w : Nat) (v : Int32) (u : Int32) (Mz : mM) (r_ : Int32) : Prop := (((v.toInt < 0) ∧ r_ = 0) ∨ ((0 ≤ v.toInt) ∧ (((u.toInt < 0) ∧ r_ = 0) ∨ ((0 ≤ u.toInt) ∧ ∃ z3_ : Int32, (z3_ = Mz.1 (6, 0, w) 1) ∧ (0 ≤ z3_.toInt ∧ z3_.toInt ≤ 24) ∧ (((z3_.toInt < v.toInt) ∧ r_ = 0) ∨ ((v.toInt ≤ z3_.toInt) ∧ ∃ z9_ : Int32, (z9_.toInt = z3_.toInt - v.toInt) ∧ (((z9_.toInt < u.toInt) ∧ r_ = 0) ∨ ((u.toInt ≤ z9_.toInt) ∧ r_ = 1))))))))
theorem lf_c_X6_hasRun_0 (v : Int32) (z3_ : Int32) (h1_ : 0 ≤ v.toInt) (h5_ : 0 ≤ z3_.toInt ∧ z3_.toInt ≤ 24) (h6_ : v.toInt ≤ z3_.toInt) : -2147483648 ≤ z3_.toInt - v.toInt ∧ z3_.toInt - v.toInt < 2147483648 := by omega
theorem lf_c_X6_hasRun_1 (v : Int32) (u : Int32) (z3_ : Int32) (z9_ : Int32) (h1_ : 0 ≤ v.toInt) (h2_ : 0 ≤ u.toInt) (h5_ : 0 ≤ z3_.toInt ∧ z3_.toInt ≤ 24) (h10_ : z9_.toInt = z3_.toInt - v.toInt) (h11_ : u.toInt ≤ z9_.toInt) : 0 ≤ v.toInt ∧ 0 ≤ u.toInt ∧ v.toInt + u.toInt ≤ 24 := by omega
set_option maxHeartbeats 4000000 in
set_option maxRecDepth 100000 in
theorem c_X6_hasRun (l : Launch) (G : va_G) (cy : Nat → ClassId) (ad : rf → Nat) (d : Nat) (w : Nat) (v : Int32) (u : Int32) (Mz : mM) (hIz : Inv Mz) (hw : w < 4) : WP CC l G cy ad yX6_hasRun cX6_hasRun 3 (some .boolean) d 0 [(0, vR (6, 0, w)), (1, vI v), (2, vI u)] [] Mz (fun r M' => Mz = M' ∧ (((r = 1 ∧ 0 ≤ v.toInt ∧ 0 ≤ u.toInt ∧ v.toInt + u.toInt ≤ 24) ∨ r = 0)) ∧ SP_X6_hasRun w v u Mz r) := by
  refine w_iload_n dX6_hasRun_0 rfl 1 rfl ?_
  refine w_if_lt (tgt := 30) dX6_hasRun_1 (by decide) (rfl : v.toInt = v.toInt) (fun h1_ => ?_) (fun h1_ => ?_)
  · refine w_iconst (v := 0) dX6_hasRun_30 (by decide) ?_
    exact w_zret rfl dX6_hasRun_31 ⟨by decide, by decide⟩ ⟨rfl, (Or.inr rfl), (Or.inl ⟨h1_, rfl⟩)⟩
  · refine w_iload_n dX6_hasRun_4 rfl 2 rfl ?_
    refine w_if_lt (tgt := 30) dX6_hasRun_5 (by decide) (rfl : u.toInt = u.toInt) (fun h2_ => ?_) (fun h2_ => ?_)
    · refine w_iconst (v := 0) dX6_hasRun_30 (by decide) ?_
      exact w_zret rfl dX6_hasRun_31 ⟨by decide, by decide⟩ ⟨rfl, (Or.inr rfl), (Or.inr ⟨h1_, (Or.inl ⟨h2_, rfl⟩)⟩)⟩
    · refine w_iload_n dX6_hasRun_8 rfl 1 rfl ?_
      refine w_aload_n dX6_hasRun_9 rfl 0 rfl ?_
      refine w_getI fl_RX6_13 rfl rfl (ic_6 hw) dX6_hasRun_10 (fun z3_ e4_ => ?_)
      have h5_ : 0 ≤ z3_.toInt ∧ z3_.toInt ≤ 24 := ofEq (P := fun v => 0 ≤ v.toInt ∧ v.toInt ≤ 24) e4_ (hIz (6, 0, w) 1 rfl)
      refine w_icmp_gt (tgt := 30) dX6_hasRun_13 (by decide) (rfl : v.toInt = v.toInt) (rfl : z3_.toInt = z3_.toInt) (fun h6_ => ?_) (fun h6_ => ?_)
      · refine w_iconst (v := 0) dX6_hasRun_30 (by decide) ?_
        exact w_zret rfl dX6_hasRun_31 ⟨by decide, by decide⟩ ⟨rfl, (Or.inr rfl), (Or.inr ⟨h1_, (Or.inr ⟨h2_, z3_, e4_, h5_, (Or.inl ⟨h6_, rfl⟩)⟩)⟩)⟩
      · refine w_iload_n dX6_hasRun_16 rfl 2 rfl ?_
        refine w_aload_n dX6_hasRun_17 rfl 0 rfl ?_
        refine w_getI fl_RX6_13 rfl rfl (ic_6 hw) dX6_hasRun_18 (fun z7_ e8_ => ?_)
        obtain rfl : z3_ = z7_ := e4_.trans e8_.symm
        refine w_iload_n dX6_hasRun_21 rfl 1 rfl ?_
        refine w_isubB dX6_hasRun_22 (rfl : z3_.toInt = z3_.toInt) (rfl : v.toInt = v.toInt) (lf_c_X6_hasRun_0 v z3_ h1_ h5_ h6_ ) (fun z9_ h10_ => ?_)
        refine w_icmp_gt (tgt := 30) dX6_hasRun_23 (by decide) (rfl : u.toInt = u.toInt) (rfl : z9_.toInt = z9_.toInt) (fun h11_ => ?_) (fun h11_ => ?_)
        · refine w_iconst (v := 0) dX6_hasRun_30 (by decide) ?_
          exact w_zret rfl dX6_hasRun_31 ⟨by decide, by decide⟩ ⟨rfl, (Or.inr rfl), (Or.inr ⟨h1_, (Or.inr ⟨h2_, z3_, e4_, h5_, (Or.inr ⟨h6_, z9_, h10_, (Or.inl ⟨h11_, rfl⟩)⟩)⟩)⟩)⟩
        · refine w_iconst (v := 1) dX6_hasRun_26 (by decide) ?_
          refine w_goto (tgt := 31) dX6_hasRun_27 (by decide) ?_
          exact w_zret rfl dX6_hasRun_31 ⟨by decide, by decide⟩ ⟨rfl, (Or.inl ⟨rfl, (lf_c_X6_hasRun_1 v u z3_ z9_ h1_ h2_ h5_ h10_ h11_ )⟩), (Or.inr ⟨h1_, (Or.inr ⟨h2_, z3_, e4_, h5_, (Or.inr ⟨h6_, z9_, h10_, (Or.inr ⟨h11_, rfl⟩)⟩)⟩)⟩)⟩
def ST_X6_holdsFewCells_21 (w : Nat) (Mz : mM) (z1_ : Int32) (v1_21 : Int32) (v1_21y : Int32) : Prop := (0 ≤ v1_21.toInt) ∧ (v1_21.toInt < z1_.toInt) ∧ ∃ r12_ : Int32, (SP_X6_numberAt w v1_21 Mz r12_) ∧ (SP_X7_isCell r12_ Mz (1 : Int32)) ∧ (0 ≤ r12_.toInt ∧ r12_.toInt ≤ 191) ∧ ∃ z23_ : Int32, (z23_.toInt = v1_21.toInt + 1) ∧ v1_21y = z23_
def SP_X6_holdsFewCells (w : Nat) (Mz : mM) (r_ : Int32) : Prop := ∃ z1_ : Int32, (z1_ = Mz.1 (6, 0, w) 1) ∧ (0 ≤ z1_.toInt ∧ z1_.toInt ≤ 24) ∧ (((z1_.toInt < 1) ∧ r_ = 0) ∨ ((1 ≤ z1_.toInt) ∧ (((z1_.toInt ≤ 8) ∧ ∃ v1_21 : Int32, (0 ≤ v1_21.toInt) ∧ (RCH (fun x_ y_ => ST_X6_holdsFewCells_21 w Mz z1_ x_ y_) (0 : Int32) v1_21) ∧ (((z1_.toInt ≤ v1_21.toInt) ∧ r_ = 1) ∨ ((v1_21.toInt < z1_.toInt) ∧ ∃ r12_ : Int32, (SP_X6_numberAt w v1_21 Mz r12_) ∧ (SP_X7_isCell r12_ Mz (0 : Int32)) ∧ (¬ (0 ≤ r12_.toInt ∧ r12_.toInt ≤ 191)) ∧ r_ = 0))) ∨ ((8 < z1_.toInt) ∧ r_ = 0))))
theorem lf_c_X6_holdsFewCells_0 (z1_ : Int32) (v1_21 : Int32) (h7_ : z1_.toInt ≤ 8) (hv0_21 : 0 ≤ v1_21.toInt) (h11_ : v1_21.toInt < z1_.toInt) : -2147483648 ≤ v1_21.toInt + 1 ∧ v1_21.toInt + 1 < 2147483648 := by omega
theorem lf_c_X6_holdsFewCells_2 (z1_ : Int32) (v1_21 : Int32) (z23_ : Int32) (h7_ : z1_.toInt ≤ 8) (h11_ : v1_21.toInt < z1_.toInt) (h24_ : z23_.toInt = v1_21.toInt + 1) : (2147483648 - z23_.toInt).toNat < (2147483648 - v1_21.toInt).toNat := by omega
set_option maxHeartbeats 4000000 in
set_option maxRecDepth 100000 in
theorem c_X6_holdsFewCells (l : Launch) (G : va_G) (cy : Nat → ClassId) (ad : rf → Nat) (d : Nat) (w : Nat) (Mz : mM) (hIz : Inv Mz) (hw : w < 4) : WP CC l G cy ad yX6_holdsFewCells cX6_holdsFewCells 2 (some .boolean) (d + 2) 0 [(0, vR (6, 0, w))] [] Mz (fun r M' => Mz = M' ∧ ((0 ≤ r.toInt ∧ r.toInt ≤ 1)) ∧ SP_X6_holdsFewCells w Mz r) := by
  refine w_aload_n dX6_holdsFewCells_0 rfl 0 rfl ?_
  refine w_getI fl_RX6_13 rfl rfl (ic_6 hw) dX6_holdsFewCells_1 (fun z1_ e2_ => ?_)
  have h3_ : 0 ≤ z1_.toInt ∧ z1_.toInt ≤ 24 := ofEq (P := fun v => 0 ≤ v.toInt ∧ v.toInt ≤ 24) e2_ (hIz (6, 0, w) 1 rfl)
  refine w_iconst (v := 1) dX6_holdsFewCells_4 (by decide) ?_
  refine w_icmp_lt (tgt := 17) dX6_holdsFewCells_5 (by decide) (rfl : z1_.toInt = z1_.toInt) li_1 (fun h4_ => ?_) (fun h4_ => ?_)
  · refine w_iconst (v := 0) dX6_holdsFewCells_17 (by decide) ?_
    exact w_zret rfl dX6_holdsFewCells_18 ⟨by decide, by decide⟩ ⟨rfl, ⟨by decide, by decide⟩, ⟨z1_, e2_, h3_, (Or.inl ⟨h4_, rfl⟩)⟩⟩
  · refine w_aload_n dX6_holdsFewCells_8 rfl 0 rfl ?_
    refine w_getI fl_RX6_13 rfl rfl (ic_6 hw) dX6_holdsFewCells_9 (fun z5_ e6_ => ?_)
    obtain rfl : z1_ = z5_ := e2_.trans e6_.symm
    refine w_bipush (v := 8) dX6_holdsFewCells_12 (by decide) ?_
    refine w_icmp_le (tgt := 19) dX6_holdsFewCells_14 (by decide) (rfl : z1_.toInt = z1_.toInt) li_8 (fun h7_ => ?_) (fun h7_ => ?_)
    · refine w_iconst (v := 0) dX6_holdsFewCells_19 (by decide) ?_
      refine w_istore_n (ls' := [(1, vI 0), (0, vR (6, 0, w))]) dX6_holdsFewCells_20 rfl (by decide) rfl ?_
      have lp8_ : ∀ (nn_21 : Nat) (v1_21 : Int32) (hv0_21 : 0 ≤ v1_21.toInt) (hL_21 : RCH (fun x_ y_ => ST_X6_holdsFewCells_21 w Mz z1_ x_ y_) (0 : Int32) v1_21), (2147483648 - v1_21.toInt).toNat < nn_21 → WP CC l G cy ad yX6_holdsFewCells cX6_holdsFewCells 2 (some .boolean) (d + 2) 21 [(1, vI v1_21), (0, vR (6, 0, w))] [] Mz (fun r M' => Mz = M' ∧ ((0 ≤ r.toInt ∧ r.toInt ≤ 1)) ∧ SP_X6_holdsFewCells w Mz r) := by
        intro nn_21
        induction nn_21 with
        | zero => intro v1_21 hv0_21 hL_21 hm_21; exact absurd hm_21 (Nat.not_lt_zero _)
        | succ nn_21 ih_21 =>
          intro v1_21 hv0_21 hL_21 hm_21
          refine w_iload_n dX6_holdsFewCells_21 rfl 0 rfl ?_
          refine w_aload_n dX6_holdsFewCells_22 rfl 1 rfl ?_
          refine w_getI fl_RX6_13 rfl rfl (ic_6 hw) dX6_holdsFewCells_23 (fun z9_ e10_ => ?_)
          obtain rfl : z1_ = z9_ := e2_.trans e10_.symm
          refine w_icmp_ge (tgt := 48) dX6_holdsFewCells_26 (by decide) (rfl : v1_21.toInt = v1_21.toInt) (rfl : z1_.toInt = z1_.toInt) (fun h11_ => ?_) (fun h11_ => ?_)
          · refine w_iconst (v := 1) dX6_holdsFewCells_48 (by decide) ?_
            exact w_zret rfl dX6_holdsFewCells_49 ⟨by decide, by decide⟩ ⟨rfl, ⟨by decide, by decide⟩, ⟨z1_, e2_, h3_, (Or.inr ⟨h4_, (Or.inl ⟨h7_, v1_21, hv0_21, hL_21, (Or.inl ⟨h11_, rfl⟩)⟩)⟩)⟩⟩
          · refine w_aload_n dX6_holdsFewCells_29 rfl 1 rfl ?_
            refine w_iload_n dX6_holdsFewCells_30 rfl 0 rfl ?_
            refine w_callV (as := [vI v1_21]) (rest := []) (c_X6_numberAt l G cy ad d w v1_21 Mz hIz hw) kV_X6_numberAt pnn_4 (Nat.le_of_ble_eq_true rfl) m_982 rfl rfl rfl (ic_6 hw) rfl rfl (by decide) (Nat.le_of_ble_eq_true rfl) dX6_holdsFewCells_31 (fun r12_ M13_ q14_ => ?_)
            obtain ⟨rfl, h15_, hs16_⟩ := q14_
            refine w_callS (as := [vI r12_]) (rest := []) (c_X7_isCell l G cy ad (d + 1) r12_ Mz hIz) kS_X7_isCell pnn_1 (Nat.le_of_ble_eq_true rfl) m_983 rfl rfl (by decide) (Nat.le_of_ble_eq_true rfl) dX6_holdsFewCells_34 (fun r17_ M18_ q19_ => ?_)
            obtain ⟨rfl, h20_, hs21_⟩ := q19_
            rcases h20_ with ⟨rfl, h20_⟩ | ⟨rfl, h20_⟩
            · refine w_if_ne (tgt := 42) dX6_holdsFewCells_37 (by decide) li_1 (fun h22_ => ?_) (fun h9 => (absurd h9 (by decide)))
              refine w_iincB (j := 0) (f := fun z23_ => [(1, vI z23_), (0, vR (6, 0, w))]) dX6_holdsFewCells_42 rfl (by decide) (fun _ => rfl) (rfl : v1_21.toInt = v1_21.toInt) li_1 (lf_c_X6_holdsFewCells_0 z1_ v1_21 h7_ hv0_21 h11_ ) (fun z23_ h24_ => ?_)
              refine w_goto (tgt := 21) dX6_holdsFewCells_45 (by decide) ?_
              refine w_loc (ls' := [(1, vI z23_), (0, vR (6, 0, w))]) [0, 1] rfl ?_
              exact ih_21 z23_ (lf_c_X5_takeFrom_3 v1_21 z23_ hv0_21 h24_ ) (RCH.tail hL_21 ⟨hv0_21, h11_, r12_, hs16_, hs21_, h20_, z23_, h24_, rfl⟩) (Nat.lt_of_lt_of_le (lf_c_X6_holdsFewCells_2 z1_ v1_21 z23_ h7_ h11_ h24_ ) (Nat.le_of_lt_succ hm_21))
            · refine w_if_ne (tgt := 42) dX6_holdsFewCells_37 (by decide) li_0 (fun h9 => (absurd h9 (by decide))) (fun h25_ => ?_)
              refine w_iconst (v := 0) dX6_holdsFewCells_40 (by decide) ?_
              exact w_zret rfl dX6_holdsFewCells_41 ⟨by decide, by decide⟩ ⟨rfl, ⟨by decide, by decide⟩, ⟨z1_, e2_, h3_, (Or.inr ⟨h4_, (Or.inl ⟨h7_, v1_21, hv0_21, hL_21, (Or.inr ⟨h11_, r12_, hs16_, hs21_, h20_, rfl⟩)⟩)⟩)⟩⟩
      exact lp8_ _ 0 (lf_c_X5_takeFrom_5 ) RCH.refl (Nat.lt_succ_self _)
    · refine w_iconst (v := 0) dX6_holdsFewCells_17 (by decide) ?_
      exact w_zret rfl dX6_holdsFewCells_18 ⟨by decide, by decide⟩ ⟨rfl, ⟨by decide, by decide⟩, ⟨z1_, e2_, h3_, (Or.inr ⟨h4_, (Or.inr ⟨h7_, rfl⟩)⟩)⟩⟩
def ST_X6_hasTwoAlike_12 (w : Nat) (Mz : mM) (v1_2 : Int32) (v2_12 : Int32) (v2_12y : Int32) : Prop := (0 ≤ v2_12.toInt) ∧ (v2_12.toInt < v1_2.toInt) ∧ ∃ r10_ : Int32, (SP_X6_numberAt w v1_2 Mz r10_) ∧ ∃ r15_ : Int32, (SP_X6_numberAt w v2_12 Mz r15_) ∧ (¬ r10_.toInt = r15_.toInt) ∧ ∃ z21_ : Int32, (z21_.toInt = v2_12.toInt + 1) ∧ v2_12y = z21_
def ST_X6_hasTwoAlike_2 (w : Nat) (Mz : mM) (v1_2 : Int32) (v1_2y : Int32) : Prop := (1 ≤ v1_2.toInt) ∧ ∃ z2_ : Int32, (z2_ = Mz.1 (6, 0, w) 1) ∧ (0 ≤ z2_.toInt ∧ z2_.toInt ≤ 24) ∧ (v1_2.toInt < z2_.toInt) ∧ ∃ v2_12 : Int32, (0 ≤ v2_12.toInt) ∧ (RCH (fun x_ y_ => ST_X6_hasTwoAlike_12 w Mz v1_2 x_ y_) (0 : Int32) v2_12) ∧ (v1_2.toInt ≤ v2_12.toInt) ∧ ∃ z8_ : Int32, (z8_.toInt = v1_2.toInt + 1) ∧ v1_2y = z8_
def SP_X6_hasTwoAlike (w : Nat) (Mz : mM) (r_ : Int32) : Prop := ∃ v1_2 : Int32, (1 ≤ v1_2.toInt) ∧ (RCH (fun x_ y_ => ST_X6_hasTwoAlike_2 w Mz x_ y_) (1 : Int32) v1_2) ∧ ∃ z2_ : Int32, (z2_ = Mz.1 (6, 0, w) 1) ∧ (0 ≤ z2_.toInt ∧ z2_.toInt ≤ 24) ∧ (((z2_.toInt ≤ v1_2.toInt) ∧ r_ = 0) ∨ ((v1_2.toInt < z2_.toInt) ∧ ∃ v2_12 : Int32, (0 ≤ v2_12.toInt) ∧ (RCH (fun x_ y_ => ST_X6_hasTwoAlike_12 w Mz v1_2 x_ y_) (0 : Int32) v2_12) ∧ (v2_12.toInt < v1_2.toInt) ∧ ∃ r10_ : Int32, (SP_X6_numberAt w v1_2 Mz r10_) ∧ ∃ r15_ : Int32, (SP_X6_numberAt w v2_12 Mz r15_) ∧ (r10_.toInt = r15_.toInt) ∧ r_ = 1))
theorem lf_c_X6_hasTwoAlike_0 (v1_2 : Int32) (z2_ : Int32) (hv0_2 : 1 ≤ v1_2.toInt) (h4_ : 0 ≤ z2_.toInt ∧ z2_.toInt ≤ 24) (h5_ : v1_2.toInt < z2_.toInt) : -2147483648 ≤ v1_2.toInt + 1 ∧ v1_2.toInt + 1 < 2147483648 := by omega
theorem lf_c_X6_hasTwoAlike_2 (v1_2 : Int32) (z2_ : Int32) (z8_ : Int32) (h4_ : 0 ≤ z2_.toInt ∧ z2_.toInt ≤ 24) (h5_ : v1_2.toInt < z2_.toInt) (h9_ : z8_.toInt = v1_2.toInt + 1) : (2147483648 - z8_.toInt).toNat < (2147483648 - v1_2.toInt).toNat := by omega
theorem lf_c_X6_hasTwoAlike_3 (v1_2 : Int32) (z2_ : Int32) (v2_12 : Int32) (h4_ : 0 ≤ z2_.toInt ∧ z2_.toInt ≤ 24) (h5_ : v1_2.toInt < z2_.toInt) (hv0_12 : 0 ≤ v2_12.toInt) (h7_ : v2_12.toInt < v1_2.toInt) : -2147483648 ≤ v2_12.toInt + 1 ∧ v2_12.toInt + 1 < 2147483648 := by omega
theorem lf_c_X6_hasTwoAlike_5 (v1_2 : Int32) (z2_ : Int32) (v2_12 : Int32) (z21_ : Int32) (h4_ : 0 ≤ z2_.toInt ∧ z2_.toInt ≤ 24) (h5_ : v1_2.toInt < z2_.toInt) (h7_ : v2_12.toInt < v1_2.toInt) (h22_ : z21_.toInt = v2_12.toInt + 1) : (2147483648 - z21_.toInt).toNat < (2147483648 - v2_12.toInt).toNat := by omega
set_option maxHeartbeats 4000000 in
set_option maxRecDepth 100000 in
theorem c_X6_hasTwoAlike (l : Launch) (G : va_G) (cy : Nat → ClassId) (ad : rf → Nat) (d : Nat) (w : Nat) (Mz : mM) (hIz : Inv Mz) (hw : w < 4) : WP CC l G cy ad yX6_hasTwoAlike cX6_hasTwoAlike 3 (some .boolean) (d + 2) 0 [(0, vR (6, 0, w))] [] Mz (fun r M' => Mz = M' ∧ ((0 ≤ r.toInt ∧ r.toInt ≤ 1)) ∧ SP_X6_hasTwoAlike w Mz r) := by
  refine w_iconst (v := 1) dX6_hasTwoAlike_0 (by decide) ?_
  refine w_istore_n (ls' := [(1, vI 1), (0, vR (6, 0, w))]) dX6_hasTwoAlike_1 rfl (by decide) rfl ?_
  have lp1_ : ∀ (nn_2 : Nat) (v1_2 : Int32) (hv0_2 : 1 ≤ v1_2.toInt) (hL_2 : RCH (fun x_ y_ => ST_X6_hasTwoAlike_2 w Mz x_ y_) (1 : Int32) v1_2), (2147483648 - v1_2.toInt).toNat < nn_2 → WP CC l G cy ad yX6_hasTwoAlike cX6_hasTwoAlike 3 (some .boolean) (d + 2) 2 [(1, vI v1_2), (0, vR (6, 0, w))] [] Mz (fun r M' => Mz = M' ∧ ((0 ≤ r.toInt ∧ r.toInt ≤ 1)) ∧ SP_X6_hasTwoAlike w Mz r) := by
    intro nn_2
    induction nn_2 with
    | zero => intro v1_2 hv0_2 hL_2 hm_2; exact absurd hm_2 (Nat.not_lt_zero _)
    | succ nn_2 ih_2 =>
      intro v1_2 hv0_2 hL_2 hm_2
      refine w_iload_n dX6_hasTwoAlike_2 rfl 0 rfl ?_
      refine w_aload_n dX6_hasTwoAlike_3 rfl 1 rfl ?_
      refine w_getI fl_RX6_13 rfl rfl (ic_6 hw) dX6_hasTwoAlike_4 (fun z2_ e3_ => ?_)
      have h4_ : 0 ≤ z2_.toInt ∧ z2_.toInt ≤ 24 := ofEq (P := fun v => 0 ≤ v.toInt ∧ v.toInt ≤ 24) e3_ (hIz (6, 0, w) 1 rfl)
      refine w_icmp_ge (tgt := 44) dX6_hasTwoAlike_7 (by decide) (rfl : v1_2.toInt = v1_2.toInt) (rfl : z2_.toInt = z2_.toInt) (fun h5_ => ?_) (fun h5_ => ?_)
      · refine w_iconst (v := 0) dX6_hasTwoAlike_44 (by decide) ?_
        exact w_zret rfl dX6_hasTwoAlike_45 ⟨by decide, by decide⟩ ⟨rfl, ⟨by decide, by decide⟩, ⟨v1_2, hv0_2, hL_2, z2_, e3_, h4_, (Or.inl ⟨h5_, rfl⟩)⟩⟩
      · refine w_iconst (v := 0) dX6_hasTwoAlike_10 (by decide) ?_
        refine w_istore_n (ls' := [(2, vI 0), (1, vI v1_2), (0, vR (6, 0, w))]) dX6_hasTwoAlike_11 rfl (by decide) rfl ?_
        have lp6_ : ∀ (nn_12 : Nat) (v2_12 : Int32) (hv0_12 : 0 ≤ v2_12.toInt) (hL_12 : RCH (fun x_ y_ => ST_X6_hasTwoAlike_12 w Mz v1_2 x_ y_) (0 : Int32) v2_12), (2147483648 - v2_12.toInt).toNat < nn_12 → WP CC l G cy ad yX6_hasTwoAlike cX6_hasTwoAlike 3 (some .boolean) (d + 2) 12 [(2, vI v2_12), (1, vI v1_2), (0, vR (6, 0, w))] [] Mz (fun r M' => Mz = M' ∧ ((0 ≤ r.toInt ∧ r.toInt ≤ 1)) ∧ SP_X6_hasTwoAlike w Mz r) := by
          intro nn_12
          induction nn_12 with
          | zero => intro v2_12 hv0_12 hL_12 hm_12; exact absurd hm_12 (Nat.not_lt_zero _)
          | succ nn_12 ih_12 =>
            intro v2_12 hv0_12 hL_12 hm_12
            refine w_iload_n dX6_hasTwoAlike_12 rfl 0 rfl ?_
            refine w_iload_n dX6_hasTwoAlike_13 rfl 1 rfl ?_
            refine w_icmp_ge (tgt := 38) dX6_hasTwoAlike_14 (by decide) (rfl : v2_12.toInt = v2_12.toInt) (rfl : v1_2.toInt = v1_2.toInt) (fun h7_ => ?_) (fun h7_ => ?_)
            · refine w_iincB (j := 1) (f := fun z8_ => [(1, vI z8_), (2, vI v2_12), (0, vR (6, 0, w))]) dX6_hasTwoAlike_38 rfl (by decide) (fun _ => rfl) (rfl : v1_2.toInt = v1_2.toInt) li_1 (lf_c_X6_hasTwoAlike_0 v1_2 z2_ hv0_2 h4_ h5_ ) (fun z8_ h9_ => ?_)
              refine w_goto (tgt := 2) dX6_hasTwoAlike_41 (by decide) ?_
              refine w_loc (ls' := [(1, vI z8_), (0, vR (6, 0, w))]) [0, 2] rfl ?_
              exact ih_2 z8_ (lf_c_X9_yardsToFull_1 v1_2 z8_ hv0_2 h9_ ) (RCH.tail hL_2 ⟨hv0_2, z2_, e3_, h4_, h5_, v2_12, hv0_12, hL_12, h7_, z8_, h9_, rfl⟩) (Nat.lt_of_lt_of_le (lf_c_X6_hasTwoAlike_2 v1_2 z2_ z8_ h4_ h5_ h9_ ) (Nat.le_of_lt_succ hm_2))
            · refine w_aload_n dX6_hasTwoAlike_17 rfl 2 rfl ?_
              refine w_iload_n dX6_hasTwoAlike_18 rfl 1 rfl ?_
              refine w_callV (as := [vI v1_2]) (rest := []) (c_X6_numberAt l G cy ad d w v1_2 Mz hIz hw) kV_X6_numberAt pnn_4 (Nat.le_of_ble_eq_true rfl) m_982 rfl rfl rfl (ic_6 hw) rfl rfl (by decide) (Nat.le_of_ble_eq_true rfl) dX6_hasTwoAlike_19 (fun r10_ M11_ q12_ => ?_)
              obtain ⟨rfl, h13_, hs14_⟩ := q12_
              refine w_aload_n dX6_hasTwoAlike_22 rfl 2 rfl ?_
              refine w_iload_n dX6_hasTwoAlike_23 rfl 0 rfl ?_
              refine w_callV (as := [vI v2_12]) (rest := [vI r10_]) (c_X6_numberAt l G cy ad d w v2_12 Mz hIz hw) kV_X6_numberAt pnn_4 (Nat.le_of_ble_eq_true rfl) m_982 rfl rfl rfl (ic_6 hw) rfl rfl (by decide) (Nat.le_of_ble_eq_true rfl) dX6_hasTwoAlike_24 (fun r15_ M16_ q17_ => ?_)
              obtain ⟨rfl, h18_, hs19_⟩ := q17_
              refine w_icmp_ne (tgt := 32) dX6_hasTwoAlike_27 (by decide) (rfl : r10_.toInt = r10_.toInt) (rfl : r15_.toInt = r15_.toInt) (fun h20_ => ?_) (fun h20_ => ?_)
              · refine w_iincB (j := 0) (f := fun z21_ => [(2, vI z21_), (1, vI v1_2), (0, vR (6, 0, w))]) dX6_hasTwoAlike_32 rfl (by decide) (fun _ => rfl) (rfl : v2_12.toInt = v2_12.toInt) li_1 (lf_c_X6_hasTwoAlike_3 v1_2 z2_ v2_12 h4_ h5_ hv0_12 h7_ ) (fun z21_ h22_ => ?_)
                refine w_goto (tgt := 12) dX6_hasTwoAlike_35 (by decide) ?_
                refine w_loc (ls' := [(2, vI z21_), (1, vI v1_2), (0, vR (6, 0, w))]) [0, 1, 2] rfl ?_
                exact ih_12 z21_ (lf_c_X5_takeFrom_3 v2_12 z21_ hv0_12 h22_ ) (RCH.tail hL_12 ⟨hv0_12, h7_, r10_, hs14_, r15_, hs19_, h20_, z21_, h22_, rfl⟩) (Nat.lt_of_lt_of_le (lf_c_X6_hasTwoAlike_5 v1_2 z2_ v2_12 z21_ h4_ h5_ h7_ h22_ ) (Nat.le_of_lt_succ hm_12))
              · refine w_iconst (v := 1) dX6_hasTwoAlike_30 (by decide) ?_
                exact w_zret rfl dX6_hasTwoAlike_31 ⟨by decide, by decide⟩ ⟨rfl, ⟨by decide, by decide⟩, ⟨v1_2, hv0_2, hL_2, z2_, e3_, h4_, (Or.inr ⟨h5_, v2_12, hv0_12, hL_12, h7_, r10_, hs14_, r15_, hs19_, h20_, rfl⟩)⟩⟩
        exact lp6_ _ 0 (lf_c_X5_takeFrom_5 ) RCH.refl (Nat.lt_succ_self _)
  exact lp1_ _ 1 (lf_c_X9_yardsToFull_4 ) RCH.refl (Nat.lt_succ_self _)
end
