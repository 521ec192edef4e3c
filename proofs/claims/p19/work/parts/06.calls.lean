/-! contracts and calls -/
def las : Nat → List mV → List (Nat × mV)
  | _, [] => []
  | i, v :: t => (i, v) :: las (bif vc2 v then i + 2 else i + 1) t
theorem las_gl (ad : rf → Nat) : ∀ (as : List mV) (i : Nat), gl ad (las i as) = lv_args i (as.map (gv ad))
  | [], _ => rfl
  | v :: t, i => by
    have hc : (if (gv ad v).category = 2 then i + 2 else i + 1) = (bif vc2 v then i + 2 else i + 1) := by rcases v with x | x | x <;> rfl
    have h := las_gl ad t (bif vc2 v then i + 2 else i + 1)
    show (i, gv ad v) :: gl ad (las _ t) = (i, gv ad v) :: lv_args (if (gv ad v).category = 2 then i + 2 else i + 1) (t.map (gv ad))
    rw [hc, h]
abbrev PW (cls : List rf) (G : va_G) (cy : Nat → ClassId) (ad : rf → Nat) (sz : Nat) (M : mM) : State → Prop := PG G cy (skA ad) (saA ad) sz (WS cls cy ad M)
theorem toMet {cls : List rf} {l : Launch} {G : va_G} {cy : Nat → ClassId} {ad : rf → Nat} {y : MethodName} {b : ByteArray} {n : Nat} {r : Option FieldType} {d : Nat} {as : List mV} {M : mM} {Q : Int32 → mM → Prop} (h : WP cls l G cy ad y b n r d 0 (las 0 as) [] M Q) (hy : plainName y.cls = true) (hn : (lg_sl (as.map (gv ad))).length ≤ n) (sz : Nat) :
    Met l y (wsO y b n r) (rmd d) (va_Pc (as.map (gv ad)) (PW cls G cy ad sz M)) (QC cls G cy ad r (va_A (WS cls cy ad M) sz) Q) 0 0 (va_A (WS cls cy ad M) sz) := by
  refine Met.ofW (cc := b) (maxL := n) (ret := r) (ws' := BASE) hy rfl ?_
  intro p e s m args below meth c s₁ B hml hv
  obtain ⟨rfl, ⟨hsz, hP, hE, hD⟩, hT⟩ := hv
  have hts := atoms_spec (ws := wsO y b n r) B.pre
  rw [lg_entry_eq]
  subst hsz
  exact h p e s m (as.map (gv ad)).toArray below meth c (va_A (WS cls cy ad M) s.heap.size) ⟨B.exec, B.bytes, B.returns, hml, fun w hw => hts w (List.mem_cons_of_mem _ hw), findClass_of_methodNamed B.named, B.notSynchronized, hE, hT.up, fun q h => Or.inr h⟩ _ s.heap [] (by rw [las_gl]; exact lv_entry _ hn) ⟨hP, hD.self⟩ va_S.rf
section WPCALLS
variable {cls : List rf} {l : Launch} {G : va_G} {cy : Nat → ClassId} {ad : rf → Nat} {y : MethodName} {b : ByteArray} {n : Nat} {r : Option FieldType} {d : Nat} {pc : Nat} {ls : List (Nat × mV)} {st : List mV} {M : mM} {Q : Int32 → mM → Prop}
variable {y' : MethodName} {b' : ByteArray} {n' : Nat} {Q' : Int32 → mM → Prop} {as rest : List mV} {idx k : Nat}
theorem WO_free {A : Nat → Prop} {s : State} {H : Heap} {locs : List Loc} (hP : WO cls G cy ad A M H) (hS : va_S A s.heap H locs) (hA : ∀ q : Nat, s.heap.size ≤ q → A q) : ∀ q, va_A (WS cls cy ad M) H.size q → A q := fun q h => h.elim (fun ⟨k, e, h⟩ => hP.2.2 k _ h) (fun h => hA q (Nat.le_trans hS.1 h))
theorem WO_up {A B : Nat → Prop} {H : Heap} (h : WO cls G cy ad B M H) (hF : ∀ q, B q → A q) : WO cls G cy ad A M H := ⟨h.1, h.2.weaken (fun _ q _ hb => hF q.1 hb)⟩
theorem args_st {ad : rf → Nat} (as rest : List mV) (v : List mV) : (as.reverse ++ (v ++ rest)).map (gv ad) = (as.map (gv ad)).reverse ++ (v.map (gv ad) ++ rest.map (gv ad)) := by
  rw [List.map_append, List.map_reverse, List.map_append]
/-- a method of an object is called: int -/
theorem w_callV {ty : FieldType} {role b1 w1 ci : Nat} {fs : List fR} {q : vw_C} (hc : WP cls l G cy ad y' b' n' (some ty) d 0 (las 0 (vR (role, b1, w1) :: as)) [] M Q') (hy : KV y' b' n' (some ty) k) (hp : plainName y'.cls = true) (hn : (lg_sl ((vR (role, b1, w1) :: as).map (gv ad))).length ≤ n') (hl : Cond.methodLink y.cls idx y' ∈ BASE) (hO : OB role = some (ci, fs)) (hcl : classes[ci]? = some q) (hq : q.1 = y'.cls) (hm : (role, b1, w1) ∈ cls) (hk : as.length = k) (hst : st = as.reverse ++ ([vR (role, b1, w1)] ++ rest)) (hb8 : n' ≤ 80) (hr4 : rest.length ≤ 4) (hd : decode b pc = .ok (.invokevirtual idx, 3))
    (kk : ∀ (v : Int32) (M' : mM), Q' v M' → WP cls l G cy ad y b n r (d + 1) (pc + 3) ls (vI v :: rest) M' Q) : WP cls l G cy ad y b n r (d + 1) pc ls st M Q := by
  intro p e s m args below meth c A X lsA H locs hl2 hP hS
  have hX := X
  obtain ⟨hx, hb, hr, hml, hts, hown, hlk, hE, hT, hA⟩ := X
  subst hst
  rw [args_st]
  have hM := toMet hc hp hn H.size
  have hF := WO_free hP hS hA
  obtain ⟨q0, -, hq0⟩ := WS_mem (cy := cy) (ad := ad) (M := M) hm
  have he : (WS cls cy ad M)[q0]? = some (ad (role, b1, w1), .inr (ci, fvs ad M (role, b1, w1) fs 0)) := by
    rw [hq0]; unfold ent; dsimp only; rw [hO]
  have hcat := catsum ad rest
  refine va_calli (va_runV (rest := rest.map (gv ad)) ⟨hx, hb, hml, hown, hts⟩ hM (cwV k hts (gV hy hl) rfl rfl rfl ⟨rfl, hy.2.2.2.2⟩ ⟨Nat.le_refl _, by show 8 + (n' + 11) + 100 * d ≤ 100 * (d + 1); omega⟩) ⟨PG_blind, recv0 hE hP.1 q0 he hcl hq, PG_of hS hT hP.1 hP.2 hE⟩ rfl (by rw [List.length_map]; exact hk) hl2.1 rfl (lv_room (by omega)) hd ⟨Nat.le_refl _, Nat.le_refl _⟩) hS (fun q _ h => hF q h) hF (fun v u t H1 locs1 ht hvm hpo hB hz hkp hS1 => ?_)
  subst ht
  exact kk v u hpo p e s m args below meth c A hX lsA _ locs1 hl2 (WO_up hB hF) hS1
/-- .. void -/
theorem w_callVv {role b1 w1 ci : Nat} {fs : List fR} {q : vw_C} (hc : WP cls l G cy ad y' b' n' none d 0 (las 0 (vR (role, b1, w1) :: as)) [] M Q') (hy : KV y' b' n' none k) (hp : plainName y'.cls = true) (hn : (lg_sl ((vR (role, b1, w1) :: as).map (gv ad))).length ≤ n') (hl : Cond.methodLink y.cls idx y' ∈ BASE) (hO : OB role = some (ci, fs)) (hcl : classes[ci]? = some q) (hq : q.1 = y'.cls) (hm : (role, b1, w1) ∈ cls) (hk : as.length = k) (hst : st = as.reverse ++ ([vR (role, b1, w1)] ++ rest)) (hb8 : n' ≤ 80) (hr4 : rest.length ≤ 4) (hd : decode b pc = .ok (.invokevirtual idx, 3))
    (kk : ∀ (M' : mM), Q' 0 M' → WP cls l G cy ad y b n r (d + 1) (pc + 3) ls rest M' Q) : WP cls l G cy ad y b n r (d + 1) pc ls st M Q := by
  intro p e s m args below meth c A X lsA H locs hl2 hP hS
  have hX := X
  obtain ⟨hx, hb, hr, hml, hts, hown, hlk, hE, hT, hA⟩ := X
  subst hst
  rw [args_st]
  have hM := toMet hc hp hn H.size
  have hF := WO_free hP hS hA
  obtain ⟨q0, -, hq0⟩ := WS_mem (cy := cy) (ad := ad) (M := M) hm
  have he : (WS cls cy ad M)[q0]? = some (ad (role, b1, w1), .inr (ci, fvs ad M (role, b1, w1) fs 0)) := by
    rw [hq0]; unfold ent; dsimp only; rw [hO]
  have hcat := catsum ad rest
  refine va_callv (va_runV (rest := rest.map (gv ad)) ⟨hx, hb, hml, hown, hts⟩ hM (cwV k hts (gV hy hl) rfl rfl rfl ⟨rfl, hy.2.2.2.2⟩ ⟨Nat.le_refl _, by show 8 + (n' + 11) + 100 * d ≤ 100 * (d + 1); omega⟩) ⟨PG_blind, recv0 hE hP.1 q0 he hcl hq, PG_of hS hT hP.1 hP.2 hE⟩ rfl (by rw [List.length_map]; exact hk) hl2.1 rfl (lv_room (by omega)) hd ⟨Nat.le_refl _, Nat.le_refl _⟩) hS (fun q _ h => hF q h) hF (fun u t H1 locs1 ht hvm hpo hB hz hkp hS1 => ?_)
  subst ht
  exact kk u hpo p e s m args below meth c A hX lsA _ locs1 hl2 (WO_up hB hF) hS1
/-- a static method is called: int -/
theorem w_callS {ty : FieldType} (hc : WP cls l G cy ad y' b' n' (some ty) d 0 (las 0 as) [] M Q') (hy : KS y' b' n' (some ty) k) (hp : plainName y'.cls = true) (hn : (lg_sl (as.map (gv ad))).length ≤ n') (hl : Cond.methodLink y.cls idx y' ∈ BASE) (hk : as.length = k) (hst : st = as.reverse ++ ([] ++ rest)) (hb8 : n' ≤ 80) (hr4 : rest.length ≤ 4) (hd : decode b pc = .ok (.invokestatic idx, 3))
    (kk : ∀ (v : Int32) (M' : mM), Q' v M' → WP cls l G cy ad y b n r (d + 1) (pc + 3) ls (vI v :: rest) M' Q) : WP cls l G cy ad y b n r (d + 1) pc ls st M Q := by
  intro p e s m args below meth c A X lsA H locs hl2 hP hS
  have hX := X
  obtain ⟨hx, hb, hr, hml, hts, hown, hlk, hE, hT, hA⟩ := X
  subst hst
  rw [args_st]
  have hM := toMet hc hp hn H.size
  have hF := WO_free hP hS hA
  have hcat := catsum ad rest
  refine va_calli (va_runS (rest := rest.map (gv ad)) ⟨hx, hb, hml, hown, hts⟩ hM (va_cwS k hts (gS hy hl) rfl rfl rfl hy.2.2.2 ⟨Nat.le_refl _, by show 8 + (n' + 11) + 100 * d ≤ 100 * (d + 1); omega⟩) ⟨PG_blind, PG_of hS hT hP.1 hP.2 hE⟩ rfl (by rw [List.length_map]; exact hk) hl2.1 rfl (lv_room (by omega)) hd ⟨Nat.le_refl _, Nat.le_refl _⟩) hS (fun q _ h => hF q h) hF (fun v u t H1 locs1 ht hvm hpo hB hz hkp hS1 => ?_)
  subst ht
  exact kk v u hpo p e s m args below meth c A hX lsA _ locs1 hl2 (WO_up hB hF) hS1
/-- .. void -/
theorem w_callSv (hc : WP cls l G cy ad y' b' n' none d 0 (las 0 as) [] M Q') (hy : KS y' b' n' none k) (hp : plainName y'.cls = true) (hn : (lg_sl (as.map (gv ad))).length ≤ n') (hl : Cond.methodLink y.cls idx y' ∈ BASE) (hk : as.length = k) (hst : st = as.reverse ++ ([] ++ rest)) (hb8 : n' ≤ 80) (hr4 : rest.length ≤ 4) (hd : decode b pc = .ok (.invokestatic idx, 3))
    (kk : ∀ (M' : mM), Q' 0 M' → WP cls l G cy ad y b n r (d + 1) (pc + 3) ls rest M' Q) : WP cls l G cy ad y b n r (d + 1) pc ls st M Q := by
  intro p e s m args below meth c A X lsA H locs hl2 hP hS
  have hX := X
  obtain ⟨hx, hb, hr, hml, hts, hown, hlk, hE, hT, hA⟩ := X
  subst hst
  rw [args_st]
  have hM := toMet hc hp hn H.size
  have hF := WO_free hP hS hA
  have hcat := catsum ad rest
  refine va_callv (va_runS (rest := rest.map (gv ad)) ⟨hx, hb, hml, hown, hts⟩ hM (va_cwS k hts (gS hy hl) rfl rfl rfl hy.2.2.2 ⟨Nat.le_refl _, by show 8 + (n' + 11) + 100 * d ≤ 100 * (d + 1); omega⟩) ⟨PG_blind, PG_of hS hT hP.1 hP.2 hE⟩ rfl (by rw [List.length_map]; exact hk) hl2.1 rfl (lv_room (by omega)) hd ⟨Nat.le_refl _, Nat.le_refl _⟩) hS (fun q _ h => hF q h) hF (fun u t H1 locs1 ht hvm hpo hB hz hkp hS1 => ?_)
  subst ht
  exact kk u hpo p e s m args below meth c A hX lsA _ locs1 hl2 (WO_up hB hF) hS1
/-- a nest mate's private static method is called: int -/
theorem w_callSN {ty : FieldType} {host : String} (hc : WP cls l G cy ad y' b' n' (some ty) d 0 (las 0 as) [] M Q') (hy : KS y' b' n' (some ty) k) (hp : plainName y'.cls = true) (hn : (lg_sl (as.map (gv ad))).length ≤ n') (hl : (y.cls, idx, y', host) ∈ NMs) (hk : as.length = k) (hst : st = as.reverse ++ ([] ++ rest)) (hb8 : n' ≤ 80) (hr4 : rest.length ≤ 4) (hd : decode b pc = .ok (.invokestatic idx, 3))
    (kk : ∀ (v : Int32) (M' : mM), Q' v M' → WP cls l G cy ad y b n r (d + 1) (pc + 3) ls (vI v :: rest) M' Q) : WP cls l G cy ad y b n r (d + 1) pc ls st M Q := by
  intro p e s m args below meth c A X lsA H locs hl2 hP hS
  have hX := X
  obtain ⟨hx, hb, hr, hml, hts, hown, hlk, hE, hT, hA⟩ := X
  subst hst
  rw [args_st]
  have hM := toMet hc hp hn H.size
  have hF := WO_free hP hS hA
  have hcat := catsum ad rest
  refine va_calli (va_runSN (rest := rest.map (gv ad)) ⟨hx, hb, hml, hown, hts⟩ hM ⟨va_cnB k hts (b_in (wsO_in hy.2.2.1)) rfl rfl rfl (hE.2.2.1 _ hl) (hts _ hy.2.1) hy.2.2.2 ⟨Nat.le_refl _, by show 8 + (n' + 11) + 100 * d ≤ 100 * (d + 1); omega⟩, hts _ hy.1, trivial⟩ ⟨PG_blind, PG_of hS hT hP.1 hP.2 hE⟩ rfl (by rw [List.length_map]; exact hk) hl2.1 rfl (lv_room (by omega)) hd ⟨Nat.le_refl _, Nat.le_refl _⟩) hS (fun q _ h => hF q h) hF (fun v u t H1 locs1 ht hvm hpo hB hz hkp hS1 => ?_)
  subst ht
  exact kk v u hpo p e s m args below meth c A hX lsA _ locs1 hl2 (WO_up hB hF) hS1
end WPCALLS
