/-! the constant Strings that the model's constructor stores -/
def STRS (sk : Nat → Nat) (h0 : Nat) (U : State) : Prop := ∀ k, 4 ≤ k → k < 7 → va_O "java/lang/String" (sk k) (fun q => q = h0) U U.heap
theorem mtS {l : Launch} {y : MethodName} {b : ByteArray} {n : Nat} {r : Option FieldType} {rm : Room} {G : va_G} {cy : Nat → ClassId} {sk : Nat → Nat} {sz h0 : Nat} {WS : va_W} {av : List Value} {Qc : Array Value → State → Outcome → State → Prop} {mc ms : Nat} {free : Addr → Prop} (hy : plainName y.cls = true) (hn : (lg_sl av).length ≤ n)
    (body : ∀ (p : Program) (e : Env) (s : State) (m : MethodId) (below : List Frame) (meth : Method) (c : Code) (ls : Array Slot), p.tables.exec = Jvm.exec → c.code = b → meth.sig.returnType = r → c.maxLocals = n → (∀ w ∈ BASE, w.before av.toArray s = true) → s.vm.findClass y.cls = some m.cls → meth.locks = false → meth.name = y.name → s.heap.size = sz → va_P G classes WS s.heap → EN G cy sk s → va_D (fun _ => True) WS → STRS sk h0 s → lv_has ls n (lv_args 0 av) →
      W p l e (headSpec (wsO y b n r) rm).room s m av.toArray below meth c s.heap [] 0 0 (MQ below Qc av.toArray s mc ms free) (F0 m 0 ls [])) : Met l y (wsO y b n r) rm (va_Pc av (fun U => PR G cy sk sz WS U ∧ STRS sk h0 U)) Qc mc ms free := by
  refine Met.ofW (cc := b) (maxL := n) (ret := r) (ws' := BASE) hy rfl ?_
  intro p e s m args below meth c s₁ B hml hv
  obtain ⟨rfl, ⟨hsz, hP, hE, hD⟩, hO⟩ := hv
  have hts := atoms_spec (ws := wsO y b n r) B.pre
  rw [lg_entry_eq]
  exact body p e s m below meth c _ B.exec B.bytes B.returns hml (fun w hw => hts w (List.mem_cons_of_mem _ hw)) (findClass_of_methodNamed B.named) B.notSynchronized (name_of_methodNamed B.named B.method).1 hsz hP hE hD hO (lv_entry av hn)
theorem strA {sk : Nat → Nat} {h0 : Nat} {s : State} {e0 : va_E} (hO : STRS sk h0 s) : ∀ k, 4 ≤ k → k < 7 → sk k < s.heap.size ∧ ¬ va_A [(h0, e0)] s.heap.size (sk k) := by
  intro k h4 h7
  obtain ⟨cell, h1, h2, h3, h5⟩ := hO k h4 h7
  have hlt : sk k < s.heap.size := (Array.getElem?_eq_some_iff.mp h1).1
  refine ⟨hlt, fun q => ?_⟩
  rcases q with ⟨j, e1, hj⟩ | q
  · cases j with
    | zero => simp at hj; exact h5 hj.1.symm
    | succ j => simp at hj
  · exact absurd hlt (Nat.not_lt.mpr q)
theorem strH {sk : Nat → Nat} {h0 : Nat} {s : State} {A : Nat → Prop} {H : Heap} {locs : List Loc} (hO : STRS sk h0 s) (hn : ∀ k, 4 ≤ k → k < 7 → sk k < s.heap.size ∧ ¬ A (sk k)) (hS : va_S A s.heap H locs) (k : Nat) (h4 : 4 ≤ k) (h7 : k < 7) : ∃ cell : Cell, H[sk k]? = some cell ∧ cell.vm.isStatics = false ∧ s.vm.findClass "java/lang/String" = some cell.cls := by
  obtain ⟨cell, h1, h2, h3, -⟩ := hO k h4 h7
  exact ⟨cell, by rw [hS.2.1 _ (hn k h4 h7).1 (hn k h4 h7).2]; exact h1, h2, h3⟩
theorem asgSame {s : State} {E : String} : ∀ comp c0 : ClassId, s.vm.findClass E = some comp → s.vm.findClass E = some c0 → s.vm.assignable c0 comp = true := fun comp c0 h1 h2 => by
  rw [h1] at h2
  cases h2
  exact va_asg _ _
section STRCALL
variable {p : Program} {l : Launch} {e : Env} {R : Room} {s : State} {m : MethodId} {args : Array Value} {below : List Frame} {meth : Method} {c : Code} {H H0 : Heap} {locs : List Loc} {cells slots : Nat} {Q : State → Prop}
variable {cc : ByteArray} {pc : Nat} {ls : Array Slot} {rest st As : List Value} {G : va_G} {cy : Nat → ClassId} {sk : Nat → Nat} {ws wc wr : va_W} {A : Nat → Prop} {own : String} {idx mc ms nL n k : Nat} {y : MethodName} {b : ByteArray} {r : Option FieldType} {rm : Room} {a ci h0 : Nat}
theorem wIS {B : Heap → Prop} (hx : p.tables.exec = Jvm.exec) (hb : c.code = cc) (hml : c.maxLocals = nL) (hown : s.vm.findClass own = some m.cls) (hts : ∀ w ∈ BASE, w.before args s = true) (hE : EN G cy sk s) (hO : ∀ k, 4 ≤ k → k < 7 → va_O "java/lang/String" (sk k) (fun q => q = h0) s H) (hM : Met l y (wsO y b n none) rm (va_Pc (.ref a :: As) (fun U => PR G cy sk H.size wc U ∧ STRS sk h0 U)) (va_Qv (fun (_ : Unit) => True) (fun _ t => B t.heap) (va_A wc H.size)) mc ms (va_A wc H.size)) (hy : KI y b n k) (hl : Cond.methodLink own idx y ∈ BASE)
    (hrc : rm.cells = mc) (hrs : rm.slots = ms) (hR : rm.frames + 1 ≤ R.frames ∧ 8 + (n + 11) + rm.locals ≤ R.locals) (hP : va_P G classes ws H) (hD : va_D A ws) (hS : va_S A H0 H locs) (hA : ∀ q, H0.size ≤ q → A q) (is ir : List Nat) (hnd : va_nd is = true) (hC : is.map (fun i => ws[i]?) = wc.map some) (hRr : ir.map (fun i => ws[i]?) = wr.map some) (hnr : va_nd ir = true) (hdis : ∀ i ∈ ir, i ∉ is) (hst : st = As.reverse ++ .ref a :: rest) (hn : As.length = k) (hls : ls.size = nL) (hW : (rest.map fun v => v.category).sum ≤ 8) (hdg : decode cc pc = .ok (.invokespecial idx, 3)) (hf : cells + mc ≤ R.cells ∧ slots + ms ≤ R.slots)
    (kk : ∀ (H1 : Heap) (locs1 : List Loc), AFT G A wr B wc H.size H1 → va_S A H0 H1 locs1 → W p l e R s m args below meth c H1 locs1 (cells + mc) (slots + ms) Q (F0 m (pc + 3) ls rest)) : W p l e R s m args below meth c H locs cells slots Q (F0 m pc ls st) := by
  have hF := va_free (wc := wc) hD hS hA is hC
  have hbl : FrameBlind (va_Pc (.ref a :: As) (fun U => PR G cy sk H.size wc U ∧ STRS sk h0 U)) := fun a U g mk h => ⟨h.1, ⟨h.2.1.1, h.2.1.2.1, EN.same (u := U) (U := U.calling g mk a) rfl h.2.1.2.2.1, h.2.1.2.2.2⟩, h.2.2⟩
  have hpre : ∀ U : State, U.heap = H → s.WarmedH U.vm → va_Pc (.ref a :: As) (fun U => PR G cy sk H.size wc U ∧ STRS sk h0 U) (Value.ref a :: As).toArray U := fun U hU hW2 => ⟨rfl, (PR_of (av := .ref a :: As) (P_cut hP is hC) (hD.sub is hnd hC) hE U hU hW2).2, fun k h4 h7 => by rw [hU]; exact va_O.moved hW2.alike (hO k h4 h7)⟩
  refine va_callv (va_runI ⟨hx, hb, hml, hown, hts⟩ hM (cwI k hts (b_in (wsO_in hy.2.2.2.1)) rfl hrc hrs (hts _ hy.2.2.1) (hts _ hl) (hts _ hy.1) hy.2.1 hy.2.2.2.2 hR) ⟨hbl, hpre⟩ rfl hn hls hst (lv_room hW) hdg hf) hS (fun q _ h => hF q h) hF (fun u t H1 locs1 ht hvm hp hB hz hk hS1 => ?_)
  subst ht
  exact kk _ locs1 (aft hP hD is ir hC hRr hnr hdis hF hB hk) hS1
end STRCALL
