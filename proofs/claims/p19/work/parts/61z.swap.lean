/-! cells at the end of a world that are not looked at -/
theorem D_join {A : Nat → Prop} {w1 w2 : va_W} (h1 : va_D A w1) (h2 : va_D A w2) (hd : ∀ (i j a : Nat) (e e' : va_E), w1[i]? = some (a, e) → w2[j]? = some (a, e') → False) : va_D A (w1 ++ w2) := by
  have key : ∀ (k : Nat) (q : Nat × va_E), (w1 ++ w2)[k]? = some q → (k < w1.length ∧ w1[k]? = some q) ∨ (w1.length ≤ k ∧ w2[k - w1.length]? = some q) := fun k q hk => by
    rcases Nat.lt_or_ge k w1.length with h | h
    · rw [List.getElem?_append_left h] at hk; exact Or.inl ⟨h, hk⟩
    · rw [List.getElem?_append_right h] at hk; exact Or.inr ⟨h, hk⟩
  refine ⟨fun i j p q hp hq e => ?_, fun k q hk => ?_⟩
  · obtain ⟨a1, e1⟩ := p
    obtain ⟨a2, e2⟩ := q
    have e : a1 = a2 := e
    subst e
    rcases key i _ hp with ⟨l1, g1⟩ | ⟨l1, g1⟩
    · rcases key j _ hq with ⟨l2, g2⟩ | ⟨l2, g2⟩
      · exact h1.1 i j _ _ g1 g2 rfl
      · exact (hd _ _ _ _ _ g1 g2).elim
    · rcases key j _ hq with ⟨l2, g2⟩ | ⟨l2, g2⟩
      · exact (hd _ _ _ _ _ g2 g1).elim
      · have := h2.1 _ _ _ _ g1 g2 rfl
        omega
  · rcases key k _ hk with ⟨l1, g1⟩ | ⟨l1, g1⟩
    · exact h1.2 _ _ g1
    · exact h2.2 _ _ g1
theorem P_swap {G : va_G} {cl : List vw_C} {w1 w2 : va_W} {H : Heap} (h : va_P G cl (w1 ++ w2) H) : va_P G cl (w2 ++ w1) H := va_P.app (P_right h) (P_left h)
theorem D_swap {A : Nat → Prop} {w1 w2 : va_W} (h : va_D A (w1 ++ w2)) : va_D A (w2 ++ w1) := D_join (D_right h) (D_left h) (fun i j a e e' g1 g2 => D_apart h g2 g1)
theorem aftT {G : va_G} {A : Nat → Prop} {wc wr : va_W} {H H1 : Heap} {B : Heap → Prop} (hP : va_P G classes (wc ++ wr) H) (hD : va_D A (wc ++ wr)) (hF : ∀ q, va_A wc H.size q → A q) (hB : B H1) (hk : ∀ q : Nat, q < H.size → ¬ va_A wc H.size q → H1[q]? = H[q]?) : AFT G A wr B wc H.size H1 := by
  have hr : va_P G classes wr H1 := (P_right hP).kept (fun k q h => hk q.1 (P_size (P_right hP) h) (fun z => by
    rcases z with ⟨i, e1, h1⟩ | z
    · exact D_apart hD h1 h
    · have := P_size (P_right hP) h; omega))
  refine ⟨hB, fun w1 h1 h2 => ⟨va_P.app hr h1, D_join (D_right hD) (h2.weaken (fun _ q _ h => hF q.1 h)) (fun i j a e e' g1 g2 => ?_)⟩, hr, D_right hD⟩
  rcases h2.2 j _ g2 with ⟨k, e1, h3⟩ | h3
  · exact D_apart hD h3 g1
  · have h4 := P_size (P_right hP) g1
    have h3 : H.size ≤ a := h3
    have h4 : a < H.size := h4
    omega
section CTT
variable {p : Program} {l : Launch} {e : Env} {R : Room} {s : State} {m : MethodId} {args : Array Value} {below : List Frame} {meth : Method} {c : Code} {H H0 : Heap} {locs : List Loc} {cells slots : Nat} {Q : State → Prop}
variable {cc : ByteArray} {pc : Nat} {ls : Array Slot} {rest st As : List Value} {G : va_G} {cy : Nat → ClassId} {sk : Nat → Nat} {ws wc wr : va_W} {A : Nat → Prop} {own : String} {idx mc ms nL n k : Nat} {y : MethodName} {b : ByteArray} {r : Option FieldType} {rm : Room} {a ci : Nat} {fs : List Value} {host : String}
theorem wIT {B : Heap → Prop} (hx : p.tables.exec = Jvm.exec) (hb : c.code = cc) (hml : c.maxLocals = nL) (hown : s.vm.findClass own = some m.cls) (hts : ∀ w ∈ BASE, w.before args s = true) (hE : EN G cy sk s) (hM : Met l y (wsO y b n none) rm (va_Pc (.ref a :: As) (PR G cy sk H.size wc)) (va_Qv (fun (_ : Unit) => True) (fun _ t => B t.heap) (va_A wc H.size)) mc ms (va_A wc H.size)) (hy : KI y b n k) (hl : Cond.methodLink own idx y ∈ BASE)
    (hrc : rm.cells = mc) (hrs : rm.slots = ms) (hR : rm.frames + 1 ≤ R.frames ∧ 8 + (n + 11) + rm.locals ≤ R.locals) (hP : va_P G classes (wc ++ wr) H) (hD : va_D A (wc ++ wr)) (hS : va_S A H0 H locs) (hA : ∀ q, H0.size ≤ q → A q) (hst : st = As.reverse ++ .ref a :: rest) (hn : As.length = k) (hls : ls.size = nL) (hW : (rest.map fun v => v.category).sum ≤ 8) (hdg : decode cc pc = .ok (.invokespecial idx, 3)) (hf : cells + mc ≤ R.cells ∧ slots + ms ≤ R.slots)
    (kk : ∀ (H1 : Heap) (locs1 : List Loc), AFT G A wr B wc H.size H1 → va_S A H0 H1 locs1 → W p l e R s m args below meth c H1 locs1 (cells + mc) (slots + ms) Q (F0 m (pc + 3) ls rest)) : W p l e R s m args below meth c H locs cells slots Q (F0 m pc ls st) := by
  have hF : ∀ q, va_A wc H.size q → A q := fun q h => h.elim (fun ⟨k, e, h⟩ => (D_left hD).2 k _ h) (fun h => hA q (Nat.le_trans hS.1 h))
  refine va_callv (va_runI ⟨hx, hb, hml, hown, hts⟩ hM (cwI k hts (b_in (wsO_in hy.2.2.2.1)) rfl hrc hrs (hts _ hy.2.2.1) (hts _ hl) (hts _ hy.1) hy.2.1 hy.2.2.2.2 hR) ⟨PR_blind, PR_of (P_left hP) (D_left hD) hE⟩ rfl hn hls hst (lv_room hW) hdg hf) hS (fun q _ h => hF q h) hF (fun u t H1 locs1 ht hvm hp hB hz hk hS1 => ?_)
  subst ht
  exact kk _ locs1 (aftT hP hD hF hB hk) hS1
theorem wINT {B : Heap → Prop} (hx : p.tables.exec = Jvm.exec) (hb : c.code = cc) (hml : c.maxLocals = nL) (hown : s.vm.findClass own = some m.cls) (hts : ∀ w ∈ BASE, w.before args s = true) (hE : EN G cy sk s) (hM : Met l y (wsO y b n none) rm (va_Pc (.ref a :: As) (PR G cy sk H.size wc)) (va_Qv (fun (_ : Unit) => True) (fun _ t => B t.heap) (va_A wc H.size)) mc ms (va_A wc H.size)) (hy : KI y b n k) (hl : (own, idx, y, host) ∈ NMs)
    (hrc : rm.cells = mc) (hrs : rm.slots = ms) (hR : rm.frames + 1 ≤ R.frames ∧ 8 + (n + 11) + rm.locals ≤ R.locals) (hP : va_P G classes (wc ++ wr) H) (hD : va_D A (wc ++ wr)) (hS : va_S A H0 H locs) (hA : ∀ q, H0.size ≤ q → A q) (hst : st = As.reverse ++ .ref a :: rest) (hn : As.length = k) (hls : ls.size = nL) (hW : (rest.map fun v => v.category).sum ≤ 8) (hdg : decode cc pc = .ok (.invokespecial idx, 3)) (hf : cells + mc ≤ R.cells ∧ slots + ms ≤ R.slots)
    (kk : ∀ (H1 : Heap) (locs1 : List Loc), AFT G A wr B wc H.size H1 → va_S A H0 H1 locs1 → W p l e R s m args below meth c H1 locs1 (cells + mc) (slots + ms) Q (F0 m (pc + 3) ls rest)) : W p l e R s m args below meth c H locs cells slots Q (F0 m pc ls st) := by
  have hF : ∀ q, va_A wc H.size q → A q := fun q h => h.elim (fun ⟨k, e, h⟩ => (D_left hD).2 k _ h) (fun h => hA q (Nat.le_trans hS.1 h))
  refine va_callv (va_runIN ⟨hx, hb, hml, hown, hts⟩ hM ⟨va_cnB k hts (b_in (wsO_in hy.2.2.2.1)) rfl hrc hrs (hE.2.2.1 _ hl) (hts _ hy.2.2.1) hy.2.2.2.2 hR, hy.2.1, hts _ hy.1⟩ ⟨PR_blind, PR_of (P_left hP) (D_left hD) hE⟩ rfl hn hls hst (lv_room hW) hdg hf) hS (fun q _ h => hF q h) hF (fun u t H1 locs1 ht hvm hp hB hz hk hS1 => ?_)
  subst ht
  exact kk _ locs1 (aftT hP hD hF hB hk) hS1
end CTT
