/-! the base: one word list for every method, the environment that every contract carries, starts and calls in one row each -/
theorem bmem {w : Cond} (i : Nat) (h : lw_tbl[i]? = some w) (g : goodWord w = true) : w ∈ BASE := List.mem_filter.mpr ⟨List.mem_of_getElem? h, g⟩
theorem bmT1 {w : Cond} (i : Nat) (h : tables_1_1[i]? = some w) (g : goodWord w = true) : w ∈ BASE := List.mem_filter.mpr ⟨List.mem_append_right _ (tbM1 i h), g⟩
theorem bmT2 {w : Cond} (i : Nat) (h : tables_1_2[i]? = some w) (g : goodWord w = true) : w ∈ BASE := List.mem_filter.mpr ⟨List.mem_append_right _ (tbM2 i h), g⟩
theorem bmT3 {w : Cond} (i : Nat) (h : tables_1_3[i]? = some w) (g : goodWord w = true) : w ∈ BASE := List.mem_filter.mpr ⟨List.mem_append_right _ (tbM3 i h), g⟩
theorem bmT4 {w : Cond} (i : Nat) (h : tables_1_4[i]? = some w) (g : goodWord w = true) : w ∈ BASE := List.mem_filter.mpr ⟨List.mem_append_right _ (tbM4 i h), g⟩
theorem bmT5 {w : Cond} (i : Nat) (h : tables_1_5[i]? = some w) (g : goodWord w = true) : w ∈ BASE := List.mem_filter.mpr ⟨List.mem_append_right _ (tbM5 i h), g⟩
theorem bmT6 {w : Cond} (i : Nat) (h : tables_1_6[i]? = some w) (g : goodWord w = true) : w ∈ BASE := List.mem_filter.mpr ⟨List.mem_append_right _ (tbM6 i h), g⟩
theorem bmT7 {w : Cond} (i : Nat) (h : tables_1_7[i]? = some w) (g : goodWord w = true) : w ∈ BASE := List.mem_filter.mpr ⟨List.mem_append_right _ (tbM7 i h), g⟩
theorem bmT8 {w : Cond} (i : Nat) (h : tables_1_8[i]? = some w) (g : goodWord w = true) : w ∈ BASE := List.mem_filter.mpr ⟨List.mem_append_right _ (tbM8 i h), g⟩
theorem b_in {L : List Cond} (h : ∀ w ∈ L, w ∈ BASE) : GoodIn BASE L := fun w hw => ⟨h w hw, good_of_word (List.mem_filter.mp (h w hw)).2⟩
def KS (y : MethodName) (b : ByteArray) (n : Nat) (r : Option FieldType) (k : Nat) : Prop := Cond.static y ∈ BASE ∧ Cond.initialized y.cls ∈ BASE ∧ Cond.code y b n r ∈ BASE ∧ y.cls ≠ "java/lang/invoke/MethodHandle" ∧ y.cls ≠ "java/lang/invoke/VarHandle" ∧ (parseMethodDescriptor y.desc).map (fun d => d.parameters.length) = some k
def KV (y : MethodName) (b : ByteArray) (n : Nat) (r : Option FieldType) (k : Nat) : Prop := Cond.instanceMethod y ∈ BASE ∧ Cond.selects y.cls y y ∈ BASE ∧ Cond.initialized y.cls ∈ BASE ∧ Cond.code y b n r ∈ BASE ∧ y.cls ≠ "java/lang/invoke/MethodHandle" ∧ y.cls ≠ "java/lang/invoke/VarHandle" ∧ (parseMethodDescriptor y.desc).map (fun d => d.parameters.length) = some k
def KI (y : MethodName) (b : ByteArray) (n : Nat) (k : Nat) : Prop := Cond.instanceMethod y ∈ BASE ∧ y.name = "<init>" ∧ Cond.initialized y.cls ∈ BASE ∧ Cond.code y b n none ∈ BASE ∧ y.cls ≠ "java/lang/invoke/MethodHandle" ∧ y.cls ≠ "java/lang/invoke/VarHandle" ∧ (parseMethodDescriptor y.desc).map (fun d => d.parameters.length) = some k
theorem nhM_0 : RX11 ≠ "java/lang/invoke/MethodHandle" := by decide +kernel
theorem nhV_0 : RX11 ≠ "java/lang/invoke/VarHandle" := by decide +kernel
theorem nhM_1 : RX7 ≠ "java/lang/invoke/MethodHandle" := by decide +kernel
theorem nhV_1 : RX7 ≠ "java/lang/invoke/VarHandle" := by decide +kernel
theorem nhM_2 : RX5 ≠ "java/lang/invoke/MethodHandle" := by decide +kernel
theorem nhV_2 : RX5 ≠ "java/lang/invoke/VarHandle" := by decide +kernel
theorem nhM_3 : RX9 ≠ "java/lang/invoke/MethodHandle" := by decide +kernel
theorem nhV_3 : RX9 ≠ "java/lang/invoke/VarHandle" := by decide +kernel
theorem nhM_4 : RX6 ≠ "java/lang/invoke/MethodHandle" := by decide +kernel
theorem nhV_4 : RX6 ≠ "java/lang/invoke/VarHandle" := by decide +kernel
theorem nhM_5 : RX2 ≠ "java/lang/invoke/MethodHandle" := by decide +kernel
theorem nhV_5 : RX2 ≠ "java/lang/invoke/VarHandle" := by decide +kernel
theorem nhM_6 : RX1 ≠ "java/lang/invoke/MethodHandle" := by decide +kernel
theorem nhV_6 : RX1 ≠ "java/lang/invoke/VarHandle" := by decide +kernel
theorem nhM_7 : RX10 ≠ "java/lang/invoke/MethodHandle" := by decide +kernel
theorem nhV_7 : RX10 ≠ "java/lang/invoke/VarHandle" := by decide +kernel
theorem nhM_8 : RX3 ≠ "java/lang/invoke/MethodHandle" := by decide +kernel
theorem nhV_8 : RX3 ≠ "java/lang/invoke/VarHandle" := by decide +kernel
theorem nhM_9 : "java/lang/Integer" ≠ "java/lang/invoke/MethodHandle" := by decide +kernel
theorem nhV_9 : "java/lang/Integer" ≠ "java/lang/invoke/VarHandle" := by decide +kernel
theorem nhM_10 : "java/lang/Long" ≠ "java/lang/invoke/MethodHandle" := by decide +kernel
theorem nhV_10 : "java/lang/Long" ≠ "java/lang/invoke/VarHandle" := by decide +kernel
theorem nhM_11 : RX0 ≠ "java/lang/invoke/MethodHandle" := by decide +kernel
theorem nhV_11 : RX0 ≠ "java/lang/invoke/VarHandle" := by decide +kernel
theorem nhM_12 : RX8 ≠ "java/lang/invoke/MethodHandle" := by decide +kernel
theorem nhV_12 : RX8 ≠ "java/lang/invoke/VarHandle" := by decide +kernel
theorem nhM_13 : "jdk/internal/util/Preconditions" ≠ "java/lang/invoke/MethodHandle" := by decide +kernel
theorem nhV_13 : "jdk/internal/util/Preconditions" ≠ "java/lang/invoke/VarHandle" := by decide +kernel
theorem nhM_14 : "java/lang/StringLatin1" ≠ "java/lang/invoke/MethodHandle" := by decide +kernel
theorem nhV_14 : "java/lang/StringLatin1" ≠ "java/lang/invoke/VarHandle" := by decide +kernel
theorem nhM_15 : "java/lang/String" ≠ "java/lang/invoke/MethodHandle" := by decide +kernel
theorem nhV_15 : "java/lang/String" ≠ "java/lang/invoke/VarHandle" := by decide +kernel
theorem nhM_16 : RX4 ≠ "java/lang/invoke/MethodHandle" := by decide +kernel
theorem nhV_16 : RX4 ≠ "java/lang/invoke/VarHandle" := by decide +kernel
theorem nhM_17 : RX12 ≠ "java/lang/invoke/MethodHandle" := by decide +kernel
theorem nhV_17 : RX12 ≠ "java/lang/invoke/VarHandle" := by decide +kernel
theorem pnn_0 : plainName RX11 = true := by decide +kernel
theorem pnn_1 : plainName RX7 = true := by decide +kernel
theorem pnn_2 : plainName RX5 = true := by decide +kernel
theorem pnn_3 : plainName RX9 = true := by decide +kernel
theorem pnn_4 : plainName RX6 = true := by decide +kernel
theorem pnn_5 : plainName RX2 = true := by decide +kernel
theorem pnn_6 : plainName RX1 = true := by decide +kernel
theorem pnn_7 : plainName RX10 = true := by decide +kernel
theorem pnn_8 : plainName RX3 = true := by decide +kernel
theorem pnn_9 : plainName "java/lang/Integer" = true := by decide +kernel
theorem pnn_10 : plainName "java/lang/Long" = true := by decide +kernel
theorem pnn_11 : plainName RX0 = true := by decide +kernel
theorem pnn_12 : plainName RX8 = true := by decide +kernel
theorem pnn_13 : plainName "jdk/internal/util/Preconditions" = true := by decide +kernel
theorem pnn_14 : plainName "java/lang/StringLatin1" = true := by decide +kernel
theorem pnn_15 : plainName "java/lang/String" = true := by decide +kernel
theorem pnn_16 : plainName RX4 = true := by decide +kernel
theorem pnn_17 : plainName RX12 = true := by decide +kernel
theorem pdn_0 : (parseMethodDescriptor "(III)Z").map (fun d => d.parameters.length) = some 3 := by decide +kernel
theorem pdn_1 : (parseMethodDescriptor "(I)Z").map (fun d => d.parameters.length) = some 1 := by decide +kernel
theorem pdn_2 : (parseMethodDescriptor "(I)I").map (fun d => d.parameters.length) = some 1 := by decide +kernel
theorem pdn_3 : (parseMethodDescriptor "(III)I").map (fun d => d.parameters.length) = some 3 := by decide +kernel
theorem pdn_4 : (parseMethodDescriptor "(I)V").map (fun d => d.parameters.length) = some 1 := by decide +kernel
theorem pdn_5 : (parseMethodDescriptor "(II)V").map (fun d => d.parameters.length) = some 2 := by decide +kernel
theorem pdn_6 : (parseMethodDescriptor "()I").map (fun d => d.parameters.length) = some 0 := by decide +kernel
theorem pdn_7 : (parseMethodDescriptor "(II)Z").map (fun d => d.parameters.length) = some 2 := by decide +kernel
theorem pdn_8 : (parseMethodDescriptor "(II)I").map (fun d => d.parameters.length) = some 2 := by decide +kernel
theorem pdn_9 : (parseMethodDescriptor "()Z").map (fun d => d.parameters.length) = some 0 := by decide +kernel
theorem pdn_10 : (parseMethodDescriptor "(LClickStreet$Formula;)V").map (fun d => d.parameters.length) = some 1 := by decide +kernel
theorem pdn_11 : (parseMethodDescriptor "([I)I").map (fun d => d.parameters.length) = some 1 := by decide +kernel
theorem pdn_12 : (parseMethodDescriptor "(IIIII)Z").map (fun d => d.parameters.length) = some 5 := by decide +kernel
theorem pdn_13 : (parseMethodDescriptor "(IIII)Z").map (fun d => d.parameters.length) = some 4 := by decide +kernel
theorem pdn_14 : (parseMethodDescriptor "(IIIII)I").map (fun d => d.parameters.length) = some 5 := by decide +kernel
theorem pdn_15 : (parseMethodDescriptor "(LClickStreet$Laws;)V").map (fun d => d.parameters.length) = some 1 := by decide +kernel
theorem pdn_16 : (parseMethodDescriptor "(LClickStreet$Lessons;)V").map (fun d => d.parameters.length) = some 1 := by decide +kernel
theorem pdn_17 : (parseMethodDescriptor "(LClickStreet$Row;)V").map (fun d => d.parameters.length) = some 1 := by decide +kernel
theorem pdn_18 : (parseMethodDescriptor "(LClickStreet$Street;)V").map (fun d => d.parameters.length) = some 1 := by decide +kernel
theorem pdn_19 : (parseMethodDescriptor "(III)V").map (fun d => d.parameters.length) = some 3 := by decide +kernel
theorem pdn_20 : (parseMethodDescriptor "(LClickStreet$Walker;)V").map (fun d => d.parameters.length) = some 1 := by decide +kernel
theorem pdn_21 : (parseMethodDescriptor "(J)I").map (fun d => d.parameters.length) = some 1 := by decide +kernel
theorem pdn_22 : (parseMethodDescriptor "(LClickStreet$Walker;I)I").map (fun d => d.parameters.length) = some 2 := by decide +kernel
theorem pdn_23 : (parseMethodDescriptor "(LClickStreet$World;III)Z").map (fun d => d.parameters.length) = some 4 := by decide +kernel
theorem pdn_24 : (parseMethodDescriptor "(LClickStreet$World;III)V").map (fun d => d.parameters.length) = some 4 := by decide +kernel
theorem pdn_25 : (parseMethodDescriptor "(IIII)I").map (fun d => d.parameters.length) = some 4 := by decide +kernel
theorem pdn_26 : (parseMethodDescriptor "(LClickStreet$Walker;II)I").map (fun d => d.parameters.length) = some 3 := by decide +kernel
theorem pdn_27 : (parseMethodDescriptor "(LClickStreet$World;ILClickStreet$Sheet;LClickStreet$Sheet;)Z").map (fun d => d.parameters.length) = some 4 := by decide +kernel
theorem pdn_28 : (parseMethodDescriptor "(LClickStreet$World;ILClickStreet$Sheet;I)Z").map (fun d => d.parameters.length) = some 4 := by decide +kernel
theorem pdn_29 : (parseMethodDescriptor "(LClickStreet$Walker;I)V").map (fun d => d.parameters.length) = some 2 := by decide +kernel
theorem pdn_30 : (parseMethodDescriptor "()V").map (fun d => d.parameters.length) = some 0 := by decide +kernel
theorem pdn_31 : (parseMethodDescriptor "(LClickStreet$World;)V").map (fun d => d.parameters.length) = some 1 := by decide +kernel
theorem pdn_32 : (parseMethodDescriptor "(LClickStreet$Walker;III)I").map (fun d => d.parameters.length) = some 4 := by decide +kernel
theorem pdn_33 : (parseMethodDescriptor "(IILjava/util/function/BiFunction;)I").map (fun d => d.parameters.length) = some 3 := by decide +kernel
theorem pdn_34 : (parseMethodDescriptor "([BI)C").map (fun d => d.parameters.length) = some 2 := by decide +kernel
theorem pdn_35 : (parseMethodDescriptor "([BIII)I").map (fun d => d.parameters.length) = some 4 := by decide +kernel
theorem pdn_36 : (parseMethodDescriptor "()B").map (fun d => d.parameters.length) = some 0 := by decide +kernel
theorem pdn_37 : (parseMethodDescriptor "(LClickStreet$Row;I)I").map (fun d => d.parameters.length) = some 2 := by decide +kernel
theorem pdn_38 : (parseMethodDescriptor "(IIIIII)Z").map (fun d => d.parameters.length) = some 6 := by decide +kernel
theorem pdn_39 : (parseMethodDescriptor "(IZ)Z").map (fun d => d.parameters.length) = some 2 := by decide +kernel
theorem pdn_40 : (parseMethodDescriptor "([I[I)V").map (fun d => d.parameters.length) = some 2 := by decide +kernel
theorem pdn_41 : (parseMethodDescriptor "(IIIII)V").map (fun d => d.parameters.length) = some 5 := by decide +kernel
theorem pdn_42 : (parseMethodDescriptor "(I)C").map (fun d => d.parameters.length) = some 1 := by decide +kernel
theorem pdn_43 : (parseMethodDescriptor "(JI)I").map (fun d => d.parameters.length) = some 2 := by decide +kernel
theorem pdn_44 : (parseMethodDescriptor "(IZ)I").map (fun d => d.parameters.length) = some 2 := by decide +kernel
theorem wsO_in {y : MethodName} {b : ByteArray} {n : Nat} {r : Option FieldType} (h : Cond.code y b n r ∈ BASE) : ∀ w ∈ wsO y b n r, w ∈ BASE := fun w hw => (List.mem_cons.mp hw).elim (fun e => e ▸ h) id
theorem gS {own : String} {idx : Nat} {y : MethodName} {b : ByteArray} {n : Nat} {r : Option FieldType} {k : Nat} (h : KS y b n r k) (hl : Cond.methodLink own idx y ∈ BASE) : GoodIn BASE (va_wsS own idx y (wsO y b n r)) := b_in fun w hw => by
  rcases List.mem_append.mp hw with q | q
  · simp only [List.mem_cons, List.not_mem_nil, or_false] at q
    rcases q with rfl | rfl | rfl
    · exact hl
    · exact h.1
    · exact h.2.1
  · exact wsO_in h.2.2.1 w q
theorem gV {own : String} {idx : Nat} {y : MethodName} {b : ByteArray} {n : Nat} {r : Option FieldType} {k : Nat} (h : KV y b n r k) (hl : Cond.methodLink own idx y ∈ BASE) : GoodIn BASE (wsV own idx y.cls y (wsO y b n r)) := b_in fun w hw => by
  rcases List.mem_append.mp hw with q | q
  · simp only [List.mem_cons, List.not_mem_nil, or_false] at q
    rcases q with rfl | rfl | rfl | rfl
    · exact hl
    · exact h.1
    · exact h.2.1
    · exact h.2.2.1
  · exact wsO_in h.2.2.2.1 w q
/-- what holds of the machine's tables all the way -/
def EN (G : va_G) (cy : Nat → ClassId) (sk : Nat → Nat) (U : State) : Prop :=
  va_K G classes (TYS cy) U ∧ (∀ q ∈ NFs, va_Nw (.fieldLinkNest q.1 q.2.1 q.2.2.1 q.2.2.2.1 q.2.2.2.2.1 q.2.2.2.2.2) U) ∧ (∀ q ∈ NMs, va_Nw (.methodLinkNest q.1 q.2.1 q.2.2.1 q.2.2.2) U) ∧ (∀ (k : Nat) (q : String × Nat × String), NSs[k]? = some q → vk_R q.1 q.2.1 q.2.2 (sk k) U) ∧ ∀ C ∈ AOs, va_AO C U
theorem EN.same {G : va_G} {cy : Nat → ClassId} {sk : Nat → Nat} {u U : State} (hv : U.vm = u.vm) (h : EN G cy sk u) : EN G cy sk U := by
  have hA : u.vm.Alike U.vm := by rw [hv]; exact Vm.Alike.refl _
  exact ⟨va_K.moved hA h.1, fun q hq => va_Nw.same rfl hv.symm (h.2.1 q hq), fun q hq => va_Nw.same rfl hv.symm (h.2.2.1 q hq), fun k q hq => vk_R.same hv (h.2.2.2.1 k q hq), fun C hC => va_AO.moved hA (h.2.2.2.2 C hC)⟩
theorem EN.warm {G : va_G} {cy : Nat → ClassId} {sk : Nat → Nat} {s U : State} (hW : s.WarmedH U.vm) (h : EN G cy sk s) : EN G cy sk U :=
  ⟨va_K.moved hW.alike h.1, fun q hq => va_Nw.warmF hW (h.2.1 q hq), fun q hq => va_Nw.warmM hW (h.2.2.1 q hq), fun k q hq => vk_R.warm hW (h.2.2.2.1 k q hq), fun C hC => va_AO.moved hW.alike (h.2.2.2.2 C hC)⟩
def PR (G : va_G) (cy : Nat → ClassId) (sk : Nat → Nat) (sz : Nat) (ws : va_W) (U : State) : Prop := U.heap.size = sz ∧ va_P G classes ws U.heap ∧ EN G cy sk U ∧ va_D (fun _ => True) ws
theorem PR_blind {av : List Value} {G : va_G} {cy : Nat → ClassId} {sk : Nat → Nat} {sz : Nat} {ws : va_W} : FrameBlind (va_Pc av (PR G cy sk sz ws)) := fun a U g mk h => ⟨h.1, h.2.1, h.2.2.1, EN.same (u := U) (U := U.calling g mk a) rfl h.2.2.2.1, h.2.2.2.2⟩
theorem PR_of {av : List Value} {G : va_G} {cy : Nat → ClassId} {sk : Nat → Nat} {H : Heap} {ws : va_W} {A : Nat → Prop} {s : State} (hP : va_P G classes ws H) (hD : va_D A ws) (hE : EN G cy sk s) : ∀ U : State, U.heap = H → s.WarmedH U.vm → va_Pc av (PR G cy sk H.size ws) av.toArray U :=
  fun U hU hW => ⟨rfl, by rw [hU], by rw [hU]; exact hP, hE.warm hW, hD.weaken (fun _ _ _ _ => trivial)⟩
theorem P_cut {G : va_G} {cl : List vw_C} {ws wc : va_W} {H : Heap} (h : va_P G cl ws H) (is : List Nat) (hC : is.map (fun i => ws[i]?) = wc.map some) : va_P G cl wc H := fun k q hk => by
  have h1 : (is.map (fun i => ws[i]?))[k]? = some (some q) := by rw [hC, List.getElem?_map, hk]; rfl
  rw [List.getElem?_map] at h1
  cases hi : is[k]? with
  | none => rw [hi] at h1; cases h1
  | some i => rw [hi] at h1; exact h i q (Option.some.inj h1)
theorem P_nil {G : va_G} {cl : List vw_C} {H : Heap} : va_P G cl [] H := fun k q h => by simp at h
theorem D_nil {A : Nat → Prop} : va_D A [] := ⟨fun i j p q h => by simp at h, fun k q h => by simp at h⟩
/-- the start of every contract's proof -/
theorem mt {l : Launch} {y : MethodName} {b : ByteArray} {n : Nat} {r : Option FieldType} {rm : Room} {G : va_G} {cy : Nat → ClassId} {sk : Nat → Nat} {sz : Nat} {WS : va_W} {av : List Value} {Qc : Array Value → State → Outcome → State → Prop} {mc ms : Nat} {free : Addr → Prop} (hy : plainName y.cls = true) (hn : (lg_sl av).length ≤ n)
    (body : ∀ (p : Program) (e : Env) (s : State) (m : MethodId) (below : List Frame) (meth : Method) (c : Code) (ls : Array Slot), p.tables.exec = Jvm.exec → c.code = b → meth.sig.returnType = r → c.maxLocals = n → (∀ w ∈ BASE, w.before av.toArray s = true) → s.vm.findClass y.cls = some m.cls → meth.locks = false → meth.name = y.name → s.heap.size = sz → va_P G classes WS s.heap → EN G cy sk s → va_D (fun _ => True) WS → lv_has ls n (lv_args 0 av) →
      W p l e (headSpec (wsO y b n r) rm).room s m av.toArray below meth c s.heap [] 0 0 (MQ below Qc av.toArray s mc ms free) (F0 m 0 ls [])) : Met l y (wsO y b n r) rm (va_Pc av (PR G cy sk sz WS)) Qc mc ms free := by
  refine Met.ofW (cc := b) (maxL := n) (ret := r) (ws' := BASE) hy rfl ?_
  intro p e s m args below meth c s₁ B hml hv
  obtain ⟨rfl, hsz, hP, hE, hD⟩ := hv
  have hts := atoms_spec (ws := wsO y b n r) B.pre
  rw [lg_entry_eq]
  exact body p e s m below meth c _ B.exec B.bytes B.returns hml (fun w hw => hts w (List.mem_cons_of_mem _ hw)) (findClass_of_methodNamed B.named) B.notSynchronized (name_of_methodNamed B.named B.method).1 hsz hP hE hD (lv_entry av hn)
section BASECALLS
variable {p : Program} {l : Launch} {e : Env} {R : Room} {s : State} {m : MethodId} {args : Array Value} {below : List Frame} {meth : Method} {c : Code} {H H0 : Heap} {locs : List Loc} {cells slots : Nat} {Q : State → Prop}
variable {cc : ByteArray} {pc : Nat} {ls : Array Slot} {rest st As : List Value} {G : va_G} {cy : Nat → ClassId} {sk : Nat → Nat} {ws wc wr : va_W} {A : Nat → Prop} {own : String} {idx mc ms nL n k : Nat} {y : MethodName} {b : ByteArray} {r : Option FieldType} {rm : Room} {a ci : Nat} {fs : List Value} {host : String}
theorem tp {x v : Int32} (h : x = v) (kk : W p l e R s m args below meth c H locs cells slots Q (F0 m pc ls (.int v :: rest))) : W p l e R s m args below meth c H locs cells slots Q (F0 m pc ls (.int x :: rest)) := h ▸ kk
theorem tpl {x v : Int64} (h : x = v) (kk : W p l e R s m args below meth c H locs cells slots Q (F0 m pc ls (.long v :: rest))) : W p l e R s m args below meth c H locs cells slots Q (F0 m pc ls (.long x :: rest)) := h ▸ kk
theorem recv0 (hE : EN G cy sk s) (hP : va_P G classes ws H) (q0 : Nat) (he : ws[q0]? = some (a, .inr (ci, fs))) {q : vw_C} (hc : classes[ci]? = some q) (hq : q.1 = y.cls) : ∃ cell : Cell, H[a]? = some cell ∧ cell.vm.isStatics = false ∧ s.vm.findClass y.cls = some cell.cls := hq ▸ va_recv hE.1 hP hc he
/-- a reader is called: int, static -/
theorem rS {post : Int32 → Prop} (hx : p.tables.exec = Jvm.exec) (hb : c.code = cc) (hml : c.maxLocals = nL) (hown : s.vm.findClass own = some m.cls) (hts : ∀ w ∈ BASE, w.before args s = true) (hE : EN G cy sk s) (hM : Met l y (wsO y b n r) rm (va_Pc As (PR G cy sk H.size wc)) (vp_Si post) 0 0 (fun _ => False)) (hy : KS y b n r k) (hl : Cond.methodLink own idx y ∈ BASE)
    (hrc : rm.cells = 0) (hrs : rm.slots = 0) (hR : rm.frames + 1 ≤ R.frames ∧ 8 + (n + 11) + rm.locals ≤ R.locals) (hP : va_P G classes ws H) (hD : va_D A ws) (is : List Nat) (hnd : va_nd is = true) (hC : is.map (fun i => ws[i]?) = wc.map some) (hst : st = As.reverse ++ rest) (hn : As.length = k) (hls : ls.size = nL) (hW : (rest.map fun v => v.category).sum ≤ 8) (hdg : decode cc pc = .ok (.invokestatic idx, 3)) (hf : cells ≤ R.cells ∧ slots ≤ R.slots)
    (kk : ∀ r : Int32, post r → W p l e R s m args below meth c H locs cells slots Q (F0 m (pc + 3) ls (.int r :: rest))) : W p l e R s m args below meth c H locs cells slots Q (F0 m pc ls st) :=
  vp_callSi (W.runS ⟨hx, hb, hml, hown, hts⟩ hM (va_cwS k hts (gS hy hl) rfl hrc hrs hy.2.2.2 hR) ⟨PR_blind, PR_of (P_cut hP is hC) (hD.sub is hnd hC) hE⟩ rfl hn hls hst (lv_room hW) hdg hf) kk
/-- a reader is called: int, virtual -/
theorem rV {post : Int32 → Prop} (hx : p.tables.exec = Jvm.exec) (hb : c.code = cc) (hml : c.maxLocals = nL) (hown : s.vm.findClass own = some m.cls) (hts : ∀ w ∈ BASE, w.before args s = true) (hE : EN G cy sk s) (hM : Met l y (wsO y b n r) rm (va_Pc (.ref a :: As) (PR G cy sk H.size wc)) (vp_Si post) 0 0 (fun _ => False)) (hy : KV y b n r k) (hl : Cond.methodLink own idx y ∈ BASE)
    (hrc : rm.cells = 0) (hrs : rm.slots = 0) (hR : rm.frames + 1 ≤ R.frames ∧ 8 + (n + 11) + rm.locals ≤ R.locals) (hP : va_P G classes ws H) (hD : va_D A ws) (q0 : Nat) (he : ws[q0]? = some (a, .inr (ci, fs))) {q : vw_C} (hc : classes[ci]? = some q) (hq : q.1 = y.cls) (is : List Nat) (hnd : va_nd is = true) (hC : is.map (fun i => ws[i]?) = wc.map some) (hst : st = As.reverse ++ .ref a :: rest) (hn : As.length = k) (hls : ls.size = nL) (hW : (rest.map fun v => v.category).sum ≤ 8) (hdg : decode cc pc = .ok (.invokevirtual idx, 3)) (hf : cells ≤ R.cells ∧ slots ≤ R.slots)
    (kk : ∀ r : Int32, post r → W p l e R s m args below meth c H locs cells slots Q (F0 m (pc + 3) ls (.int r :: rest))) : W p l e R s m args below meth c H locs cells slots Q (F0 m pc ls st) :=
  vp_callSi (W.runV ⟨hx, hb, hml, hown, hts⟩ hM (cwV k hts (gV hy hl) rfl hrc hrs ⟨rfl, hy.2.2.2.2⟩ hR) ⟨PR_blind, recv0 hE hP q0 he hc hq, PR_of (P_cut hP is hC) (hD.sub is hnd hC) hE⟩ rfl hn hls hst (lv_room hW) hdg hf) kk
/-- a reader is called: void, virtual -/
theorem rVv {post : Unit → Prop} (hx : p.tables.exec = Jvm.exec) (hb : c.code = cc) (hml : c.maxLocals = nL) (hown : s.vm.findClass own = some m.cls) (hts : ∀ w ∈ BASE, w.before args s = true) (hE : EN G cy sk s) (hM : Met l y (wsO y b n r) rm (va_Pc (.ref a :: As) (PR G cy sk H.size wc)) (va_Sv post) 0 0 (fun _ => False)) (hy : KV y b n r k) (hl : Cond.methodLink own idx y ∈ BASE)
    (hrc : rm.cells = 0) (hrs : rm.slots = 0) (hR : rm.frames + 1 ≤ R.frames ∧ 8 + (n + 11) + rm.locals ≤ R.locals) (hP : va_P G classes ws H) (hD : va_D A ws) (q0 : Nat) (he : ws[q0]? = some (a, .inr (ci, fs))) {q : vw_C} (hc : classes[ci]? = some q) (hq : q.1 = y.cls) (is : List Nat) (hnd : va_nd is = true) (hC : is.map (fun i => ws[i]?) = wc.map some) (hst : st = As.reverse ++ .ref a :: rest) (hn : As.length = k) (hls : ls.size = nL) (hW : (rest.map fun v => v.category).sum ≤ 8) (hdg : decode cc pc = .ok (.invokevirtual idx, 3)) (hf : cells ≤ R.cells ∧ slots ≤ R.slots)
    (kk : post () → W p l e R s m args below meth c H locs cells slots Q (F0 m (pc + 3) ls rest)) : W p l e R s m args below meth c H locs cells slots Q (F0 m pc ls st) :=
  va_csv (W.runV ⟨hx, hb, hml, hown, hts⟩ hM (cwV k hts (gV hy hl) rfl hrc hrs ⟨rfl, hy.2.2.2.2⟩ hR) ⟨PR_blind, recv0 hE hP q0 he hc hq, PR_of (P_cut hP is hC) (hD.sub is hnd hC) hE⟩ rfl hn hls hst (lv_room hW) hdg hf) kk
/-- what stands behind a writer's call: the rest is unchanged, what the callee gives back is joined -/
def AFT (G : va_G) (A : Nat → Prop) (wr : va_W) (B : Heap → Prop) (wc : va_W) (z : Nat) (H1 : Heap) : Prop := B H1 ∧ (∀ w1 : va_W, va_P G classes w1 H1 → va_D (va_A wc z) w1 → va_P G classes (wr ++ w1) H1 ∧ va_D A (wr ++ w1)) ∧ va_P G classes wr H1 ∧ va_D A wr
theorem aft (hP : va_P G classes ws H) (hD : va_D A ws) (is ir : List Nat) (hC : is.map (fun i => ws[i]?) = wc.map some) (hR : ir.map (fun i => ws[i]?) = wr.map some) (hnr : va_nd ir = true) (hdis : ∀ i ∈ ir, i ∉ is) (hF : ∀ q, va_A wc H.size q → A q) {B : Heap → Prop} {H1 : Heap} (hB : B H1) (hk : ∀ q : Nat, q < H.size → ¬ va_A wc H.size q → H1[q]? = H[q]?) : AFT G A wr B wc H.size H1 := by
  refine ⟨hB, fun w1 h1 h2 => va_join hP hD is ir hC hR hnr hdis hk hF h1 h2, ?_⟩
  have := va_join hP hD is ir hC hR hnr hdis hk hF (w1 := []) P_nil D_nil
  rw [List.append_nil] at this
  exact this
/-- a writer is called: int, virtual -/
theorem wV {post : Int32 → Prop} {B : Heap → Prop} (hx : p.tables.exec = Jvm.exec) (hb : c.code = cc) (hml : c.maxLocals = nL) (hown : s.vm.findClass own = some m.cls) (hts : ∀ w ∈ BASE, w.before args s = true) (hE : EN G cy sk s) (hM : Met l y (wsO y b n r) rm (va_Pc (.ref a :: As) (PR G cy sk H.size wc)) (va_Qi (fun r (_ : Unit) => post r) (fun _ t => B t.heap) (va_A wc H.size)) mc ms (va_A wc H.size)) (hy : KV y b n r k) (hl : Cond.methodLink own idx y ∈ BASE)
    (hrc : rm.cells = mc) (hrs : rm.slots = ms) (hR : rm.frames + 1 ≤ R.frames ∧ 8 + (n + 11) + rm.locals ≤ R.locals) (hP : va_P G classes ws H) (hD : va_D A ws) (hS : va_S A H0 H locs) (hA : ∀ q, H0.size ≤ q → A q) (q0 : Nat) (he : ws[q0]? = some (a, .inr (ci, fs))) {q : vw_C} (hc : classes[ci]? = some q) (hq : q.1 = y.cls) (is ir : List Nat) (hnd : va_nd is = true) (hC : is.map (fun i => ws[i]?) = wc.map some) (hRr : ir.map (fun i => ws[i]?) = wr.map some) (hnr : va_nd ir = true) (hdis : ∀ i ∈ ir, i ∉ is) (hst : st = As.reverse ++ .ref a :: rest) (hn : As.length = k) (hls : ls.size = nL) (hW : (rest.map fun v => v.category).sum ≤ 8) (hdg : decode cc pc = .ok (.invokevirtual idx, 3)) (hf : cells + mc ≤ R.cells ∧ slots + ms ≤ R.slots)
    (kk : ∀ (r : Int32) (H1 : Heap) (locs1 : List Loc), post r → AFT G A wr B wc H.size H1 → va_S A H0 H1 locs1 → W p l e R s m args below meth c H1 locs1 (cells + mc) (slots + ms) Q (F0 m (pc + 3) ls (.int r :: rest))) : W p l e R s m args below meth c H locs cells slots Q (F0 m pc ls st) := by
  have hF := va_free (wc := wc) hD hS hA is hC
  refine va_calli (va_runV ⟨hx, hb, hml, hown, hts⟩ hM (cwV k hts (gV hy hl) rfl hrc hrs ⟨rfl, hy.2.2.2.2⟩ hR) ⟨PR_blind, recv0 hE hP q0 he hc hq, PR_of (P_cut hP is hC) (hD.sub is hnd hC) hE⟩ rfl hn hls hst (lv_room hW) hdg hf) hS (fun q _ h => hF q h) hF (fun r u t H1 locs1 ht hvm hp hB hz hk hS1 => ?_)
  subst ht
  exact kk r _ locs1 hp (aft hP hD is ir hC hRr hnr hdis hF hB hk) hS1
/-- a writer is called: void, virtual -/
theorem wVv {B : Heap → Prop} (hx : p.tables.exec = Jvm.exec) (hb : c.code = cc) (hml : c.maxLocals = nL) (hown : s.vm.findClass own = some m.cls) (hts : ∀ w ∈ BASE, w.before args s = true) (hE : EN G cy sk s) (hM : Met l y (wsO y b n r) rm (va_Pc (.ref a :: As) (PR G cy sk H.size wc)) (va_Qv (fun (_ : Unit) => True) (fun _ t => B t.heap) (va_A wc H.size)) mc ms (va_A wc H.size)) (hy : KV y b n r k) (hl : Cond.methodLink own idx y ∈ BASE)
    (hrc : rm.cells = mc) (hrs : rm.slots = ms) (hR : rm.frames + 1 ≤ R.frames ∧ 8 + (n + 11) + rm.locals ≤ R.locals) (hP : va_P G classes ws H) (hD : va_D A ws) (hS : va_S A H0 H locs) (hA : ∀ q, H0.size ≤ q → A q) (q0 : Nat) (he : ws[q0]? = some (a, .inr (ci, fs))) {q : vw_C} (hc : classes[ci]? = some q) (hq : q.1 = y.cls) (is ir : List Nat) (hnd : va_nd is = true) (hC : is.map (fun i => ws[i]?) = wc.map some) (hRr : ir.map (fun i => ws[i]?) = wr.map some) (hnr : va_nd ir = true) (hdis : ∀ i ∈ ir, i ∉ is) (hst : st = As.reverse ++ .ref a :: rest) (hn : As.length = k) (hls : ls.size = nL) (hW : (rest.map fun v => v.category).sum ≤ 8) (hdg : decode cc pc = .ok (.invokevirtual idx, 3)) (hf : cells + mc ≤ R.cells ∧ slots + ms ≤ R.slots)
    (kk : ∀ (H1 : Heap) (locs1 : List Loc), AFT G A wr B wc H.size H1 → va_S A H0 H1 locs1 → W p l e R s m args below meth c H1 locs1 (cells + mc) (slots + ms) Q (F0 m (pc + 3) ls rest)) : W p l e R s m args below meth c H locs cells slots Q (F0 m pc ls st) := by
  have hF := va_free (wc := wc) hD hS hA is hC
  refine va_callv (va_runV ⟨hx, hb, hml, hown, hts⟩ hM (cwV k hts (gV hy hl) rfl hrc hrs ⟨rfl, hy.2.2.2.2⟩ hR) ⟨PR_blind, recv0 hE hP q0 he hc hq, PR_of (P_cut hP is hC) (hD.sub is hnd hC) hE⟩ rfl hn hls hst (lv_room hW) hdg hf) hS (fun q _ h => hF q h) hF (fun u t H1 locs1 ht hvm hp hB hz hk hS1 => ?_)
  subst ht
  exact kk _ locs1 (aft hP hD is ir hC hRr hnr hdis hF hB hk) hS1
/-- a writer is called: void, static -/
theorem wSv {B : Heap → Prop} (hx : p.tables.exec = Jvm.exec) (hb : c.code = cc) (hml : c.maxLocals = nL) (hown : s.vm.findClass own = some m.cls) (hts : ∀ w ∈ BASE, w.before args s = true) (hE : EN G cy sk s) (hM : Met l y (wsO y b n r) rm (va_Pc As (PR G cy sk H.size wc)) (va_Qv (fun (_ : Unit) => True) (fun _ t => B t.heap) (va_A wc H.size)) mc ms (va_A wc H.size)) (hy : KS y b n r k) (hl : Cond.methodLink own idx y ∈ BASE)
    (hrc : rm.cells = mc) (hrs : rm.slots = ms) (hR : rm.frames + 1 ≤ R.frames ∧ 8 + (n + 11) + rm.locals ≤ R.locals) (hP : va_P G classes ws H) (hD : va_D A ws) (hS : va_S A H0 H locs) (hA : ∀ q, H0.size ≤ q → A q) (is ir : List Nat) (hnd : va_nd is = true) (hC : is.map (fun i => ws[i]?) = wc.map some) (hRr : ir.map (fun i => ws[i]?) = wr.map some) (hnr : va_nd ir = true) (hdis : ∀ i ∈ ir, i ∉ is) (hst : st = As.reverse ++ rest) (hn : As.length = k) (hls : ls.size = nL) (hW : (rest.map fun v => v.category).sum ≤ 8) (hdg : decode cc pc = .ok (.invokestatic idx, 3)) (hf : cells + mc ≤ R.cells ∧ slots + ms ≤ R.slots)
    (kk : ∀ (H1 : Heap) (locs1 : List Loc), AFT G A wr B wc H.size H1 → va_S A H0 H1 locs1 → W p l e R s m args below meth c H1 locs1 (cells + mc) (slots + ms) Q (F0 m (pc + 3) ls rest)) : W p l e R s m args below meth c H locs cells slots Q (F0 m pc ls st) := by
  have hF := va_free (wc := wc) hD hS hA is hC
  refine va_callv (va_runS ⟨hx, hb, hml, hown, hts⟩ hM (va_cwS k hts (gS hy hl) rfl hrc hrs hy.2.2.2 hR) ⟨PR_blind, PR_of (P_cut hP is hC) (hD.sub is hnd hC) hE⟩ rfl hn hls hst (lv_room hW) hdg hf) hS (fun q _ h => hF q h) hF (fun u t H1 locs1 ht hvm hp hB hz hk hS1 => ?_)
  subst ht
  exact kk _ locs1 (aft hP hD is ir hC hRr hnr hdis hF hB hk) hS1
/-- a constructor is called -/
theorem wI {B : Heap → Prop} (hx : p.tables.exec = Jvm.exec) (hb : c.code = cc) (hml : c.maxLocals = nL) (hown : s.vm.findClass own = some m.cls) (hts : ∀ w ∈ BASE, w.before args s = true) (hE : EN G cy sk s) (hM : Met l y (wsO y b n none) rm (va_Pc (.ref a :: As) (PR G cy sk H.size wc)) (va_Qv (fun (_ : Unit) => True) (fun _ t => B t.heap) (va_A wc H.size)) mc ms (va_A wc H.size)) (hy : KI y b n k) (hl : Cond.methodLink own idx y ∈ BASE)
    (hrc : rm.cells = mc) (hrs : rm.slots = ms) (hR : rm.frames + 1 ≤ R.frames ∧ 8 + (n + 11) + rm.locals ≤ R.locals) (hP : va_P G classes ws H) (hD : va_D A ws) (hS : va_S A H0 H locs) (hA : ∀ q, H0.size ≤ q → A q) (is ir : List Nat) (hnd : va_nd is = true) (hC : is.map (fun i => ws[i]?) = wc.map some) (hRr : ir.map (fun i => ws[i]?) = wr.map some) (hnr : va_nd ir = true) (hdis : ∀ i ∈ ir, i ∉ is) (hst : st = As.reverse ++ .ref a :: rest) (hn : As.length = k) (hls : ls.size = nL) (hW : (rest.map fun v => v.category).sum ≤ 8) (hdg : decode cc pc = .ok (.invokespecial idx, 3)) (hf : cells + mc ≤ R.cells ∧ slots + ms ≤ R.slots)
    (kk : ∀ (H1 : Heap) (locs1 : List Loc), AFT G A wr B wc H.size H1 → va_S A H0 H1 locs1 → W p l e R s m args below meth c H1 locs1 (cells + mc) (slots + ms) Q (F0 m (pc + 3) ls rest)) : W p l e R s m args below meth c H locs cells slots Q (F0 m pc ls st) := by
  have hF := va_free (wc := wc) hD hS hA is hC
  refine va_callv (va_runI ⟨hx, hb, hml, hown, hts⟩ hM (cwI k hts (b_in (wsO_in hy.2.2.2.1)) rfl hrc hrs (hts _ hy.2.2.1) (hts _ hl) (hts _ hy.1) hy.2.1 hy.2.2.2.2 hR) ⟨PR_blind, PR_of (P_cut hP is hC) (hD.sub is hnd hC) hE⟩ rfl hn hls hst (lv_room hW) hdg hf) hS (fun q _ h => hF q h) hF (fun u t H1 locs1 ht hvm hp hB hz hk hS1 => ?_)
  subst ht
  exact kk _ locs1 (aft hP hD is ir hC hRr hnr hdis hF hB hk) hS1
/-- a constructor of a nest mate's, private, is called -/
theorem wIN {B : Heap → Prop} (hx : p.tables.exec = Jvm.exec) (hb : c.code = cc) (hml : c.maxLocals = nL) (hown : s.vm.findClass own = some m.cls) (hts : ∀ w ∈ BASE, w.before args s = true) (hE : EN G cy sk s) (hM : Met l y (wsO y b n none) rm (va_Pc (.ref a :: As) (PR G cy sk H.size wc)) (va_Qv (fun (_ : Unit) => True) (fun _ t => B t.heap) (va_A wc H.size)) mc ms (va_A wc H.size)) (hy : KI y b n k) (hl : (own, idx, y, host) ∈ NMs)
    (hrc : rm.cells = mc) (hrs : rm.slots = ms) (hR : rm.frames + 1 ≤ R.frames ∧ 8 + (n + 11) + rm.locals ≤ R.locals) (hP : va_P G classes ws H) (hD : va_D A ws) (hS : va_S A H0 H locs) (hA : ∀ q, H0.size ≤ q → A q) (is ir : List Nat) (hnd : va_nd is = true) (hC : is.map (fun i => ws[i]?) = wc.map some) (hRr : ir.map (fun i => ws[i]?) = wr.map some) (hnr : va_nd ir = true) (hdis : ∀ i ∈ ir, i ∉ is) (hst : st = As.reverse ++ .ref a :: rest) (hn : As.length = k) (hls : ls.size = nL) (hW : (rest.map fun v => v.category).sum ≤ 8) (hdg : decode cc pc = .ok (.invokespecial idx, 3)) (hf : cells + mc ≤ R.cells ∧ slots + ms ≤ R.slots)
    (kk : ∀ (H1 : Heap) (locs1 : List Loc), AFT G A wr B wc H.size H1 → va_S A H0 H1 locs1 → W p l e R s m args below meth c H1 locs1 (cells + mc) (slots + ms) Q (F0 m (pc + 3) ls rest)) : W p l e R s m args below meth c H locs cells slots Q (F0 m pc ls st) := by
  have hF := va_free (wc := wc) hD hS hA is hC
  refine va_callv (va_runIN ⟨hx, hb, hml, hown, hts⟩ hM ⟨va_cnB k hts (b_in (wsO_in hy.2.2.2.1)) rfl hrc hrs (hE.2.2.1 _ hl) (hts _ hy.2.2.1) hy.2.2.2.2 hR, hy.2.1, hts _ hy.1⟩ ⟨PR_blind, PR_of (P_cut hP is hC) (hD.sub is hnd hC) hE⟩ rfl hn hls hst (lv_room hW) hdg hf) hS (fun q _ h => hF q h) hF (fun u t H1 locs1 ht hvm hp hB hz hk hS1 => ?_)
  subst ht
  exact kk _ locs1 (aft hP hD is ir hC hRr hnr hdis hF hB hk) hS1
end BASECALLS
section BASEARR
variable {p : Program} {l : Launch} {e : Env} {R : Room} {s : State} {m : MethodId} {args : Array Value} {below : List Frame} {meth : Method} {c : Code} {H H0 : Heap} {locs : List Loc} {cells slots : Nat} {Q : State → Prop}
variable {cc : ByteArray} {pc : Nat} {ls : Array Slot} {rest : List Value} {G : va_G} {cy : Nat → ClassId} {sk : Nat → Nat} {ws : va_W} {A : Nat → Prop} {own : String} {idx : Nat}
/-- a new int array -/
theorem nwI (hx : p.tables.exec = Jvm.exec) (hb : c.code = cc) (hts : ∀ w ∈ BASE, w.before args s = true) (hw : Cond.arrayClass .int ∈ BASE) (hE : EN G cy sk s) (hP : va_P G classes ws H) (hD : va_D A ws) (hS : va_S A H0 H locs) (hA : ∀ q, H0.size ≤ q → A q) {n : Int32} {N : Nat} (hn : ¬ n < 0) (hN : n.toNatClampNeg = N) (hbytes : N * 4 ≤ 536870912) (hcells : cells + 1 ≤ R.cells) (hslots : slots + N ≤ R.slots) (hdg : decode cc pc = .ok (.newarray .int, 2))
    (kk : ∀ (q : Nat) (H1 : Heap), va_P G classes (ws ++ [(q, .inl (cy 0, N, .inl (fun _ => 0)))]) H1 → va_D A (ws ++ [(q, .inl (cy 0, N, .inl (fun _ => 0)))]) → va_S A H0 H1 locs → W p l e R s m args below meth c H1 locs (cells + 1) (slots + N) Q (F0 m (pc + 2) ls (.ref q :: rest))) : W p l e R s m args below meth c H locs cells slots Q (F0 m pc ls (.int n :: rest)) := by
  refine va_newa (atype := .int) (ty := .int) (a0 := (N, .inl (fun _ => 0))) hx hb (hts _ hw) rfl hE.1 hP hD hS hA (fun _ => rfl) hn hN hbytes hcells hslots hdg (fun q cA H1 hK hP hD hS => ?_)
  have e1 := va_nm_int (hK.2 (TYS cy).length (cA, .int) (by simp)).2
  have e2 := va_nm_int (hE.1.2 0 (cy 0, .int) rfl).2
  have e3 : cA = cy 0 := Option.some.inj (e1.symm.trans e2)
  subst e3
  exact kk q H1 hP hD hS
theorem nwZ (hx : p.tables.exec = Jvm.exec) (hb : c.code = cc) (hts : ∀ w ∈ BASE, w.before args s = true) (hw : Cond.arrayClass .boolean ∈ BASE) (hE : EN G cy sk s) (hP : va_P G classes ws H) (hD : va_D A ws) (hS : va_S A H0 H locs) (hA : ∀ q, H0.size ≤ q → A q) {n : Int32} {N : Nat} (hn : ¬ n < 0) (hN : n.toNatClampNeg = N) (hbytes : N * 1 ≤ 536870912) (hcells : cells + 1 ≤ R.cells) (hslots : slots + N ≤ R.slots) (hdg : decode cc pc = .ok (.newarray .boolean, 2))
    (kk : ∀ (q : Nat) (H1 : Heap), va_P G classes (ws ++ [(q, .inl (cy 1, N, .inl (fun _ => 0)))]) H1 → va_D A (ws ++ [(q, .inl (cy 1, N, .inl (fun _ => 0)))]) → va_S A H0 H1 locs → W p l e R s m args below meth c H1 locs (cells + 1) (slots + N) Q (F0 m (pc + 2) ls (.ref q :: rest))) : W p l e R s m args below meth c H locs cells slots Q (F0 m pc ls (.int n :: rest)) := by
  refine va_newa (atype := .boolean) (ty := .boolean) (a0 := (N, .inl (fun _ => 0))) hx hb (hts _ hw) rfl hE.1 hP hD hS hA (fun _ => rfl) hn hN hbytes hcells hslots hdg (fun q cA H1 hK hP hD hS => ?_)
  have e1 := va_nm_boolean (hK.2 (TYS cy).length (cA, .boolean) (by simp)).2
  have e2 := va_nm_boolean (hE.1.2 1 (cy 1, .boolean) rfl).2
  have e3 : cA = cy 1 := Option.some.inj (e1.symm.trans e2)
  subst e3
  exact kk q H1 hP hD hS
theorem nwJ (hx : p.tables.exec = Jvm.exec) (hb : c.code = cc) (hts : ∀ w ∈ BASE, w.before args s = true) (hw : Cond.arrayClass .long ∈ BASE) (hE : EN G cy sk s) (hP : va_P G classes ws H) (hD : va_D A ws) (hS : va_S A H0 H locs) (hA : ∀ q, H0.size ≤ q → A q) {n : Int32} {N : Nat} (hn : ¬ n < 0) (hN : n.toNatClampNeg = N) (hbytes : N * 8 ≤ 536870912) (hcells : cells + 1 ≤ R.cells) (hslots : slots + N ≤ R.slots) (hdg : decode cc pc = .ok (.newarray .long, 2))
    (kk : ∀ (q : Nat) (H1 : Heap), va_P G classes (ws ++ [(q, .inl (cy 2, N, .inr (.inl (fun _ => 0))))]) H1 → va_D A (ws ++ [(q, .inl (cy 2, N, .inr (.inl (fun _ => 0))))]) → va_S A H0 H1 locs → W p l e R s m args below meth c H1 locs (cells + 1) (slots + N) Q (F0 m (pc + 2) ls (.ref q :: rest))) : W p l e R s m args below meth c H locs cells slots Q (F0 m pc ls (.int n :: rest)) := by
  refine va_newa (atype := .long) (ty := .long) (a0 := (N, .inr (.inl (fun _ => 0)))) hx hb (hts _ hw) rfl hE.1 hP hD hS hA (fun _ => rfl) hn hN hbytes hcells hslots hdg (fun q cA H1 hK hP hD hS => ?_)
  have e1 := va_nm_long (hK.2 (TYS cy).length (cA, .long) (by simp)).2
  have e2 := va_nm_long (hE.1.2 2 (cy 2, .long) rfl).2
  have e3 : cA = cy 2 := Option.some.inj (e1.symm.trans e2)
  subst e3
  exact kk q H1 hP hD hS
/-- a new array of references; t0 is the place of its type in TYS -/
theorem nwQ (hx : p.tables.exec = Jvm.exec) (hb : c.code = cc) (hown : s.vm.findClass own = some m.cls) (hts : ∀ w ∈ BASE, w.before args s = true) {C : String} (hw : Cond.classLink own idx C ∈ BASE) (hC : C ∈ AOs) (hE : EN G cy sk s) (hP : va_P G classes ws H) (hD : va_D A ws) (hS : va_S A H0 H locs) (hA : ∀ q, H0.size ≤ q → A q) {t0 : Nat} {cA0 : ClassId} (ht : (TYS cy)[t0]? = some (cA0, .object C)) {n : Int32} {N : Nat} (hn : ¬ n < 0) (hN : n.toNatClampNeg = N) (hbytes : N * 4 ≤ 536870912) (hcells : cells + 1 ≤ R.cells) (hslots : slots + N ≤ R.slots) (hdg : decode cc pc = .ok (.anewarray idx, 3))
    (kk : ∀ (q : Nat) (H1 : Heap), va_P G classes (ws ++ [(q, .inl (cA0, N, .inr (.inr (.inr (.inr (fun _ => none))))))]) H1 → va_D A (ws ++ [(q, .inl (cA0, N, .inr (.inr (.inr (.inr (fun _ => none))))))]) → va_S A H0 H1 locs → W p l e R s m args below meth c H1 locs (cells + 1) (slots + N) Q (F0 m (pc + 3) ls (.ref q :: rest))) : W p l e R s m args below meth c H locs cells slots Q (F0 m pc ls (.int n :: rest)) := by
  refine va_newq hx hb hown (hts _ hw) (hE.2.2.2.2 C hC) hE.1 hP hD hS hA hn hN hbytes hcells hslots hdg (fun q cA H1 hK hP hD hS => ?_)
  obtain ⟨-, -, -, -, -, e1⟩ := (hK.2 (TYS cy).length (cA, .object C) (by simp)).2
  obtain ⟨-, -, -, -, -, e2⟩ := (hE.1.2 t0 _ ht).2
  have e3 : cA = cA0 := Option.some.inj (e1.symm.trans e2)
  subst e3
  exact kk q H1 hP hD hS
end BASEARR
def inR (v lo hi : Int32) : Prop := lo ≤ v ∧ v ≤ hi
theorem vinL {i : Int32} {n : Nat} (h : (decide (i < 0) || decide (n ≤ i.toNatClampNeg)) = false) : vp_in i n := by
  unfold vp_in
  rcases Bool.or_eq_false_iff.mp h with ⟨h1, h2⟩
  exact fun q => q.elim (of_decide_eq_false h1) (of_decide_eq_false h2)
theorem vinB {i lo hi : Int32} {n : Nat} (h : inR i lo hi) (hl : 0 ≤ lo.toInt) (hh : hi.toInt < n) : vp_in i n := vp_in_iff.mpr ⟨Int.le_trans hl (Int32.le_iff_toInt_le.mp h.1), Int.lt_of_le_of_lt (Int32.le_iff_toInt_le.mp h.2) hh⟩
theorem vinB_nat {i lo hi : Int32} {n : Nat} (h : inR i lo hi) (hl : 0 ≤ lo.toInt) (hh : hi.toInt < n) : i.toNatClampNeg < n := by
  have := vinB h hl hh
  exact Nat.not_le.mp fun q => this (Or.inr q)
theorem bmems (ws : List Cond) (ps : List Nat) (hp : ws = ps.filterMap (fun i => lw_tbl[i]?)) (h : ws.all goodWord = true) : ∀ w ∈ ws, w ∈ BASE := by
  intro w hw
  have h1 := List.all_eq_true.mp h w hw
  rw [hp] at hw
  obtain ⟨i, -, hi⟩ := List.mem_filterMap.mp hw
  exact bmem i hi h1
section MISCV
variable {p : Program} {l : Launch} {e : Env} {R : Room} {s : State} {m : MethodId} {args : Array Value} {below : List Frame} {meth : Method} {c : Code} {H : Heap} {locs : List Loc} {cells slots : Nat} {Q : State → Prop}
theorem tpv {pc : Nat} {ls : Array Slot} {rest : List Value} {x v : Value} (h : x = v) (kk : W p l e R s m args below meth c H locs cells slots Q (F0 m pc ls (v :: rest))) : W p l e R s m args below meth c H locs cells slots Q (F0 m pc ls (x :: rest)) := h ▸ kk
end MISCV
theorem in4 {v : Int32} (h : inR v 0 3) : v = 0 ∨ v = 1 ∨ v = 2 ∨ v = 3 := by
  have h1 := Int32.le_iff_toInt_le.mp h.1
  have h2 := Int32.le_iff_toInt_le.mp h.2
  have e : v.toInt = 0 ∨ v.toInt = 1 ∨ v.toInt = 2 ∨ v.toInt = 3 := by
    have a : (0 : Int32).toInt = 0 := rfl
    have b : (3 : Int32).toInt = 3 := rfl
    omega
  rcases e with e | e | e | e
  · exact Or.inl (Int32.toInt_inj.mp e)
  · exact Or.inr (Or.inl (Int32.toInt_inj.mp e))
  · exact Or.inr (Or.inr (Or.inl (Int32.toInt_inj.mp e)))
  · exact Or.inr (Or.inr (Or.inr (Int32.toInt_inj.mp e)))
theorem upd_all {f : Nat → Int32} {i : Nat} {v : Int32} (hi : i < 2 ^ 31) (h : ∀ j, j < i → f j = v) : ∀ j, j < i + 1 → upd f (nI i).toNatClampNeg v j = v := by
  intro j hj
  rw [nI_clamp hi]
  unfold upd
  by_cases e : j = i
  · rw [if_pos e]
  · rw [if_neg e]; exact h j (by omega)
theorem mx0 {n : Nat} (h : n < 2 ^ 31) : (if (0 : Int32) < nI n then nI n else 0) = nI n := by
  rcases Nat.eq_zero_or_pos n with e | e
  · subst e; rfl
  · rw [if_pos (show (0 : Int32) < nI n from nI_lt (a := 0) (b := n) e h)]
theorem mn0 {n : Nat} (h : n < 2 ^ 31) : (if nI n < (0 : Int32) then nI n else 0) = 0 := by
  rw [if_neg (nI_pos h)]
