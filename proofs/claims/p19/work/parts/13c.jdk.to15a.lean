section
/-! members of the JDK that are walked as methods of the class are -/
def yJI_bitCount : MethodName := ⟨"java/lang/Integer", "bitCount", "(I)I"⟩
abbrev cJI_bitCount : ByteArray := prog_16_method_49_code
def yJL_bitCount : MethodName := ⟨"java/lang/Long", "bitCount", "(J)I"⟩
abbrev cJL_bitCount : ByteArray := prog_17_method_50_code
def yJM_floorMod : MethodName := ⟨"java/lang/Math", "floorMod", "(II)I"⟩
abbrev cJM_floorMod : ByteArray := prog_18_method_50_code
section WPJDK
variable {cls : List rf} {l : Launch} {G : va_G} {cy : Nat → ClassId} {ad : rf → Nat} {y : MethodName} {b : ByteArray} {n : Nat} {r : Option FieldType} {d : Nat} {pc : Nat} {ls : List (Nat × mV)} {st : List mV} {M : mM} {Q : Int32 → mM → Prop}
theorem w_iushr {x w : Int32} (hd : decode b pc = .ok (.iushr, 1)) (kk : ∀ z : Int32, z = iushrX x w → WP cls l G cy ad y b n r d (pc + 1) ls (vI z :: st) M Q) : WP cls l G cy ad y b n r d pc ls (vI w :: vI x :: st) M Q := fun p e s m args below meth c A X lsA H locs hl hP hS => lv_iushr X.1 X.2.1 hd rfl (kk (iushrX x w) rfl p e s m args below meth c A X lsA H locs hl hP hS)
theorem w_lsub {x w : Int64} (hd : decode b pc = .ok (.lsub, 1)) (kk : ∀ z : Int64, z = x - w → WP cls l G cy ad y b n r d (pc + 1) ls (vL z :: st) M Q) : WP cls l G cy ad y b n r d pc ls (vL w :: vL x :: st) M Q := fun p e s m args below meth c A X lsA H locs hl hP hS => lv_lsub X.1 X.2.1 hd (kk (x - w) rfl p e s m args below meth c A X lsA H locs hl hP hS)
end WPJDK
/-! Math.floorMod by 4, by a contract of the library kind -/
theorem fm_d0 : decode cJM_floorMod 0 = .ok (.iload_n 0, 1) := by decide +kernel
theorem fm_d1 : decode cJM_floorMod 1 = .ok (.iload_n 1, 1) := by decide +kernel
theorem fm_d2 : decode cJM_floorMod 2 = .ok (.irem, 1) := by decide +kernel
theorem fm_d3 : decode cJM_floorMod 3 = .ok (.istore_n 2, 1) := by decide +kernel
theorem fm_d4 : decode cJM_floorMod 4 = .ok (.iload_n 0, 1) := by decide +kernel
theorem fm_d5 : decode cJM_floorMod 5 = .ok (.iload_n 1, 1) := by decide +kernel
theorem fm_d6 : decode cJM_floorMod 6 = .ok (.ixor, 1) := by decide +kernel
theorem fm_d7 : decode cJM_floorMod 7 = .ok (.ifCond .ge 11, 3) := by decide +kernel
theorem fm_d10 : decode cJM_floorMod 10 = .ok (.iload_n 2, 1) := by decide +kernel
theorem fm_d11 : decode cJM_floorMod 11 = .ok (.ifCond .eq 7, 3) := by decide +kernel
theorem fm_d14 : decode cJM_floorMod 14 = .ok (.iload_n 2, 1) := by decide +kernel
theorem fm_d15 : decode cJM_floorMod 15 = .ok (.iload_n 1, 1) := by decide +kernel
theorem fm_d16 : decode cJM_floorMod 16 = .ok (.iadd, 1) := by decide +kernel
theorem fm_d17 : decode cJM_floorMod 17 = .ok (.ireturn, 1) := by decide +kernel
theorem fm_d18 : decode cJM_floorMod 18 = .ok (.iload_n 2, 1) := by decide +kernel
theorem fm_d19 : decode cJM_floorMod 19 = .ok (.ireturn, 1) := by decide +kernel
theorem fm_noRow0 : (NativeRow.find? natives yJM_floorMod.cls yJM_floorMod.name yJM_floorMod.desc).isNone = true := by decide +kernel
theorem fm_noRow (p : Program) : NativeRow.find? p.tables.natives yJM_floorMod.cls yJM_floorMod.name yJM_floorMod.desc = none := by
  cases p <;> exact Option.isNone_iff_eq_none.mp fm_noRow0
def fmX (a : Int32) : Int32 := if 0 ≤ a ^^^ 4 then a - a / 4 * 4 else if a - a / 4 * 4 = 0 then a - a / 4 * 4 else a - a / 4 * 4 + 4
def fmSpec (a0 : Int32) : Spec where
  pre := .and (.code yJM_floorMod cJM_floorMod 3 (some .int)) (.and (.and (.count 2) (.and (.isInt (.arg 0)) (.isInt (.arg 1)))) (.and (.eq (.arg 1) (.int 4)) (.eq (.arg 0) (.int a0))))
  post := .and .returned (.eq .result (.int (fmX a0)))
  changes := some []
theorem fm_meets (l : Launch) (a0 : Int32) : MeetsLoose l yJM_floorMod (fmSpec a0) := by
  refine MeetsLoose.of_body_ov (code := cJM_floorMod) (maxLocals := 3) (ret := some .int) fm_noRow ?_ ?_
  · intro args s h
    simp only [fmSpec, Cond.before_and, Bool.and_eq_true] at h
    exact h.1
  · intro p e s m args below meth c s₁ B
    have hpre := B.pre
    simp only [fmSpec, Cond.before_and, Bool.and_eq_true] at hpre
    obtain ⟨a, b, rfl⟩ := Cond.two_ints hpre.2.1.1 hpre.2.1.2.1 hpre.2.1.2.2
    have hb4 : b = 4 := by
      have h := hpre.2.2.1
      simpa [Cond.before, Cond.holds, Cond.value, Term.eval] using h
    subst hb4
    have ha0 : a = a0 := by
      have h := hpre.2.2.2
      simpa [Cond.before, Cond.holds, Cond.value, Term.eval] using h
    subst ha0
    have hloc : argsToLocals #[.int a, .int 4] 3 = #[.val (.int a), .val (.int 4), .unset] := rfl
    have fin : ∀ r : Int32, r = fmX a → (∀ fs, Steps p.tables e below (s₁.setTop (entryFrame m #[.int a, .int 4] 3)) (s₁.setFrames fs) ∨ handOver s₁ (some (.int r)) below ≠ some fs) →
        ∃ s₂ o, Steps p.tables e below (s₁.setTop (entryFrame m #[.int a, .int 4] 3)) s₂ ∧ s₂.status = .running ∧ Ended s₂ below o ∧
          (fmSpec a).ensures #[.int a, .int 4] s o s₂ := by
      intro r hr hwalk
      obtain ⟨fs, hfs⟩ := handOver_isSome (s := s₁) (some (.int r)) B.hears₁
      refine ⟨s₁.setFrames fs, .returned (some (.int r)), (hwalk fs).resolve_right (fun h => h hfs), B.here.running, B.ended hfs (by intro h; cases h), ?_, State.sameBut_nil.mpr ?_⟩
      · simp [fmSpec, Cond.after, Cond.holds, Cond.value, Term.eval, hr]
      · rw [State.frames_setFrames _ B.cur₁, B.back]
    by_cases h1 : 0 ≤ a ^^^ 4
    · refine fin (a - a / 4 * 4) (by unfold fmX; rw [if_pos h1]) (fun fs => ?_)
      by_cases hfs : handOver s₁ (some (.int (a - a / 4 * 4))) below = some fs
      · left
        unfold entryFrame; rw [hloc]
        refine Steps.instrAtOv (c := _) (by simpa using B.here) ?_
        simp [jvm, wpRun, exec, B.here.top, B.exec, B.bytes, fm_d0]
        refine Steps.instrAtOv (c := _) (by simpa using B.here) ?_
        simp [jvm, wpRun, exec, B.here.top, B.exec, B.bytes, fm_d1]
        refine Steps.instrAtOv (c := _) (by simpa using B.here) ?_
        simp [jvm, wpRun, exec, B.here.top, B.exec, B.bytes, fm_d2]
        refine Steps.instrAtOv (c := _) (by simpa using B.here) ?_
        simp [jvm, wpRun, exec, B.here.top, B.exec, B.bytes, fm_d3]
        refine ⟨#[.val (.int a), .val (.int 4), .val (.int (a - a / 4 * 4))], rfl, ?_⟩
        refine Steps.instrAtOv (c := _) (by simpa using B.here) ?_
        simp [jvm, wpRun, exec, B.here.top, B.exec, B.bytes, fm_d4]
        refine Steps.instrAtOv (c := _) (by simpa using B.here) ?_
        simp [jvm, wpRun, exec, B.here.top, B.exec, B.bytes, fm_d5]
        refine Steps.instrAtOv (c := _) (by simpa using B.here) ?_
        simp [jvm, wpRun, exec, B.here.top, B.exec, B.bytes, fm_d6]
        refine Steps.instrAtOv (c := _) (by simpa using B.here) ?_
        simp [jvm, wpRun, exec, B.here.top, B.exec, B.bytes, fm_d7, ifCond.holds, h1]
        refine Steps.instrAtOv (c := _) (by simpa using B.here) ?_
        simp [jvm, wpRun, exec, B.here.top, B.exec, B.bytes, fm_d18]
        refine Steps.instrAtOv (c := _) (by simpa using B.here) ?_
        simp [jvm, wpRun, exec, B.here.top, B.exec, B.bytes, fm_d19, B.method₁, B.returns, narrow]
        intro acts
        rw [ret_to B.frames₁ B.method₁ B.notSynchronized rfl rfl hfs]
        exact Steps.refl _
      · exact Or.inr hfs
    · by_cases h2 : a - a / 4 * 4 = 0
      · refine fin (a - a / 4 * 4) (by unfold fmX; rw [if_neg h1, if_pos h2]) (fun fs => ?_)
        by_cases hfs : handOver s₁ (some (.int (a - a / 4 * 4))) below = some fs
        · left
          unfold entryFrame; rw [hloc]
          refine Steps.instrAtOv (c := _) (by simpa using B.here) ?_
          simp [jvm, wpRun, exec, B.here.top, B.exec, B.bytes, fm_d0]
          refine Steps.instrAtOv (c := _) (by simpa using B.here) ?_
          simp [jvm, wpRun, exec, B.here.top, B.exec, B.bytes, fm_d1]
          refine Steps.instrAtOv (c := _) (by simpa using B.here) ?_
          simp [jvm, wpRun, exec, B.here.top, B.exec, B.bytes, fm_d2]
          refine Steps.instrAtOv (c := _) (by simpa using B.here) ?_
          simp [jvm, wpRun, exec, B.here.top, B.exec, B.bytes, fm_d3]
          refine ⟨#[.val (.int a), .val (.int 4), .val (.int (a - a / 4 * 4))], rfl, ?_⟩
          refine Steps.instrAtOv (c := _) (by simpa using B.here) ?_
          simp [jvm, wpRun, exec, B.here.top, B.exec, B.bytes, fm_d4]
          refine Steps.instrAtOv (c := _) (by simpa using B.here) ?_
          simp [jvm, wpRun, exec, B.here.top, B.exec, B.bytes, fm_d5]
          refine Steps.instrAtOv (c := _) (by simpa using B.here) ?_
          simp [jvm, wpRun, exec, B.here.top, B.exec, B.bytes, fm_d6]
          refine Steps.instrAtOv (c := _) (by simpa using B.here) ?_
          simp [jvm, wpRun, exec, B.here.top, B.exec, B.bytes, fm_d7, ifCond.holds, h1]
          refine Steps.instrAtOv (c := _) (by simpa using B.here) ?_
          simp [jvm, wpRun, exec, B.here.top, B.exec, B.bytes, fm_d10]
          refine Steps.instrAtOv (c := _) (by simpa using B.here) ?_
          simp [jvm, wpRun, exec, B.here.top, B.exec, B.bytes, fm_d11, ifCond.holds, h2]
          refine Steps.instrAtOv (c := _) (by simpa using B.here) ?_
          simp [jvm, wpRun, exec, B.here.top, B.exec, B.bytes, fm_d18]
          refine Steps.instrAtOv (c := _) (by simpa using B.here) ?_
          simp [jvm, wpRun, exec, B.here.top, B.exec, B.bytes, fm_d19, B.method₁, B.returns, narrow]
          intro acts
          rw [h2] at hfs
          rw [ret_to B.frames₁ B.method₁ B.notSynchronized rfl rfl hfs]
          exact Steps.refl _
        · exact Or.inr hfs
      · refine fin (a - a / 4 * 4 + 4) (by unfold fmX; rw [if_neg h1, if_neg h2]) (fun fs => ?_)
        by_cases hfs : handOver s₁ (some (.int (a - a / 4 * 4 + 4))) below = some fs
        · left
          unfold entryFrame; rw [hloc]
          refine Steps.instrAtOv (c := _) (by simpa using B.here) ?_
          simp [jvm, wpRun, exec, B.here.top, B.exec, B.bytes, fm_d0]
          refine Steps.instrAtOv (c := _) (by simpa using B.here) ?_
          simp [jvm, wpRun, exec, B.here.top, B.exec, B.bytes, fm_d1]
          refine Steps.instrAtOv (c := _) (by simpa using B.here) ?_
          simp [jvm, wpRun, exec, B.here.top, B.exec, B.bytes, fm_d2]
          refine Steps.instrAtOv (c := _) (by simpa using B.here) ?_
          simp [jvm, wpRun, exec, B.here.top, B.exec, B.bytes, fm_d3]
          refine ⟨#[.val (.int a), .val (.int 4), .val (.int (a - a / 4 * 4))], rfl, ?_⟩
          refine Steps.instrAtOv (c := _) (by simpa using B.here) ?_
          simp [jvm, wpRun, exec, B.here.top, B.exec, B.bytes, fm_d4]
          refine Steps.instrAtOv (c := _) (by simpa using B.here) ?_
          simp [jvm, wpRun, exec, B.here.top, B.exec, B.bytes, fm_d5]
          refine Steps.instrAtOv (c := _) (by simpa using B.here) ?_
          simp [jvm, wpRun, exec, B.here.top, B.exec, B.bytes, fm_d6]
          refine Steps.instrAtOv (c := _) (by simpa using B.here) ?_
          simp [jvm, wpRun, exec, B.here.top, B.exec, B.bytes, fm_d7, ifCond.holds, h1]
          refine Steps.instrAtOv (c := _) (by simpa using B.here) ?_
          simp [jvm, wpRun, exec, B.here.top, B.exec, B.bytes, fm_d10]
          refine Steps.instrAtOv (c := _) (by simpa using B.here) ?_
          simp [jvm, wpRun, exec, B.here.top, B.exec, B.bytes, fm_d11, ifCond.holds, h2]
          refine Steps.instrAtOv (c := _) (by simpa using B.here) ?_
          simp [jvm, wpRun, exec, B.here.top, B.exec, B.bytes, fm_d14]
          refine Steps.instrAtOv (c := _) (by simpa using B.here) ?_
          simp [jvm, wpRun, exec, B.here.top, B.exec, B.bytes, fm_d15]
          refine Steps.instrAtOv (c := _) (by simpa using B.here) ?_
          simp [jvm, wpRun, exec, B.here.top, B.exec, B.bytes, fm_d16]
          refine Steps.instrAtOv (c := _) (by simpa using B.here) ?_
          simp [jvm, wpRun, exec, B.here.top, B.exec, B.bytes, fm_d17, B.method₁, B.returns, narrow]
          intro acts
          rw [ret_to B.frames₁ B.method₁ B.notSynchronized rfl rfl hfs]
          exact Steps.refl _
        · exact Or.inr hfs
section VFM
variable {p : Program} {l : Launch} {e : Env} {R : Room} {s : State} {m : MethodId} {args : Array Value} {below : List Frame} {meth : Method} {c : Code} {cells slots : Nat} {T : State} {locs : List Loc}
theorem fm_V (X : Stand p l e R s m args below meth c T locs cells slots) (hexec : p.tables.exec = Jvm.exec) {own : String} {index : Nat} (hown : s.vm.findClass own = some m.cls)
    (hlink : (Cond.methodLink own index yJM_floorMod).before args s = true) (hstat : (Cond.static yJM_floorMod).before args s = true) (hinit : (Cond.initialized "java/lang/Math").before args s = true)
    (hcode : (Cond.code yJM_floorMod cJM_floorMod 3 (some .int)).before args s = true)
    {g : JFrame} (hg : g.method = m) (hsize : g.locals.size = c.maxLocals) {a : Int32} {rest : List Value} (hstack : g.stack = .int 4 :: .int a :: rest) (hdg : decode c.code g.pc = .ok (.invokestatic index, 3))
    (hframes : 1 ≤ R.frames) (hlocals : 2 * g.monitorRoom + (rest.map fun v => v.category).sum + 14 ≤ R.locals) (hcells : cells ≤ R.cells) (hslots : slots ≤ R.slots) :
    ∃ vm' : Vm, Stand p l e R s m args below meth c (T.setVm vm') locs cells slots ∧
      ∀ target, Steps p.tables e below ((T.setVm vm').setTop { g with pc := g.pc + 3, stack := .int (fmX a) :: rest }) target → Steps p.tables e below (T.setTop g) target := by
  obtain ⟨v, T', X', ⟨first, t, hpost⟩, hstep⟩ := X.staticByContractV hexec hown hlink hstat hinit hcode (by decide)
    (fm_meets l a)
    rfl rfl rfl rfl
    (fun args' first o s₂ h => by
      simp only [fmSpec, Cond.after_and, Bool.and_eq_true] at h
      cases o with
      | returned r => exact ⟨r, rfl⟩
      | threw y => simp [Cond.after, Cond.holds, Cond.value] at h)
    hg hsize (argsL := [.int a, .int 4]) (rest := rest)
    (fun sig hs => by
      have h : parseMethodDescriptor "(II)I" = some { parameters := [.int, .int], returnType := some .int } := by decide +kernel
      rw [show yJM_floorMod.desc = "(II)I" from rfl, h] at hs
      rw [← Option.some.inj hs]; rfl)
    hstack hdg
    (fun vm' hW => by
      simp only [fmSpec, Cond.before_and, Bool.and_eq_true]
      refine ⟨?_, ⟨rfl, rfl, rfl⟩, rfl, by simp [Cond.before, Cond.holds, Cond.value, Term.eval]⟩
      have q := hcode
      rw [← Cond.code_setVm hW.alike] at q
      simp only [Cond.before, Cond.holds, Cond.value, State.methodNamed?, State.vm_setVm] at q ⊢
      exact q)
    (by show 0 + 1 ≤ R.frames; omega) (by show 2 * g.monitorRoom + (rest.map fun v => v.category).sum + (3 + 11) + 0 ≤ R.locals; omega) (by show cells + 0 ≤ R.cells; omega) (by show slots + 0 ≤ R.slots; omega)
  rcases v with _ | w
  · simp [fmSpec, Cond.after, Cond.holds, Cond.value, Term.eval] at hpost
  · cases w with
    | int r =>
      have hr : r = fmX a := by simpa [fmSpec, Cond.after, Cond.holds, Cond.value, Term.eval] using hpost
      subst hr
      exact ⟨T', X', hstep⟩
    | _ => simp [fmSpec, Cond.after, Cond.holds, Cond.value, Term.eval] at hpost
end VFM
section WFM
variable {cls : List rf} {l : Launch} {G : va_G} {cy : Nat → ClassId} {ad : rf → Nat} {y : MethodName} {b : ByteArray} {n : Nat} {r : Option FieldType} {d : Nat} {pc : Nat} {ls : List (Nat × mV)} {st : List mV} {M : mM} {Q : Int32 → mM → Prop}
theorem w_floorMod4 {x : Int32} {idx : Nat} (hl1 : Cond.methodLink y.cls idx yJM_floorMod ∈ BASE) (h2 : Cond.static yJM_floorMod ∈ BASE) (h3 : Cond.initialized "java/lang/Math" ∈ BASE) (h4 : Cond.code yJM_floorMod cJM_floorMod 3 (some .int) ∈ BASE) (hs : st.length ≤ 4) (hd1 : 1 ≤ d) (hd : decode b pc = .ok (.invokestatic idx, 3)) (kk : ∀ z : Int32, z = fmX x → WP cls l G cy ad y b n r d (pc + 3) ls (vI z :: st) M Q) : WP cls l G cy ad y b n r d pc ls (vI 4 :: vI x :: st) M Q := by
  intro p e s m args below meth c' A X lsA H locs hl hP hS T hT hXs
  have hX := X
  obtain ⟨hx1, hb, hr, hml, hts, hown, hlk, hE, hT2, hA⟩ := X
  have hc := catsum ad st
  obtain ⟨vm', X', hst⟩ := fm_V hXs hx1 hown (hts _ hl1) (hts _ h2) (hts _ h3) (hts _ h4) (g := F0 m pc lsA ((vI 4 :: vI x :: st).map (gv ad))) rfl (hl.1.trans hml.symm) (a := x) (rest := st.map (gv ad)) rfl (by rw [hb]; exact hd) (by show 1 ≤ d; exact hd1) (by show 2 * 0 + _ + 14 ≤ 100 * d; omega) (Nat.zero_le _) (Nat.zero_le _)
  obtain ⟨t, a1, b1⟩ := kk (fmX x) rfl p e s m args below meth c' A hX lsA H locs hl hP hS (T.setVm vm') hT X'
  exact ⟨t, hst t a1, b1⟩
end WFM
end
section
/-! words of the tables that are used, by their places; decode rows; fields -/
theorem li_100 : (100 : Int32).toInt = 100 := by decide
theorem li_999 : (999 : Int32).toInt = 999 := by decide
set_option maxRecDepth 20000 in
theorem m_82 : Cond.initialized RX2 ∈ BASE := bmT1 4 rfl rfl
set_option maxRecDepth 20000 in
theorem m_83 : Cond.initialized RX1 ∈ BASE := bmT1 5 rfl rfl
set_option maxRecDepth 20000 in
theorem m_170 : Cond.fieldLink RX2 7 "ClickStreet$Laws" "noise" "I" ∈ BASE := bmT1 92 rfl rfl
set_option maxRecDepth 20000 in
theorem m_171 : Cond.fieldLink RX2 13 "ClickStreet$Laws" "mask" "I" ∈ BASE := bmT1 93 rfl rfl
set_option maxRecDepth 20000 in
theorem m_172 : Cond.fieldLink RX2 16 "ClickStreet$Laws" "snow" "I" ∈ BASE := bmT1 94 rfl rfl
set_option maxRecDepth 20000 in
theorem m_173 : Cond.fieldLink RX2 21 "ClickStreet$Laws" "loud" "[I" ∈ BASE := bmT1 95 rfl rfl
set_option maxRecDepth 20000 in
theorem m_174 : Cond.fieldLink RX2 25 "ClickStreet$Laws" "sharp" "[I" ∈ BASE := bmT1 96 rfl rfl
set_option maxRecDepth 20000 in
theorem m_175 : Cond.fieldLink RX2 30 "ClickStreet$Laws" "texts" "[LClickStreet$Formula;" ∈ BASE := bmT1 97 rfl rfl
set_option maxRecDepth 20000 in
theorem m_177 : Cond.fieldLink RX2 34 "ClickStreet$Laws" "values" "[I" ∈ BASE := bmT1 99 rfl rfl
set_option maxRecDepth 20000 in
theorem m_218 : Cond.fieldLink RX3 9 "ClickStreet$Lessons" "tells" "[I" ∈ BASE := bmT1 140 rfl rfl
set_option maxRecDepth 20000 in
theorem m_219 : Cond.fieldLink RX3 13 "ClickStreet$Lessons" "needs" "[I" ∈ BASE := bmT1 141 rfl rfl
set_option maxRecDepth 20000 in
theorem m_220 : Cond.fieldLink RX3 16 "ClickStreet$Lessons" "minutes" "[I" ∈ BASE := bmT1 142 rfl rfl
set_option maxRecDepth 20000 in
theorem m_221 : Cond.fieldLink RX3 19 "ClickStreet$Lessons" "size" "I" ∈ BASE := bmT1 143 rfl rfl
set_option maxRecDepth 20000 in
theorem m_223 : Cond.fieldLink RX3 28 "ClickStreet$Lessons" "tried" "LClickStreet$Row;" ∈ BASE := bmT1 145 rfl rfl
set_option maxRecDepth 20000 in
theorem m_224 : Cond.fieldLink RX3 32 "ClickStreet$Lessons" "best" "LClickStreet$Row;" ∈ BASE := bmT1 146 rfl rfl
set_option maxRecDepth 20000 in
theorem m_227 : Cond.fieldLink RX3 38 "ClickStreet$Lessons" "fewestMinutes" "I" ∈ BASE := bmT1 149 rfl rfl
set_option maxRecDepth 20000 in
theorem m_654 : Cond.static yX2_isClick ∈ BASE := bmT3 96 rfl rfl
set_option maxRecDepth 20000 in
theorem m_655 : Cond.code yX2_isClick cX2_isClick 2 (some .boolean) ∈ BASE := bmT3 97 rfl rfl
set_option maxRecDepth 20000 in
theorem m_825 : Cond.instanceMethod yX1_takeFrom ∈ BASE := bmT4 27 rfl rfl
set_option maxRecDepth 20000 in
theorem m_826 : Cond.selects yX1_takeFrom.cls yX1_takeFrom yX1_takeFrom ∈ BASE := bmT4 28 rfl rfl
set_option maxRecDepth 20000 in
theorem m_827 : Cond.code yX1_takeFrom cX1_takeFrom 2 none ∈ BASE := bmT4 29 rfl rfl
set_option maxRecDepth 20000 in
theorem m_842 : Cond.methodLink RX2 44 yX2_isClick ∈ BASE := bmT4 44 rfl rfl
set_option maxRecDepth 20000 in
theorem m_867 : Cond.static yX2_late ∈ BASE := bmT4 69 rfl rfl
set_option maxRecDepth 20000 in
theorem m_868 : Cond.code yX2_late cX2_late 2 (some .int) ∈ BASE := bmT4 70 rfl rfl
set_option maxRecDepth 20000 in
theorem m_874 : Cond.instanceMethod yX2_strength ∈ BASE := bmT4 76 rfl rfl
set_option maxRecDepth 20000 in
theorem m_875 : Cond.selects yX2_strength.cls yX2_strength yX2_strength ∈ BASE := bmT4 77 rfl rfl
set_option maxRecDepth 20000 in
theorem m_876 : Cond.code yX2_strength cX2_strength 8 (some .int) ∈ BASE := bmT4 78 rfl rfl
set_option maxRecDepth 20000 in
theorem m_877 : Cond.methodLink RX2 48 yX1_isGiven ∈ BASE := bmT4 79 rfl rfl
set_option maxRecDepth 20000 in
theorem m_878 : Cond.instanceMethod yX1_isGiven ∈ BASE := bmT4 80 rfl rfl
set_option maxRecDepth 20000 in
theorem m_879 : Cond.selects yX1_isGiven.cls yX1_isGiven yX1_isGiven ∈ BASE := bmT4 81 rfl rfl
set_option maxRecDepth 20000 in
theorem m_880 : Cond.code yX1_isGiven cX1_isGiven 1 (some .boolean) ∈ BASE := bmT4 82 rfl rfl
set_option maxRecDepth 20000 in
theorem m_881 : Cond.methodLink RX2 52 yX1_work ∈ BASE := bmT4 83 rfl rfl
set_option maxRecDepth 20000 in
theorem m_882 : Cond.instanceMethod yX1_work ∈ BASE := bmT4 84 rfl rfl
set_option maxRecDepth 20000 in
theorem m_883 : Cond.selects yX1_work.cls yX1_work yX1_work ∈ BASE := bmT4 85 rfl rfl
set_option maxRecDepth 20000 in
theorem m_884 : Cond.code yX1_work cX1_work 9 (some .int) ∈ BASE := bmT4 86 rfl rfl
set_option maxRecDepth 20000 in
theorem m_885 : Cond.methodLink RX2 56 Lib.Math.min.name ∈ BASE := bmT4 87 rfl rfl
set_option maxRecDepth 20000 in
theorem m_886 : Cond.methodLink RX2 62 Lib.Math.max.name ∈ BASE := bmT4 88 rfl rfl
set_option maxRecDepth 20000 in
theorem m_889 : Cond.instanceMethod yX2_isHeard ∈ BASE := bmT4 91 rfl rfl
set_option maxRecDepth 20000 in
theorem m_890 : Cond.selects yX2_isHeard.cls yX2_isHeard yX2_isHeard ∈ BASE := bmT4 92 rfl rfl
set_option maxRecDepth 20000 in
theorem m_891 : Cond.code yX2_isHeard cX2_isHeard 5 (some .boolean) ∈ BASE := bmT4 93 rfl rfl
set_option maxRecDepth 20000 in
theorem m_909 : Cond.instanceMethod yX2_hears ∈ BASE := bmT4 111 rfl rfl
set_option maxRecDepth 20000 in
theorem m_910 : Cond.selects yX2_hears.cls yX2_hears yX2_hears ∈ BASE := bmT4 112 rfl rfl
set_option maxRecDepth 20000 in
theorem m_911 : Cond.code yX2_hears cX2_hears 6 (some .boolean) ∈ BASE := bmT4 113 rfl rfl
set_option maxRecDepth 20000 in
theorem m_912 : Cond.methodLink RX2 65 yX2_late ∈ BASE := bmT4 114 rfl rfl
set_option maxRecDepth 20000 in
theorem m_913 : Cond.methodLink RX2 68 yX2_strength ∈ BASE := bmT4 115 rfl rfl
set_option maxRecDepth 20000 in
theorem m_914 : Cond.methodLink RX2 72 yX2_isHeard ∈ BASE := bmT4 116 rfl rfl
set_option maxRecDepth 20000 in
theorem m_956 : Cond.methodLink RX2 76 yX2_hears ∈ BASE := bmT4 158 rfl rfl
set_option maxRecDepth 20000 in
theorem m_1008 : Cond.constant "java/lang/Integer" 265 (1431655765) ∈ BASE := bmT4 210 rfl rfl
set_option maxRecDepth 20000 in
theorem m_1009 : Cond.constant "java/lang/Integer" 266 (858993459) ∈ BASE := bmT4 211 rfl rfl
set_option maxRecDepth 20000 in
theorem m_1010 : Cond.constant "java/lang/Integer" 267 (252645135) ∈ BASE := bmT4 212 rfl rfl
set_option maxRecDepth 20000 in
theorem m_1018 : Cond.constantLong "java/lang/Long" 314 (6148914691236517205) ∈ BASE := bmT4 220 rfl rfl
set_option maxRecDepth 20000 in
theorem m_1019 : Cond.constantLong "java/lang/Long" 316 (3689348814741910323) ∈ BASE := bmT4 221 rfl rfl
set_option maxRecDepth 20000 in
theorem m_1020 : Cond.constantLong "java/lang/Long" 318 (1085102592571150095) ∈ BASE := bmT4 222 rfl rfl
set_option maxRecDepth 20000 in
theorem m_1267 : Cond.methodLink RX2 80 arraycopyName ∈ BASE := bmT5 229 rfl rfl
set_option maxRecDepth 20000 in
theorem m_1268 : Cond.methodLink RX2 86 yX1_takeFrom ∈ BASE := bmT5 230 rfl rfl
set_option maxRecDepth 20000 in
theorem m_1273 : Cond.methodLink RX3 71 arraycopyName ∈ BASE := bmT5 235 rfl rfl
theorem kS_X2_isClick : KS yX2_isClick cX2_isClick 2 (some .boolean) 2 := ⟨m_654, m_82, m_655, nhM_5, nhV_5, pdn_7⟩
theorem kS_X2_late : KS yX2_late cX2_late 2 (some .int) 2 := ⟨m_867, m_82, m_868, nhM_5, nhV_5, pdn_8⟩
theorem kV_X1_isGiven : KV yX1_isGiven cX1_isGiven 1 (some .boolean) 0 := ⟨m_878, m_879, m_83, m_880, nhM_6, nhV_6, pdn_9⟩
theorem kV_X1_takeFrom : KV yX1_takeFrom cX1_takeFrom 2 none 1 := ⟨m_825, m_826, m_83, m_827, nhM_6, nhV_6, pdn_10⟩
theorem kV_X1_work : KV yX1_work cX1_work 9 (some .int) 1 := ⟨m_882, m_883, m_83, m_884, nhM_6, nhV_6, pdn_11⟩
theorem kV_X2_hears : KV yX2_hears cX2_hears 6 (some .boolean) 5 := ⟨m_909, m_910, m_82, m_911, nhM_5, nhV_5, pdn_12⟩
theorem kV_X2_isHeard : KV yX2_isHeard cX2_isHeard 5 (some .boolean) 4 := ⟨m_889, m_890, m_82, m_891, nhM_5, nhV_5, pdn_13⟩
theorem kV_X2_strength : KV yX2_strength cX2_strength 8 (some .int) 3 := ⟨m_874, m_875, m_82, m_876, nhM_5, nhV_5, pdn_3⟩
theorem inB2 : ∀ w ∈ u_ws RX2 TX2 7, w ∈ BASE := bmems (u_ws RX2 TX2 7) [178, 180, 182, 184, 186, 188, 190] (by decide +kernel) (by decide +kernel)
theorem inB3 : ∀ w ∈ u_ws RX3 TX3 9, w ∈ BASE := bmems (u_ws RX3 TX3 9) [230, 232, 234, 236, 238, 240, 242, 244, 246] (by decide +kernel) (by decide +kernel)
theorem fl_RX2_13 : FLK RX2 13 2 1 .int false := ⟨RX2, TX2, 7, tyX2, rfl, inB2, tyX2_ok, nmX2, by decide, rfl, rfl, Or.inl m_171⟩
theorem fl_RX2_16 : FLK RX2 16 2 2 .int false := ⟨RX2, TX2, 7, tyX2, rfl, inB2, tyX2_ok, nmX2, by decide, rfl, rfl, Or.inl m_172⟩
theorem fl_RX2_21 : FLK RX2 21 2 3 (.array .int) true := ⟨RX2, TX2, 7, tyX2, rfl, inB2, tyX2_ok, nmX2, by decide, rfl, rfl, Or.inl m_173⟩
theorem fl_RX2_25 : FLK RX2 25 2 4 (.array .int) true := ⟨RX2, TX2, 7, tyX2, rfl, inB2, tyX2_ok, nmX2, by decide, rfl, rfl, Or.inl m_174⟩
theorem fl_RX2_30 : FLK RX2 30 2 5 (.array (.object "ClickStreet$Formula")) true := ⟨RX2, TX2, 7, tyX2, rfl, inB2, tyX2_ok, nmX2, by decide, rfl, rfl, Or.inl m_175⟩
theorem fl_RX2_34 : FLK RX2 34 2 6 (.array .int) true := ⟨RX2, TX2, 7, tyX2, rfl, inB2, tyX2_ok, nmX2, by decide, rfl, rfl, Or.inl m_177⟩
theorem fl_RX2_7 : FLK RX2 7 2 0 .int false := ⟨RX2, TX2, 7, tyX2, rfl, inB2, tyX2_ok, nmX2, by decide, rfl, rfl, Or.inl m_170⟩
theorem fl_RX3_13 : FLK RX3 13 3 1 (.array .int) true := ⟨RX3, TX3, 9, tyX3, rfl, inB3, tyX3_ok, nmX3, by decide, rfl, rfl, Or.inl m_219⟩
theorem fl_RX3_16 : FLK RX3 16 3 2 (.array .int) true := ⟨RX3, TX3, 9, tyX3, rfl, inB3, tyX3_ok, nmX3, by decide, rfl, rfl, Or.inl m_220⟩
theorem fl_RX3_19 : FLK RX3 19 3 3 .int false := ⟨RX3, TX3, 9, tyX3, rfl, inB3, tyX3_ok, nmX3, by decide, rfl, rfl, Or.inl m_221⟩
theorem fl_RX3_28 : FLK RX3 28 3 4 (.object "ClickStreet$Row") true := ⟨RX3, TX3, 9, tyX3, rfl, inB3, tyX3_ok, nmX3, by decide, rfl, rfl, Or.inl m_223⟩
theorem fl_RX3_32 : FLK RX3 32 3 5 (.object "ClickStreet$Row") true := ⟨RX3, TX3, 9, tyX3, rfl, inB3, tyX3_ok, nmX3, by decide, rfl, rfl, Or.inl m_224⟩
theorem fl_RX3_38 : FLK RX3 38 3 7 .int false := ⟨RX3, TX3, 9, tyX3, rfl, inB3, tyX3_ok, nmX3, by decide, rfl, rfl, Or.inl m_227⟩
theorem fl_RX3_70 : FLK RX3 70 5 1 .int false := ⟨RX5, TX5, 2, tyX5, rfl, inB5, tyX5_ok, nmX5, by decide, rfl, rfl, Or.inr ⟨"ClickStreet", List.mem_of_getElem? (l := NFs) (i := 8) rfl⟩⟩
theorem fl_RX3_9 : FLK RX3 9 3 0 (.array .int) true := ⟨RX3, TX3, 9, tyX3, rfl, inB3, tyX3_ok, nmX3, by decide, rfl, rfl, Or.inl m_218⟩
theorem ch_cJI_bitCount_0 : (cJI_bitCount.data.toList.drop 0).take 36 = [26, 26, 4, 124, 19, 1, 9, 126, 100, 59, 26, 19, 1, 10, 126, 26, 5, 124, 19, 1, 10, 126, 96, 59, 26, 26, 7, 124, 96, 19, 1, 11, 126, 59, 26, 26] := by decide +kernel
theorem dJI_bitCount_0 : decode cJI_bitCount 0 = .ok (.iload_n 0, 1) := do_26 (rdb (p := 0) (i := 0) ch_cJI_bitCount_0 rfl)
theorem dJI_bitCount_1 : decode cJI_bitCount 1 = .ok (.iload_n 0, 1) := do_26 (rdb (p := 0) (i := 1) ch_cJI_bitCount_0 rfl)
theorem dJI_bitCount_2 : decode cJI_bitCount 2 = .ok (.iconst 1, 1) := do_4 (rdb (p := 0) (i := 2) ch_cJI_bitCount_0 rfl)
theorem dJI_bitCount_3 : decode cJI_bitCount 3 = .ok (.iushr, 1) := by decide +kernel
theorem dJI_bitCount_4 : decode cJI_bitCount 4 = .ok (.ldc_w 265, 3) := do_19 (rdb (p := 0) (i := 4) ch_cJI_bitCount_0 rfl) (rdb (p := 0) (i := 5) ch_cJI_bitCount_0 rfl) (rdb (p := 0) (i := 6) ch_cJI_bitCount_0 rfl) rfl
theorem dJI_bitCount_7 : decode cJI_bitCount 7 = .ok (.iand, 1) := do_126 (rdb (p := 0) (i := 7) ch_cJI_bitCount_0 rfl)
theorem dJI_bitCount_8 : decode cJI_bitCount 8 = .ok (.isub, 1) := do_100 (rdb (p := 0) (i := 8) ch_cJI_bitCount_0 rfl)
theorem dJI_bitCount_9 : decode cJI_bitCount 9 = .ok (.istore_n 0, 1) := by decide +kernel
theorem dJI_bitCount_10 : decode cJI_bitCount 10 = .ok (.iload_n 0, 1) := do_26 (rdb (p := 0) (i := 10) ch_cJI_bitCount_0 rfl)
theorem dJI_bitCount_11 : decode cJI_bitCount 11 = .ok (.ldc_w 266, 3) := do_19 (rdb (p := 0) (i := 11) ch_cJI_bitCount_0 rfl) (rdb (p := 0) (i := 12) ch_cJI_bitCount_0 rfl) (rdb (p := 0) (i := 13) ch_cJI_bitCount_0 rfl) rfl
theorem dJI_bitCount_14 : decode cJI_bitCount 14 = .ok (.iand, 1) := do_126 (rdb (p := 0) (i := 14) ch_cJI_bitCount_0 rfl)
theorem dJI_bitCount_15 : decode cJI_bitCount 15 = .ok (.iload_n 0, 1) := do_26 (rdb (p := 0) (i := 15) ch_cJI_bitCount_0 rfl)
theorem dJI_bitCount_16 : decode cJI_bitCount 16 = .ok (.iconst 2, 1) := do_5 (rdb (p := 0) (i := 16) ch_cJI_bitCount_0 rfl)
theorem dJI_bitCount_17 : decode cJI_bitCount 17 = .ok (.iushr, 1) := by decide +kernel
theorem dJI_bitCount_18 : decode cJI_bitCount 18 = .ok (.ldc_w 266, 3) := do_19 (rdb (p := 0) (i := 18) ch_cJI_bitCount_0 rfl) (rdb (p := 0) (i := 19) ch_cJI_bitCount_0 rfl) (rdb (p := 0) (i := 20) ch_cJI_bitCount_0 rfl) rfl
theorem dJI_bitCount_21 : decode cJI_bitCount 21 = .ok (.iand, 1) := do_126 (rdb (p := 0) (i := 21) ch_cJI_bitCount_0 rfl)
theorem dJI_bitCount_22 : decode cJI_bitCount 22 = .ok (.iadd, 1) := do_96 (rdb (p := 0) (i := 22) ch_cJI_bitCount_0 rfl)
theorem dJI_bitCount_23 : decode cJI_bitCount 23 = .ok (.istore_n 0, 1) := by decide +kernel
theorem dJI_bitCount_24 : decode cJI_bitCount 24 = .ok (.iload_n 0, 1) := do_26 (rdb (p := 0) (i := 24) ch_cJI_bitCount_0 rfl)
theorem dJI_bitCount_25 : decode cJI_bitCount 25 = .ok (.iload_n 0, 1) := do_26 (rdb (p := 0) (i := 25) ch_cJI_bitCount_0 rfl)
theorem dJI_bitCount_26 : decode cJI_bitCount 26 = .ok (.iconst 4, 1) := do_7 (rdb (p := 0) (i := 26) ch_cJI_bitCount_0 rfl)
theorem dJI_bitCount_27 : decode cJI_bitCount 27 = .ok (.iushr, 1) := by decide +kernel
theorem dJI_bitCount_28 : decode cJI_bitCount 28 = .ok (.iadd, 1) := do_96 (rdb (p := 0) (i := 28) ch_cJI_bitCount_0 rfl)
theorem dJI_bitCount_29 : decode cJI_bitCount 29 = .ok (.ldc_w 267, 3) := do_19 (rdb (p := 0) (i := 29) ch_cJI_bitCount_0 rfl) (rdb (p := 0) (i := 30) ch_cJI_bitCount_0 rfl) (rdb (p := 0) (i := 31) ch_cJI_bitCount_0 rfl) rfl
theorem ch_cJI_bitCount_32 : (cJI_bitCount.data.toList.drop 32).take 36 = [126, 59, 26, 26, 16, 8, 124, 96, 59, 26, 26, 16, 16, 124, 96, 59, 26, 16, 63, 126, 172] := by decide +kernel
theorem dJI_bitCount_32 : decode cJI_bitCount 32 = .ok (.iand, 1) := do_126 (rdb (p := 32) (i := 0) ch_cJI_bitCount_32 rfl)
theorem dJI_bitCount_33 : decode cJI_bitCount 33 = .ok (.istore_n 0, 1) := by decide +kernel
theorem dJI_bitCount_34 : decode cJI_bitCount 34 = .ok (.iload_n 0, 1) := do_26 (rdb (p := 32) (i := 2) ch_cJI_bitCount_32 rfl)
theorem dJI_bitCount_35 : decode cJI_bitCount 35 = .ok (.iload_n 0, 1) := do_26 (rdb (p := 32) (i := 3) ch_cJI_bitCount_32 rfl)
theorem dJI_bitCount_36 : decode cJI_bitCount 36 = .ok (.bipush 8, 2) := do_16 (rdb (p := 32) (i := 4) ch_cJI_bitCount_32 rfl) (rdb (p := 32) (i := 5) ch_cJI_bitCount_32 rfl) (by decide +kernel)
theorem dJI_bitCount_38 : decode cJI_bitCount 38 = .ok (.iushr, 1) := by decide +kernel
theorem dJI_bitCount_39 : decode cJI_bitCount 39 = .ok (.iadd, 1) := do_96 (rdb (p := 32) (i := 7) ch_cJI_bitCount_32 rfl)
theorem dJI_bitCount_40 : decode cJI_bitCount 40 = .ok (.istore_n 0, 1) := by decide +kernel
theorem dJI_bitCount_41 : decode cJI_bitCount 41 = .ok (.iload_n 0, 1) := do_26 (rdb (p := 32) (i := 9) ch_cJI_bitCount_32 rfl)
theorem dJI_bitCount_42 : decode cJI_bitCount 42 = .ok (.iload_n 0, 1) := do_26 (rdb (p := 32) (i := 10) ch_cJI_bitCount_32 rfl)
theorem dJI_bitCount_43 : decode cJI_bitCount 43 = .ok (.bipush 16, 2) := do_16 (rdb (p := 32) (i := 11) ch_cJI_bitCount_32 rfl) (rdb (p := 32) (i := 12) ch_cJI_bitCount_32 rfl) (by decide +kernel)
theorem dJI_bitCount_45 : decode cJI_bitCount 45 = .ok (.iushr, 1) := by decide +kernel
theorem dJI_bitCount_46 : decode cJI_bitCount 46 = .ok (.iadd, 1) := do_96 (rdb (p := 32) (i := 14) ch_cJI_bitCount_32 rfl)
theorem dJI_bitCount_47 : decode cJI_bitCount 47 = .ok (.istore_n 0, 1) := by decide +kernel
theorem dJI_bitCount_48 : decode cJI_bitCount 48 = .ok (.iload_n 0, 1) := do_26 (rdb (p := 32) (i := 16) ch_cJI_bitCount_32 rfl)
theorem dJI_bitCount_49 : decode cJI_bitCount 49 = .ok (.bipush 63, 2) := do_16 (rdb (p := 32) (i := 17) ch_cJI_bitCount_32 rfl) (rdb (p := 32) (i := 18) ch_cJI_bitCount_32 rfl) (by decide +kernel)
theorem dJI_bitCount_51 : decode cJI_bitCount 51 = .ok (.iand, 1) := do_126 (rdb (p := 32) (i := 19) ch_cJI_bitCount_32 rfl)
theorem dJI_bitCount_52 : decode cJI_bitCount 52 = .ok (.ireturn, 1) := do_172 (rdb (p := 32) (i := 20) ch_cJI_bitCount_32 rfl)
theorem dJL_bitCount_0 : decode cJL_bitCount 0 = .ok (.lload_n 0, 1) := by decide +kernel
theorem dJL_bitCount_1 : decode cJL_bitCount 1 = .ok (.lload_n 0, 1) := by decide +kernel
theorem ch_cJL_bitCount_0 : (cJL_bitCount.data.toList.drop 0).take 36 = [30, 30, 4, 125, 20, 1, 58, 127, 101, 63, 30, 20, 1, 60, 127, 30, 5, 125, 20, 1, 60, 127, 97, 63, 30, 30, 7, 125, 97, 20, 1, 62, 127, 63, 30, 30] := by decide +kernel
theorem dJL_bitCount_2 : decode cJL_bitCount 2 = .ok (.iconst 1, 1) := do_4 (rdb (p := 0) (i := 2) ch_cJL_bitCount_0 rfl)
theorem dJL_bitCount_3 : decode cJL_bitCount 3 = .ok (.lushr, 1) := do_125 (rdb (p := 0) (i := 3) ch_cJL_bitCount_0 rfl)
theorem dJL_bitCount_4 : decode cJL_bitCount 4 = .ok (.ldc2_w 314, 3) := do_20 (rdb (p := 0) (i := 4) ch_cJL_bitCount_0 rfl) (rdb (p := 0) (i := 5) ch_cJL_bitCount_0 rfl) (rdb (p := 0) (i := 6) ch_cJL_bitCount_0 rfl) rfl
theorem dJL_bitCount_7 : decode cJL_bitCount 7 = .ok (.land, 1) := do_127 (rdb (p := 0) (i := 7) ch_cJL_bitCount_0 rfl)
theorem dJL_bitCount_8 : decode cJL_bitCount 8 = .ok (.lsub, 1) := by decide +kernel
theorem dJL_bitCount_9 : decode cJL_bitCount 9 = .ok (.lstore_n 0, 1) := by decide +kernel
theorem dJL_bitCount_10 : decode cJL_bitCount 10 = .ok (.lload_n 0, 1) := by decide +kernel
theorem dJL_bitCount_11 : decode cJL_bitCount 11 = .ok (.ldc2_w 316, 3) := do_20 (rdb (p := 0) (i := 11) ch_cJL_bitCount_0 rfl) (rdb (p := 0) (i := 12) ch_cJL_bitCount_0 rfl) (rdb (p := 0) (i := 13) ch_cJL_bitCount_0 rfl) rfl
theorem dJL_bitCount_14 : decode cJL_bitCount 14 = .ok (.land, 1) := do_127 (rdb (p := 0) (i := 14) ch_cJL_bitCount_0 rfl)
theorem dJL_bitCount_15 : decode cJL_bitCount 15 = .ok (.lload_n 0, 1) := by decide +kernel
theorem dJL_bitCount_16 : decode cJL_bitCount 16 = .ok (.iconst 2, 1) := do_5 (rdb (p := 0) (i := 16) ch_cJL_bitCount_0 rfl)
theorem dJL_bitCount_17 : decode cJL_bitCount 17 = .ok (.lushr, 1) := do_125 (rdb (p := 0) (i := 17) ch_cJL_bitCount_0 rfl)
theorem dJL_bitCount_18 : decode cJL_bitCount 18 = .ok (.ldc2_w 316, 3) := do_20 (rdb (p := 0) (i := 18) ch_cJL_bitCount_0 rfl) (rdb (p := 0) (i := 19) ch_cJL_bitCount_0 rfl) (rdb (p := 0) (i := 20) ch_cJL_bitCount_0 rfl) rfl
theorem dJL_bitCount_21 : decode cJL_bitCount 21 = .ok (.land, 1) := do_127 (rdb (p := 0) (i := 21) ch_cJL_bitCount_0 rfl)
theorem dJL_bitCount_22 : decode cJL_bitCount 22 = .ok (.ladd, 1) := do_97 (rdb (p := 0) (i := 22) ch_cJL_bitCount_0 rfl)
theorem dJL_bitCount_23 : decode cJL_bitCount 23 = .ok (.lstore_n 0, 1) := by decide +kernel
theorem dJL_bitCount_24 : decode cJL_bitCount 24 = .ok (.lload_n 0, 1) := by decide +kernel
theorem dJL_bitCount_25 : decode cJL_bitCount 25 = .ok (.lload_n 0, 1) := by decide +kernel
theorem dJL_bitCount_26 : decode cJL_bitCount 26 = .ok (.iconst 4, 1) := do_7 (rdb (p := 0) (i := 26) ch_cJL_bitCount_0 rfl)
theorem dJL_bitCount_27 : decode cJL_bitCount 27 = .ok (.lushr, 1) := do_125 (rdb (p := 0) (i := 27) ch_cJL_bitCount_0 rfl)
theorem dJL_bitCount_28 : decode cJL_bitCount 28 = .ok (.ladd, 1) := do_97 (rdb (p := 0) (i := 28) ch_cJL_bitCount_0 rfl)
theorem dJL_bitCount_29 : decode cJL_bitCount 29 = .ok (.ldc2_w 318, 3) := do_20 (rdb (p := 0) (i := 29) ch_cJL_bitCount_0 rfl) (rdb (p := 0) (i := 30) ch_cJL_bitCount_0 rfl) (rdb (p := 0) (i := 31) ch_cJL_bitCount_0 rfl) rfl
theorem ch_cJL_bitCount_32 : (cJL_bitCount.data.toList.drop 32).take 36 = [127, 63, 30, 30, 16, 8, 125, 97, 63, 30, 30, 16, 16, 125, 97, 63, 30, 30, 16, 32, 125, 97, 63, 30, 136, 16, 127, 126, 172] := by decide +kernel
theorem dJL_bitCount_32 : decode cJL_bitCount 32 = .ok (.land, 1) := do_127 (rdb (p := 32) (i := 0) ch_cJL_bitCount_32 rfl)
theorem dJL_bitCount_33 : decode cJL_bitCount 33 = .ok (.lstore_n 0, 1) := by decide +kernel
theorem dJL_bitCount_34 : decode cJL_bitCount 34 = .ok (.lload_n 0, 1) := by decide +kernel
theorem dJL_bitCount_35 : decode cJL_bitCount 35 = .ok (.lload_n 0, 1) := by decide +kernel
theorem dJL_bitCount_36 : decode cJL_bitCount 36 = .ok (.bipush 8, 2) := do_16 (rdb (p := 32) (i := 4) ch_cJL_bitCount_32 rfl) (rdb (p := 32) (i := 5) ch_cJL_bitCount_32 rfl) (by decide +kernel)
theorem dJL_bitCount_38 : decode cJL_bitCount 38 = .ok (.lushr, 1) := do_125 (rdb (p := 32) (i := 6) ch_cJL_bitCount_32 rfl)
theorem dJL_bitCount_39 : decode cJL_bitCount 39 = .ok (.ladd, 1) := do_97 (rdb (p := 32) (i := 7) ch_cJL_bitCount_32 rfl)
theorem dJL_bitCount_40 : decode cJL_bitCount 40 = .ok (.lstore_n 0, 1) := by decide +kernel
theorem dJL_bitCount_41 : decode cJL_bitCount 41 = .ok (.lload_n 0, 1) := by decide +kernel
theorem dJL_bitCount_42 : decode cJL_bitCount 42 = .ok (.lload_n 0, 1) := by decide +kernel
theorem dJL_bitCount_43 : decode cJL_bitCount 43 = .ok (.bipush 16, 2) := do_16 (rdb (p := 32) (i := 11) ch_cJL_bitCount_32 rfl) (rdb (p := 32) (i := 12) ch_cJL_bitCount_32 rfl) (by decide +kernel)
theorem dJL_bitCount_45 : decode cJL_bitCount 45 = .ok (.lushr, 1) := do_125 (rdb (p := 32) (i := 13) ch_cJL_bitCount_32 rfl)
theorem dJL_bitCount_46 : decode cJL_bitCount 46 = .ok (.ladd, 1) := do_97 (rdb (p := 32) (i := 14) ch_cJL_bitCount_32 rfl)
theorem dJL_bitCount_47 : decode cJL_bitCount 47 = .ok (.lstore_n 0, 1) := by decide +kernel
theorem dJL_bitCount_48 : decode cJL_bitCount 48 = .ok (.lload_n 0, 1) := by decide +kernel
theorem dJL_bitCount_49 : decode cJL_bitCount 49 = .ok (.lload_n 0, 1) := by decide +kernel
theorem dJL_bitCount_50 : decode cJL_bitCount 50 = .ok (.bipush 32, 2) := do_16 (rdb (p := 32) (i := 18) ch_cJL_bitCount_32 rfl) (rdb (p := 32) (i := 19) ch_cJL_bitCount_32 rfl) (by decide +kernel)
theorem dJL_bitCount_52 : decode cJL_bitCount 52 = .ok (.lushr, 1) := do_125 (rdb (p := 32) (i := 20) ch_cJL_bitCount_32 rfl)
theorem dJL_bitCount_53 : decode cJL_bitCount 53 = .ok (.ladd, 1) := do_97 (rdb (p := 32) (i := 21) ch_cJL_bitCount_32 rfl)
theorem dJL_bitCount_54 : decode cJL_bitCount 54 = .ok (.lstore_n 0, 1) := by decide +kernel
theorem dJL_bitCount_55 : decode cJL_bitCount 55 = .ok (.lload_n 0, 1) := by decide +kernel
theorem dJL_bitCount_56 : decode cJL_bitCount 56 = .ok (.l2i, 1) := do_136 (rdb (p := 32) (i := 24) ch_cJL_bitCount_32 rfl)
theorem dJL_bitCount_57 : decode cJL_bitCount 57 = .ok (.bipush 127, 2) := do_16 (rdb (p := 32) (i := 25) ch_cJL_bitCount_32 rfl) (rdb (p := 32) (i := 26) ch_cJL_bitCount_32 rfl) (by decide +kernel)
theorem dJL_bitCount_59 : decode cJL_bitCount 59 = .ok (.iand, 1) := do_126 (rdb (p := 32) (i := 27) ch_cJL_bitCount_32 rfl)
theorem dJL_bitCount_60 : decode cJL_bitCount 60 = .ok (.ireturn, 1) := do_172 (rdb (p := 32) (i := 28) ch_cJL_bitCount_32 rfl)
theorem ch_cX2_changeAir_0 : (cX2_changeAir.data.toList.drop 0).take 36 = [27, 154, 0, 10, 42, 180, 0, 7, 167, 0, 19, 27, 4, 160, 0, 10, 42, 180, 0, 13, 167, 0, 7, 42, 180, 0, 16, 62, 27, 154, 0, 11, 42, 28, 181, 0] := by decide +kernel
theorem dX2_changeAir_0 : decode cX2_changeAir 0 = .ok (.iload_n 1, 1) := do_27 (rdb (p := 0) (i := 0) ch_cX2_changeAir_0 rfl)
theorem dX2_changeAir_1 : decode cX2_changeAir 1 = .ok (.ifCond .ne 10, 3) := do_154 (rdb (p := 0) (i := 1) ch_cX2_changeAir_0 rfl) (rdb (p := 0) (i := 2) ch_cX2_changeAir_0 rfl) (rdb (p := 0) (i := 3) ch_cX2_changeAir_0 rfl) (by decide +kernel)
theorem dX2_changeAir_4 : decode cX2_changeAir 4 = .ok (.aload_n 0, 1) := do_42 (rdb (p := 0) (i := 4) ch_cX2_changeAir_0 rfl)
theorem dX2_changeAir_5 : decode cX2_changeAir 5 = .ok (.getfield 7, 3) := do_180 (rdb (p := 0) (i := 5) ch_cX2_changeAir_0 rfl) (rdb (p := 0) (i := 6) ch_cX2_changeAir_0 rfl) (rdb (p := 0) (i := 7) ch_cX2_changeAir_0 rfl) rfl
theorem dX2_changeAir_8 : decode cX2_changeAir 8 = .ok (.goto 19, 3) := do_167 (rdb (p := 0) (i := 8) ch_cX2_changeAir_0 rfl) (rdb (p := 0) (i := 9) ch_cX2_changeAir_0 rfl) (rdb (p := 0) (i := 10) ch_cX2_changeAir_0 rfl) (by decide +kernel)
theorem dX2_changeAir_11 : decode cX2_changeAir 11 = .ok (.iload_n 1, 1) := do_27 (rdb (p := 0) (i := 11) ch_cX2_changeAir_0 rfl)
theorem dX2_changeAir_12 : decode cX2_changeAir 12 = .ok (.iconst 1, 1) := do_4 (rdb (p := 0) (i := 12) ch_cX2_changeAir_0 rfl)
theorem dX2_changeAir_13 : decode cX2_changeAir 13 = .ok (.if_icmp .ne 10, 3) := do_160 (rdb (p := 0) (i := 13) ch_cX2_changeAir_0 rfl) (rdb (p := 0) (i := 14) ch_cX2_changeAir_0 rfl) (rdb (p := 0) (i := 15) ch_cX2_changeAir_0 rfl) (by decide +kernel)
theorem dX2_changeAir_16 : decode cX2_changeAir 16 = .ok (.aload_n 0, 1) := do_42 (rdb (p := 0) (i := 16) ch_cX2_changeAir_0 rfl)
theorem dX2_changeAir_17 : decode cX2_changeAir 17 = .ok (.getfield 13, 3) := do_180 (rdb (p := 0) (i := 17) ch_cX2_changeAir_0 rfl) (rdb (p := 0) (i := 18) ch_cX2_changeAir_0 rfl) (rdb (p := 0) (i := 19) ch_cX2_changeAir_0 rfl) rfl
theorem dX2_changeAir_20 : decode cX2_changeAir 20 = .ok (.goto 7, 3) := do_167 (rdb (p := 0) (i := 20) ch_cX2_changeAir_0 rfl) (rdb (p := 0) (i := 21) ch_cX2_changeAir_0 rfl) (rdb (p := 0) (i := 22) ch_cX2_changeAir_0 rfl) (by decide +kernel)
theorem dX2_changeAir_23 : decode cX2_changeAir 23 = .ok (.aload_n 0, 1) := do_42 (rdb (p := 0) (i := 23) ch_cX2_changeAir_0 rfl)
theorem dX2_changeAir_24 : decode cX2_changeAir 24 = .ok (.getfield 16, 3) := do_180 (rdb (p := 0) (i := 24) ch_cX2_changeAir_0 rfl) (rdb (p := 0) (i := 25) ch_cX2_changeAir_0 rfl) (rdb (p := 0) (i := 26) ch_cX2_changeAir_0 rfl) rfl
theorem dX2_changeAir_27 : decode cX2_changeAir 27 = .ok (.istore_n 3, 1) := do_62 (rdb (p := 0) (i := 27) ch_cX2_changeAir_0 rfl)
theorem dX2_changeAir_28 : decode cX2_changeAir 28 = .ok (.iload_n 1, 1) := do_27 (rdb (p := 0) (i := 28) ch_cX2_changeAir_0 rfl)
theorem dX2_changeAir_29 : decode cX2_changeAir 29 = .ok (.ifCond .ne 11, 3) := do_154 (rdb (p := 0) (i := 29) ch_cX2_changeAir_0 rfl) (rdb (p := 0) (i := 30) ch_cX2_changeAir_0 rfl) (rdb (p := 0) (i := 31) ch_cX2_changeAir_0 rfl) (by decide +kernel)
theorem ch_cX2_changeAir_32 : (cX2_changeAir.data.toList.drop 32).take 36 = [42, 28, 181, 0, 7, 167, 0, 21, 27, 4, 160, 0, 11, 42, 28, 181, 0, 13, 167, 0, 8, 42, 28, 181, 0, 16, 29, 172] := by decide +kernel
theorem dX2_changeAir_32 : decode cX2_changeAir 32 = .ok (.aload_n 0, 1) := do_42 (rdb (p := 32) (i := 0) ch_cX2_changeAir_32 rfl)
theorem dX2_changeAir_33 : decode cX2_changeAir 33 = .ok (.iload_n 2, 1) := do_28 (rdb (p := 32) (i := 1) ch_cX2_changeAir_32 rfl)
theorem dX2_changeAir_34 : decode cX2_changeAir 34 = .ok (.putfield 7, 3) := do_181 (rdb (p := 32) (i := 2) ch_cX2_changeAir_32 rfl) (rdb (p := 32) (i := 3) ch_cX2_changeAir_32 rfl) (rdb (p := 32) (i := 4) ch_cX2_changeAir_32 rfl) rfl
theorem dX2_changeAir_37 : decode cX2_changeAir 37 = .ok (.goto 21, 3) := do_167 (rdb (p := 32) (i := 5) ch_cX2_changeAir_32 rfl) (rdb (p := 32) (i := 6) ch_cX2_changeAir_32 rfl) (rdb (p := 32) (i := 7) ch_cX2_changeAir_32 rfl) (by decide +kernel)
theorem dX2_changeAir_40 : decode cX2_changeAir 40 = .ok (.iload_n 1, 1) := do_27 (rdb (p := 32) (i := 8) ch_cX2_changeAir_32 rfl)
theorem dX2_changeAir_41 : decode cX2_changeAir 41 = .ok (.iconst 1, 1) := do_4 (rdb (p := 32) (i := 9) ch_cX2_changeAir_32 rfl)
theorem dX2_changeAir_42 : decode cX2_changeAir 42 = .ok (.if_icmp .ne 11, 3) := do_160 (rdb (p := 32) (i := 10) ch_cX2_changeAir_32 rfl) (rdb (p := 32) (i := 11) ch_cX2_changeAir_32 rfl) (rdb (p := 32) (i := 12) ch_cX2_changeAir_32 rfl) (by decide +kernel)
theorem dX2_changeAir_45 : decode cX2_changeAir 45 = .ok (.aload_n 0, 1) := do_42 (rdb (p := 32) (i := 13) ch_cX2_changeAir_32 rfl)
theorem dX2_changeAir_46 : decode cX2_changeAir 46 = .ok (.iload_n 2, 1) := do_28 (rdb (p := 32) (i := 14) ch_cX2_changeAir_32 rfl)
theorem dX2_changeAir_47 : decode cX2_changeAir 47 = .ok (.putfield 13, 3) := do_181 (rdb (p := 32) (i := 15) ch_cX2_changeAir_32 rfl) (rdb (p := 32) (i := 16) ch_cX2_changeAir_32 rfl) (rdb (p := 32) (i := 17) ch_cX2_changeAir_32 rfl) rfl
theorem dX2_changeAir_50 : decode cX2_changeAir 50 = .ok (.goto 8, 3) := do_167 (rdb (p := 32) (i := 18) ch_cX2_changeAir_32 rfl) (rdb (p := 32) (i := 19) ch_cX2_changeAir_32 rfl) (rdb (p := 32) (i := 20) ch_cX2_changeAir_32 rfl) (by decide +kernel)
theorem dX2_changeAir_53 : decode cX2_changeAir 53 = .ok (.aload_n 0, 1) := do_42 (rdb (p := 32) (i := 21) ch_cX2_changeAir_32 rfl)
theorem dX2_changeAir_54 : decode cX2_changeAir 54 = .ok (.iload_n 2, 1) := do_28 (rdb (p := 32) (i := 22) ch_cX2_changeAir_32 rfl)
theorem dX2_changeAir_55 : decode cX2_changeAir 55 = .ok (.putfield 16, 3) := do_181 (rdb (p := 32) (i := 23) ch_cX2_changeAir_32 rfl) (rdb (p := 32) (i := 24) ch_cX2_changeAir_32 rfl) (rdb (p := 32) (i := 25) ch_cX2_changeAir_32 rfl) rfl
theorem dX2_changeAir_58 : decode cX2_changeAir 58 = .ok (.iload_n 3, 1) := do_29 (rdb (p := 32) (i := 26) ch_cX2_changeAir_32 rfl)
theorem dX2_changeAir_59 : decode cX2_changeAir 59 = .ok (.ireturn, 1) := do_172 (rdb (p := 32) (i := 27) ch_cX2_changeAir_32 rfl)
theorem ch_cX2_changeKind_0 : (cX2_changeKind.data.toList.drop 0).take 36 = [28, 154, 0, 10, 42, 180, 0, 21, 167, 0, 7, 42, 180, 0, 25, 58, 4, 27, 155, 0, 10, 27, 25, 4, 190, 161, 0, 5, 3, 172, 25, 4, 27, 46, 54, 5] := by decide +kernel
theorem dX2_changeKind_0 : decode cX2_changeKind 0 = .ok (.iload_n 2, 1) := do_28 (rdb (p := 0) (i := 0) ch_cX2_changeKind_0 rfl)
theorem dX2_changeKind_1 : decode cX2_changeKind 1 = .ok (.ifCond .ne 10, 3) := do_154 (rdb (p := 0) (i := 1) ch_cX2_changeKind_0 rfl) (rdb (p := 0) (i := 2) ch_cX2_changeKind_0 rfl) (rdb (p := 0) (i := 3) ch_cX2_changeKind_0 rfl) (by decide +kernel)
theorem dX2_changeKind_4 : decode cX2_changeKind 4 = .ok (.aload_n 0, 1) := do_42 (rdb (p := 0) (i := 4) ch_cX2_changeKind_0 rfl)
theorem dX2_changeKind_5 : decode cX2_changeKind 5 = .ok (.getfield 21, 3) := do_180 (rdb (p := 0) (i := 5) ch_cX2_changeKind_0 rfl) (rdb (p := 0) (i := 6) ch_cX2_changeKind_0 rfl) (rdb (p := 0) (i := 7) ch_cX2_changeKind_0 rfl) rfl
theorem dX2_changeKind_8 : decode cX2_changeKind 8 = .ok (.goto 7, 3) := do_167 (rdb (p := 0) (i := 8) ch_cX2_changeKind_0 rfl) (rdb (p := 0) (i := 9) ch_cX2_changeKind_0 rfl) (rdb (p := 0) (i := 10) ch_cX2_changeKind_0 rfl) (by decide +kernel)
theorem dX2_changeKind_11 : decode cX2_changeKind 11 = .ok (.aload_n 0, 1) := do_42 (rdb (p := 0) (i := 11) ch_cX2_changeKind_0 rfl)
theorem dX2_changeKind_12 : decode cX2_changeKind 12 = .ok (.getfield 25, 3) := do_180 (rdb (p := 0) (i := 12) ch_cX2_changeKind_0 rfl) (rdb (p := 0) (i := 13) ch_cX2_changeKind_0 rfl) (rdb (p := 0) (i := 14) ch_cX2_changeKind_0 rfl) rfl
theorem dX2_changeKind_15 : decode cX2_changeKind 15 = .ok (.astore 4, 2) := do_58 (rdb (p := 0) (i := 15) ch_cX2_changeKind_0 rfl) (rdb (p := 0) (i := 16) ch_cX2_changeKind_0 rfl)
theorem dX2_changeKind_17 : decode cX2_changeKind 17 = .ok (.iload_n 1, 1) := do_27 (rdb (p := 0) (i := 17) ch_cX2_changeKind_0 rfl)
theorem dX2_changeKind_18 : decode cX2_changeKind 18 = .ok (.ifCond .lt 10, 3) := do_155 (rdb (p := 0) (i := 18) ch_cX2_changeKind_0 rfl) (rdb (p := 0) (i := 19) ch_cX2_changeKind_0 rfl) (rdb (p := 0) (i := 20) ch_cX2_changeKind_0 rfl) (by decide +kernel)
theorem dX2_changeKind_21 : decode cX2_changeKind 21 = .ok (.iload_n 1, 1) := do_27 (rdb (p := 0) (i := 21) ch_cX2_changeKind_0 rfl)
theorem dX2_changeKind_22 : decode cX2_changeKind 22 = .ok (.aload 4, 2) := do_25 (rdb (p := 0) (i := 22) ch_cX2_changeKind_0 rfl) (rdb (p := 0) (i := 23) ch_cX2_changeKind_0 rfl)
theorem dX2_changeKind_24 : decode cX2_changeKind 24 = .ok (.arraylength, 1) := do_190 (rdb (p := 0) (i := 24) ch_cX2_changeKind_0 rfl)
theorem dX2_changeKind_25 : decode cX2_changeKind 25 = .ok (.if_icmp .lt 5, 3) := do_161 (rdb (p := 0) (i := 25) ch_cX2_changeKind_0 rfl) (rdb (p := 0) (i := 26) ch_cX2_changeKind_0 rfl) (rdb (p := 0) (i := 27) ch_cX2_changeKind_0 rfl) (by decide +kernel)
theorem dX2_changeKind_28 : decode cX2_changeKind 28 = .ok (.iconst 0, 1) := do_3 (rdb (p := 0) (i := 28) ch_cX2_changeKind_0 rfl)
theorem dX2_changeKind_29 : decode cX2_changeKind 29 = .ok (.ireturn, 1) := do_172 (rdb (p := 0) (i := 29) ch_cX2_changeKind_0 rfl)
theorem dX2_changeKind_30 : decode cX2_changeKind 30 = .ok (.aload 4, 2) := do_25 (rdb (p := 0) (i := 30) ch_cX2_changeKind_0 rfl) (rdb (p := 0) (i := 31) ch_cX2_changeKind_0 rfl)
theorem ch_cX2_changeKind_32 : (cX2_changeKind.data.toList.drop 32).take 36 = [27, 46, 54, 5, 25, 4, 27, 29, 79, 21, 5, 172] := by decide +kernel
theorem dX2_changeKind_32 : decode cX2_changeKind 32 = .ok (.iload_n 1, 1) := do_27 (rdb (p := 32) (i := 0) ch_cX2_changeKind_32 rfl)
theorem dX2_changeKind_33 : decode cX2_changeKind 33 = .ok (.iaload, 1) := do_46 (rdb (p := 32) (i := 1) ch_cX2_changeKind_32 rfl)
theorem dX2_changeKind_34 : decode cX2_changeKind 34 = .ok (.istore 5, 2) := do_54 (rdb (p := 32) (i := 2) ch_cX2_changeKind_32 rfl) (rdb (p := 32) (i := 3) ch_cX2_changeKind_32 rfl)
theorem dX2_changeKind_36 : decode cX2_changeKind 36 = .ok (.aload 4, 2) := do_25 (rdb (p := 32) (i := 4) ch_cX2_changeKind_32 rfl) (rdb (p := 32) (i := 5) ch_cX2_changeKind_32 rfl)
theorem dX2_changeKind_38 : decode cX2_changeKind 38 = .ok (.iload_n 1, 1) := do_27 (rdb (p := 32) (i := 6) ch_cX2_changeKind_32 rfl)
theorem dX2_changeKind_39 : decode cX2_changeKind 39 = .ok (.iload_n 3, 1) := do_29 (rdb (p := 32) (i := 7) ch_cX2_changeKind_32 rfl)
theorem dX2_changeKind_40 : decode cX2_changeKind 40 = .ok (.iastore, 1) := do_79 (rdb (p := 32) (i := 8) ch_cX2_changeKind_32 rfl)
theorem dX2_changeKind_41 : decode cX2_changeKind 41 = .ok (.iload 5, 2) := do_21 (rdb (p := 32) (i := 9) ch_cX2_changeKind_32 rfl) (rdb (p := 32) (i := 10) ch_cX2_changeKind_32 rfl)
theorem dX2_changeKind_43 : decode cX2_changeKind 43 = .ok (.ireturn, 1) := do_172 (rdb (p := 32) (i := 11) ch_cX2_changeKind_32 rfl)
theorem ch_cX2_habitValue_0 : (cX2_habitValue.data.toList.drop 0).take 36 = [42, 180, 0, 30, 5, 50, 182, 0, 48, 154, 0, 14, 27, 4, 160, 0, 7, 4, 167, 0, 4, 3, 172, 42, 180, 0, 34, 3, 27, 79, 42, 180, 0, 34, 4, 28] := by decide +kernel
theorem dX2_habitValue_0 : decode cX2_habitValue 0 = .ok (.aload_n 0, 1) := do_42 (rdb (p := 0) (i := 0) ch_cX2_habitValue_0 rfl)
theorem dX2_habitValue_1 : decode cX2_habitValue 1 = .ok (.getfield 30, 3) := do_180 (rdb (p := 0) (i := 1) ch_cX2_habitValue_0 rfl) (rdb (p := 0) (i := 2) ch_cX2_habitValue_0 rfl) (rdb (p := 0) (i := 3) ch_cX2_habitValue_0 rfl) rfl
theorem dX2_habitValue_4 : decode cX2_habitValue 4 = .ok (.iconst 2, 1) := do_5 (rdb (p := 0) (i := 4) ch_cX2_habitValue_0 rfl)
theorem dX2_habitValue_5 : decode cX2_habitValue 5 = .ok (.aaload, 1) := do_50 (rdb (p := 0) (i := 5) ch_cX2_habitValue_0 rfl)
theorem dX2_habitValue_6 : decode cX2_habitValue 6 = .ok (.invokevirtual 48, 3) := do_182 (rdb (p := 0) (i := 6) ch_cX2_habitValue_0 rfl) (rdb (p := 0) (i := 7) ch_cX2_habitValue_0 rfl) (rdb (p := 0) (i := 8) ch_cX2_habitValue_0 rfl) rfl
theorem dX2_habitValue_9 : decode cX2_habitValue 9 = .ok (.ifCond .ne 14, 3) := do_154 (rdb (p := 0) (i := 9) ch_cX2_habitValue_0 rfl) (rdb (p := 0) (i := 10) ch_cX2_habitValue_0 rfl) (rdb (p := 0) (i := 11) ch_cX2_habitValue_0 rfl) (by decide +kernel)
theorem dX2_habitValue_12 : decode cX2_habitValue 12 = .ok (.iload_n 1, 1) := do_27 (rdb (p := 0) (i := 12) ch_cX2_habitValue_0 rfl)
theorem dX2_habitValue_13 : decode cX2_habitValue 13 = .ok (.iconst 1, 1) := do_4 (rdb (p := 0) (i := 13) ch_cX2_habitValue_0 rfl)
theorem dX2_habitValue_14 : decode cX2_habitValue 14 = .ok (.if_icmp .ne 7, 3) := do_160 (rdb (p := 0) (i := 14) ch_cX2_habitValue_0 rfl) (rdb (p := 0) (i := 15) ch_cX2_habitValue_0 rfl) (rdb (p := 0) (i := 16) ch_cX2_habitValue_0 rfl) (by decide +kernel)
theorem dX2_habitValue_17 : decode cX2_habitValue 17 = .ok (.iconst 1, 1) := do_4 (rdb (p := 0) (i := 17) ch_cX2_habitValue_0 rfl)
theorem dX2_habitValue_18 : decode cX2_habitValue 18 = .ok (.goto 4, 3) := do_167 (rdb (p := 0) (i := 18) ch_cX2_habitValue_0 rfl) (rdb (p := 0) (i := 19) ch_cX2_habitValue_0 rfl) (rdb (p := 0) (i := 20) ch_cX2_habitValue_0 rfl) (by decide +kernel)
theorem dX2_habitValue_21 : decode cX2_habitValue 21 = .ok (.iconst 0, 1) := do_3 (rdb (p := 0) (i := 21) ch_cX2_habitValue_0 rfl)
theorem dX2_habitValue_22 : decode cX2_habitValue 22 = .ok (.ireturn, 1) := do_172 (rdb (p := 0) (i := 22) ch_cX2_habitValue_0 rfl)
theorem dX2_habitValue_23 : decode cX2_habitValue 23 = .ok (.aload_n 0, 1) := do_42 (rdb (p := 0) (i := 23) ch_cX2_habitValue_0 rfl)
theorem dX2_habitValue_24 : decode cX2_habitValue 24 = .ok (.getfield 34, 3) := do_180 (rdb (p := 0) (i := 24) ch_cX2_habitValue_0 rfl) (rdb (p := 0) (i := 25) ch_cX2_habitValue_0 rfl) (rdb (p := 0) (i := 26) ch_cX2_habitValue_0 rfl) rfl
theorem dX2_habitValue_27 : decode cX2_habitValue 27 = .ok (.iconst 0, 1) := do_3 (rdb (p := 0) (i := 27) ch_cX2_habitValue_0 rfl)
theorem dX2_habitValue_28 : decode cX2_habitValue 28 = .ok (.iload_n 1, 1) := do_27 (rdb (p := 0) (i := 28) ch_cX2_habitValue_0 rfl)
theorem dX2_habitValue_29 : decode cX2_habitValue 29 = .ok (.iastore, 1) := do_79 (rdb (p := 0) (i := 29) ch_cX2_habitValue_0 rfl)
theorem dX2_habitValue_30 : decode cX2_habitValue 30 = .ok (.aload_n 0, 1) := do_42 (rdb (p := 0) (i := 30) ch_cX2_habitValue_0 rfl)
theorem dX2_habitValue_31 : decode cX2_habitValue 31 = .ok (.getfield 34, 3) := do_180 (rdb (p := 0) (i := 31) ch_cX2_habitValue_0 rfl) (rdb (p := 0) (i := 32) ch_cX2_habitValue_0 rfl) (rdb (p := 0) (i := 33) ch_cX2_habitValue_0 rfl) rfl
theorem ch_cX2_habitValue_32 : (cX2_habitValue.data.toList.drop 32).take 36 = [0, 34, 4, 28, 79, 42, 180, 0, 34, 5, 29, 79, 42, 180, 0, 34, 6, 21, 4, 79, 42, 180, 0, 34, 7, 21, 5, 79, 42, 180, 0, 30, 5, 50, 42, 180] := by decide +kernel
theorem dX2_habitValue_34 : decode cX2_habitValue 34 = .ok (.iconst 1, 1) := do_4 (rdb (p := 32) (i := 2) ch_cX2_habitValue_32 rfl)
theorem dX2_habitValue_35 : decode cX2_habitValue 35 = .ok (.iload_n 2, 1) := do_28 (rdb (p := 32) (i := 3) ch_cX2_habitValue_32 rfl)
theorem dX2_habitValue_36 : decode cX2_habitValue 36 = .ok (.iastore, 1) := do_79 (rdb (p := 32) (i := 4) ch_cX2_habitValue_32 rfl)
theorem dX2_habitValue_37 : decode cX2_habitValue 37 = .ok (.aload_n 0, 1) := do_42 (rdb (p := 32) (i := 5) ch_cX2_habitValue_32 rfl)
theorem dX2_habitValue_38 : decode cX2_habitValue 38 = .ok (.getfield 34, 3) := do_180 (rdb (p := 32) (i := 6) ch_cX2_habitValue_32 rfl) (rdb (p := 32) (i := 7) ch_cX2_habitValue_32 rfl) (rdb (p := 32) (i := 8) ch_cX2_habitValue_32 rfl) rfl
theorem dX2_habitValue_41 : decode cX2_habitValue 41 = .ok (.iconst 2, 1) := do_5 (rdb (p := 32) (i := 9) ch_cX2_habitValue_32 rfl)
theorem dX2_habitValue_42 : decode cX2_habitValue 42 = .ok (.iload_n 3, 1) := do_29 (rdb (p := 32) (i := 10) ch_cX2_habitValue_32 rfl)
theorem dX2_habitValue_43 : decode cX2_habitValue 43 = .ok (.iastore, 1) := do_79 (rdb (p := 32) (i := 11) ch_cX2_habitValue_32 rfl)
theorem dX2_habitValue_44 : decode cX2_habitValue 44 = .ok (.aload_n 0, 1) := do_42 (rdb (p := 32) (i := 12) ch_cX2_habitValue_32 rfl)
theorem dX2_habitValue_45 : decode cX2_habitValue 45 = .ok (.getfield 34, 3) := do_180 (rdb (p := 32) (i := 13) ch_cX2_habitValue_32 rfl) (rdb (p := 32) (i := 14) ch_cX2_habitValue_32 rfl) (rdb (p := 32) (i := 15) ch_cX2_habitValue_32 rfl) rfl
theorem dX2_habitValue_48 : decode cX2_habitValue 48 = .ok (.iconst 3, 1) := do_6 (rdb (p := 32) (i := 16) ch_cX2_habitValue_32 rfl)
theorem dX2_habitValue_49 : decode cX2_habitValue 49 = .ok (.iload 4, 2) := do_21 (rdb (p := 32) (i := 17) ch_cX2_habitValue_32 rfl) (rdb (p := 32) (i := 18) ch_cX2_habitValue_32 rfl)
theorem dX2_habitValue_51 : decode cX2_habitValue 51 = .ok (.iastore, 1) := do_79 (rdb (p := 32) (i := 19) ch_cX2_habitValue_32 rfl)
theorem dX2_habitValue_52 : decode cX2_habitValue 52 = .ok (.aload_n 0, 1) := do_42 (rdb (p := 32) (i := 20) ch_cX2_habitValue_32 rfl)
theorem dX2_habitValue_53 : decode cX2_habitValue 53 = .ok (.getfield 34, 3) := do_180 (rdb (p := 32) (i := 21) ch_cX2_habitValue_32 rfl) (rdb (p := 32) (i := 22) ch_cX2_habitValue_32 rfl) (rdb (p := 32) (i := 23) ch_cX2_habitValue_32 rfl) rfl
theorem dX2_habitValue_56 : decode cX2_habitValue 56 = .ok (.iconst 4, 1) := do_7 (rdb (p := 32) (i := 24) ch_cX2_habitValue_32 rfl)
theorem dX2_habitValue_57 : decode cX2_habitValue 57 = .ok (.iload 5, 2) := do_21 (rdb (p := 32) (i := 25) ch_cX2_habitValue_32 rfl) (rdb (p := 32) (i := 26) ch_cX2_habitValue_32 rfl)
theorem dX2_habitValue_59 : decode cX2_habitValue 59 = .ok (.iastore, 1) := do_79 (rdb (p := 32) (i := 27) ch_cX2_habitValue_32 rfl)
theorem dX2_habitValue_60 : decode cX2_habitValue 60 = .ok (.aload_n 0, 1) := do_42 (rdb (p := 32) (i := 28) ch_cX2_habitValue_32 rfl)
theorem dX2_habitValue_61 : decode cX2_habitValue 61 = .ok (.getfield 30, 3) := do_180 (rdb (p := 32) (i := 29) ch_cX2_habitValue_32 rfl) (rdb (p := 32) (i := 30) ch_cX2_habitValue_32 rfl) (rdb (p := 32) (i := 31) ch_cX2_habitValue_32 rfl) rfl
theorem ch_cX2_habitValue_64 : (cX2_habitValue.data.toList.drop 64).take 36 = [5, 50, 42, 180, 0, 34, 182, 0, 52, 172] := by decide +kernel
theorem dX2_habitValue_64 : decode cX2_habitValue 64 = .ok (.iconst 2, 1) := do_5 (rdb (p := 64) (i := 0) ch_cX2_habitValue_64 rfl)
theorem dX2_habitValue_65 : decode cX2_habitValue 65 = .ok (.aaload, 1) := do_50 (rdb (p := 64) (i := 1) ch_cX2_habitValue_64 rfl)
theorem dX2_habitValue_66 : decode cX2_habitValue 66 = .ok (.aload_n 0, 1) := do_42 (rdb (p := 64) (i := 2) ch_cX2_habitValue_64 rfl)
theorem dX2_habitValue_67 : decode cX2_habitValue 67 = .ok (.getfield 34, 3) := do_180 (rdb (p := 64) (i := 3) ch_cX2_habitValue_64 rfl) (rdb (p := 64) (i := 4) ch_cX2_habitValue_64 rfl) (rdb (p := 64) (i := 5) ch_cX2_habitValue_64 rfl) rfl
theorem dX2_habitValue_70 : decode cX2_habitValue 70 = .ok (.invokevirtual 52, 3) := do_182 (rdb (p := 64) (i := 6) ch_cX2_habitValue_64 rfl) (rdb (p := 64) (i := 7) ch_cX2_habitValue_64 rfl) (rdb (p := 64) (i := 8) ch_cX2_habitValue_64 rfl) rfl
theorem dX2_habitValue_73 : decode cX2_habitValue 73 = .ok (.ireturn, 1) := do_172 (rdb (p := 64) (i := 9) ch_cX2_habitValue_64 rfl)
theorem dX2_hears_0 : decode cX2_hears 0 = .ok (.aload_n 0, 1) := by decide +kernel
theorem dX2_hears_1 : decode cX2_hears 1 = .ok (.iload_n 1, 1) := by decide +kernel
theorem dX2_hears_2 : decode cX2_hears 2 = .ok (.iload_n 3, 1) := by decide +kernel
theorem dX2_hears_3 : decode cX2_hears 3 = .ok (.iload 5, 2) := by decide +kernel
theorem dX2_hears_5 : decode cX2_hears 5 = .ok (.iload 4, 2) := by decide +kernel
theorem dX2_hears_7 : decode cX2_hears 7 = .ok (.invokestatic 65, 3) := by decide +kernel
theorem dX2_hears_10 : decode cX2_hears 10 = .ok (.aload_n 0, 1) := by decide +kernel
theorem dX2_hears_11 : decode cX2_hears 11 = .ok (.iload_n 2, 1) := by decide +kernel
theorem dX2_hears_12 : decode cX2_hears 12 = .ok (.iload_n 3, 1) := by decide +kernel
theorem dX2_hears_13 : decode cX2_hears 13 = .ok (.iload 4, 2) := by decide +kernel
theorem dX2_hears_15 : decode cX2_hears 15 = .ok (.invokevirtual 68, 3) := by decide +kernel
theorem dX2_hears_18 : decode cX2_hears 18 = .ok (.invokevirtual 72, 3) := by decide +kernel
theorem dX2_hears_21 : decode cX2_hears 21 = .ok (.ireturn, 1) := by decide +kernel
theorem dX2_isClick_0 : decode cX2_isClick 0 = .ok (.iload_n 0, 1) := by decide +kernel
theorem dX2_isClick_1 : decode cX2_isClick 1 = .ok (.iconst 1, 1) := by decide +kernel
theorem dX2_isClick_2 : decode cX2_isClick 2 = .ok (.bipush 9, 2) := by decide +kernel
theorem dX2_isClick_4 : decode cX2_isClick 4 = .ok (.invokestatic 38, 3) := by decide +kernel
theorem dX2_isClick_7 : decode cX2_isClick 7 = .ok (.ifCond .eq 17, 3) := by decide +kernel
theorem dX2_isClick_10 : decode cX2_isClick 10 = .ok (.iload_n 1, 1) := by decide +kernel
theorem dX2_isClick_11 : decode cX2_isClick 11 = .ok (.iconst 1, 1) := by decide +kernel
theorem dX2_isClick_12 : decode cX2_isClick 12 = .ok (.bipush 99, 2) := by decide +kernel
theorem dX2_isClick_14 : decode cX2_isClick 14 = .ok (.invokestatic 38, 3) := by decide +kernel
theorem dX2_isClick_17 : decode cX2_isClick 17 = .ok (.ifCond .eq 7, 3) := by decide +kernel
theorem dX2_isClick_20 : decode cX2_isClick 20 = .ok (.iconst 1, 1) := by decide +kernel
theorem dX2_isClick_21 : decode cX2_isClick 21 = .ok (.goto 4, 3) := by decide +kernel
theorem dX2_isClick_24 : decode cX2_isClick 24 = .ok (.iconst 0, 1) := by decide +kernel
theorem dX2_isClick_25 : decode cX2_isClick 25 = .ok (.ireturn, 1) := by decide +kernel
theorem dX2_isClick__0 : decode cX2_isClick_ 0 = .ok (.iload_n 0, 1) := by decide +kernel
theorem dX2_isClick__1 : decode cX2_isClick_ 1 = .ok (.ifCond .le 21, 3) := by decide +kernel
theorem dX2_isClick__4 : decode cX2_isClick_ 4 = .ok (.iload_n 0, 1) := by decide +kernel
theorem dX2_isClick__5 : decode cX2_isClick_ 5 = .ok (.bipush 100, 2) := by decide +kernel
theorem dX2_isClick__7 : decode cX2_isClick_ 7 = .ok (.idiv, 1) := by decide +kernel
theorem dX2_isClick__8 : decode cX2_isClick_ 8 = .ok (.iload_n 0, 1) := by decide +kernel
theorem dX2_isClick__9 : decode cX2_isClick_ 9 = .ok (.bipush 100, 2) := by decide +kernel
theorem dX2_isClick__11 : decode cX2_isClick_ 11 = .ok (.irem, 1) := by decide +kernel
theorem dX2_isClick__12 : decode cX2_isClick_ 12 = .ok (.invokestatic 44, 3) := by decide +kernel
theorem dX2_isClick__15 : decode cX2_isClick_ 15 = .ok (.ifCond .eq 7, 3) := by decide +kernel
theorem dX2_isClick__18 : decode cX2_isClick_ 18 = .ok (.iconst 1, 1) := by decide +kernel
theorem dX2_isClick__19 : decode cX2_isClick_ 19 = .ok (.goto 4, 3) := by decide +kernel
theorem dX2_isClick__22 : decode cX2_isClick_ 22 = .ok (.iconst 0, 1) := by decide +kernel
theorem dX2_isClick__23 : decode cX2_isClick_ 23 = .ok (.ireturn, 1) := by decide +kernel
theorem ch_cX2_isHeard_0 : (cX2_isHeard.data.toList.drop 0).take 36 = [28, 16, 100, 108, 27, 163, 0, 16, 29, 42, 180, 0, 13, 164, 0, 8, 21, 4, 154, 0, 5, 3, 172, 42, 180, 0, 30, 4, 50, 182, 0, 48, 154, 0, 18, 21] := by decide +kernel
theorem dX2_isHeard_0 : decode cX2_isHeard 0 = .ok (.iload_n 2, 1) := do_28 (rdb (p := 0) (i := 0) ch_cX2_isHeard_0 rfl)
theorem dX2_isHeard_1 : decode cX2_isHeard 1 = .ok (.bipush 100, 2) := do_16 (rdb (p := 0) (i := 1) ch_cX2_isHeard_0 rfl) (rdb (p := 0) (i := 2) ch_cX2_isHeard_0 rfl) (by decide +kernel)
theorem dX2_isHeard_3 : decode cX2_isHeard 3 = .ok (.idiv, 1) := do_108 (rdb (p := 0) (i := 3) ch_cX2_isHeard_0 rfl)
theorem dX2_isHeard_4 : decode cX2_isHeard 4 = .ok (.iload_n 1, 1) := do_27 (rdb (p := 0) (i := 4) ch_cX2_isHeard_0 rfl)
theorem dX2_isHeard_5 : decode cX2_isHeard 5 = .ok (.if_icmp .gt 16, 3) := do_163 (rdb (p := 0) (i := 5) ch_cX2_isHeard_0 rfl) (rdb (p := 0) (i := 6) ch_cX2_isHeard_0 rfl) (rdb (p := 0) (i := 7) ch_cX2_isHeard_0 rfl) (by decide +kernel)
theorem dX2_isHeard_8 : decode cX2_isHeard 8 = .ok (.iload_n 3, 1) := do_29 (rdb (p := 0) (i := 8) ch_cX2_isHeard_0 rfl)
theorem dX2_isHeard_9 : decode cX2_isHeard 9 = .ok (.aload_n 0, 1) := do_42 (rdb (p := 0) (i := 9) ch_cX2_isHeard_0 rfl)
theorem dX2_isHeard_10 : decode cX2_isHeard 10 = .ok (.getfield 13, 3) := do_180 (rdb (p := 0) (i := 10) ch_cX2_isHeard_0 rfl) (rdb (p := 0) (i := 11) ch_cX2_isHeard_0 rfl) (rdb (p := 0) (i := 12) ch_cX2_isHeard_0 rfl) rfl
theorem dX2_isHeard_13 : decode cX2_isHeard 13 = .ok (.if_icmp .le 8, 3) := do_164 (rdb (p := 0) (i := 13) ch_cX2_isHeard_0 rfl) (rdb (p := 0) (i := 14) ch_cX2_isHeard_0 rfl) (rdb (p := 0) (i := 15) ch_cX2_isHeard_0 rfl) (by decide +kernel)
theorem dX2_isHeard_16 : decode cX2_isHeard 16 = .ok (.iload 4, 2) := do_21 (rdb (p := 0) (i := 16) ch_cX2_isHeard_0 rfl) (rdb (p := 0) (i := 17) ch_cX2_isHeard_0 rfl)
theorem dX2_isHeard_18 : decode cX2_isHeard 18 = .ok (.ifCond .ne 5, 3) := do_154 (rdb (p := 0) (i := 18) ch_cX2_isHeard_0 rfl) (rdb (p := 0) (i := 19) ch_cX2_isHeard_0 rfl) (rdb (p := 0) (i := 20) ch_cX2_isHeard_0 rfl) (by decide +kernel)
theorem dX2_isHeard_21 : decode cX2_isHeard 21 = .ok (.iconst 0, 1) := do_3 (rdb (p := 0) (i := 21) ch_cX2_isHeard_0 rfl)
theorem dX2_isHeard_22 : decode cX2_isHeard 22 = .ok (.ireturn, 1) := do_172 (rdb (p := 0) (i := 22) ch_cX2_isHeard_0 rfl)
theorem dX2_isHeard_23 : decode cX2_isHeard 23 = .ok (.aload_n 0, 1) := do_42 (rdb (p := 0) (i := 23) ch_cX2_isHeard_0 rfl)
theorem dX2_isHeard_24 : decode cX2_isHeard 24 = .ok (.getfield 30, 3) := do_180 (rdb (p := 0) (i := 24) ch_cX2_isHeard_0 rfl) (rdb (p := 0) (i := 25) ch_cX2_isHeard_0 rfl) (rdb (p := 0) (i := 26) ch_cX2_isHeard_0 rfl) rfl
theorem dX2_isHeard_27 : decode cX2_isHeard 27 = .ok (.iconst 1, 1) := do_4 (rdb (p := 0) (i := 27) ch_cX2_isHeard_0 rfl)
theorem dX2_isHeard_28 : decode cX2_isHeard 28 = .ok (.aaload, 1) := do_50 (rdb (p := 0) (i := 28) ch_cX2_isHeard_0 rfl)
theorem dX2_isHeard_29 : decode cX2_isHeard 29 = .ok (.invokevirtual 48, 3) := do_182 (rdb (p := 0) (i := 29) ch_cX2_isHeard_0 rfl) (rdb (p := 0) (i := 30) ch_cX2_isHeard_0 rfl) (rdb (p := 0) (i := 31) ch_cX2_isHeard_0 rfl) rfl
theorem ch_cX2_isHeard_32 : (cX2_isHeard.data.toList.drop 32).take 36 = [154, 0, 18, 21, 4, 42, 180, 0, 7, 164, 0, 7, 4, 167, 0, 4, 3, 172, 42, 180, 0, 34, 3, 21, 4, 79, 42, 180, 0, 34, 4, 42, 180, 0, 7, 79] := by decide +kernel
theorem dX2_isHeard_32 : decode cX2_isHeard 32 = .ok (.ifCond .ne 18, 3) := do_154 (rdb (p := 32) (i := 0) ch_cX2_isHeard_32 rfl) (rdb (p := 32) (i := 1) ch_cX2_isHeard_32 rfl) (rdb (p := 32) (i := 2) ch_cX2_isHeard_32 rfl) (by decide +kernel)
theorem dX2_isHeard_35 : decode cX2_isHeard 35 = .ok (.iload 4, 2) := do_21 (rdb (p := 32) (i := 3) ch_cX2_isHeard_32 rfl) (rdb (p := 32) (i := 4) ch_cX2_isHeard_32 rfl)
theorem dX2_isHeard_37 : decode cX2_isHeard 37 = .ok (.aload_n 0, 1) := do_42 (rdb (p := 32) (i := 5) ch_cX2_isHeard_32 rfl)
theorem dX2_isHeard_38 : decode cX2_isHeard 38 = .ok (.getfield 7, 3) := do_180 (rdb (p := 32) (i := 6) ch_cX2_isHeard_32 rfl) (rdb (p := 32) (i := 7) ch_cX2_isHeard_32 rfl) (rdb (p := 32) (i := 8) ch_cX2_isHeard_32 rfl) rfl
theorem dX2_isHeard_41 : decode cX2_isHeard 41 = .ok (.if_icmp .le 7, 3) := do_164 (rdb (p := 32) (i := 9) ch_cX2_isHeard_32 rfl) (rdb (p := 32) (i := 10) ch_cX2_isHeard_32 rfl) (rdb (p := 32) (i := 11) ch_cX2_isHeard_32 rfl) (by decide +kernel)
theorem dX2_isHeard_44 : decode cX2_isHeard 44 = .ok (.iconst 1, 1) := do_4 (rdb (p := 32) (i := 12) ch_cX2_isHeard_32 rfl)
theorem dX2_isHeard_45 : decode cX2_isHeard 45 = .ok (.goto 4, 3) := do_167 (rdb (p := 32) (i := 13) ch_cX2_isHeard_32 rfl) (rdb (p := 32) (i := 14) ch_cX2_isHeard_32 rfl) (rdb (p := 32) (i := 15) ch_cX2_isHeard_32 rfl) (by decide +kernel)
theorem dX2_isHeard_48 : decode cX2_isHeard 48 = .ok (.iconst 0, 1) := do_3 (rdb (p := 32) (i := 16) ch_cX2_isHeard_32 rfl)
theorem dX2_isHeard_49 : decode cX2_isHeard 49 = .ok (.ireturn, 1) := do_172 (rdb (p := 32) (i := 17) ch_cX2_isHeard_32 rfl)
theorem dX2_isHeard_50 : decode cX2_isHeard 50 = .ok (.aload_n 0, 1) := do_42 (rdb (p := 32) (i := 18) ch_cX2_isHeard_32 rfl)
theorem dX2_isHeard_51 : decode cX2_isHeard 51 = .ok (.getfield 34, 3) := do_180 (rdb (p := 32) (i := 19) ch_cX2_isHeard_32 rfl) (rdb (p := 32) (i := 20) ch_cX2_isHeard_32 rfl) (rdb (p := 32) (i := 21) ch_cX2_isHeard_32 rfl) rfl
theorem dX2_isHeard_54 : decode cX2_isHeard 54 = .ok (.iconst 0, 1) := do_3 (rdb (p := 32) (i := 22) ch_cX2_isHeard_32 rfl)
theorem dX2_isHeard_55 : decode cX2_isHeard 55 = .ok (.iload 4, 2) := do_21 (rdb (p := 32) (i := 23) ch_cX2_isHeard_32 rfl) (rdb (p := 32) (i := 24) ch_cX2_isHeard_32 rfl)
theorem dX2_isHeard_57 : decode cX2_isHeard 57 = .ok (.iastore, 1) := do_79 (rdb (p := 32) (i := 25) ch_cX2_isHeard_32 rfl)
theorem dX2_isHeard_58 : decode cX2_isHeard 58 = .ok (.aload_n 0, 1) := do_42 (rdb (p := 32) (i := 26) ch_cX2_isHeard_32 rfl)
theorem dX2_isHeard_59 : decode cX2_isHeard 59 = .ok (.getfield 34, 3) := do_180 (rdb (p := 32) (i := 27) ch_cX2_isHeard_32 rfl) (rdb (p := 32) (i := 28) ch_cX2_isHeard_32 rfl) (rdb (p := 32) (i := 29) ch_cX2_isHeard_32 rfl) rfl
theorem dX2_isHeard_62 : decode cX2_isHeard 62 = .ok (.iconst 1, 1) := do_4 (rdb (p := 32) (i := 30) ch_cX2_isHeard_32 rfl)
theorem dX2_isHeard_63 : decode cX2_isHeard 63 = .ok (.aload_n 0, 1) := do_42 (rdb (p := 32) (i := 31) ch_cX2_isHeard_32 rfl)
theorem ch_cX2_isHeard_64 : (cX2_isHeard.data.toList.drop 64).take 36 = [180, 0, 7, 79, 42, 180, 0, 34, 5, 29, 79, 42, 180, 0, 30, 4, 50, 42, 180, 0, 34, 182, 0, 52, 153, 0, 7, 4, 167, 0, 4, 3, 172] := by decide +kernel
theorem dX2_isHeard_64 : decode cX2_isHeard 64 = .ok (.getfield 7, 3) := do_180 (rdb (p := 64) (i := 0) ch_cX2_isHeard_64 rfl) (rdb (p := 64) (i := 1) ch_cX2_isHeard_64 rfl) (rdb (p := 64) (i := 2) ch_cX2_isHeard_64 rfl) rfl
theorem dX2_isHeard_67 : decode cX2_isHeard 67 = .ok (.iastore, 1) := do_79 (rdb (p := 64) (i := 3) ch_cX2_isHeard_64 rfl)
theorem dX2_isHeard_68 : decode cX2_isHeard 68 = .ok (.aload_n 0, 1) := do_42 (rdb (p := 64) (i := 4) ch_cX2_isHeard_64 rfl)
theorem dX2_isHeard_69 : decode cX2_isHeard 69 = .ok (.getfield 34, 3) := do_180 (rdb (p := 64) (i := 5) ch_cX2_isHeard_64 rfl) (rdb (p := 64) (i := 6) ch_cX2_isHeard_64 rfl) (rdb (p := 64) (i := 7) ch_cX2_isHeard_64 rfl) rfl
theorem dX2_isHeard_72 : decode cX2_isHeard 72 = .ok (.iconst 2, 1) := do_5 (rdb (p := 64) (i := 8) ch_cX2_isHeard_64 rfl)
theorem dX2_isHeard_73 : decode cX2_isHeard 73 = .ok (.iload_n 3, 1) := do_29 (rdb (p := 64) (i := 9) ch_cX2_isHeard_64 rfl)
theorem dX2_isHeard_74 : decode cX2_isHeard 74 = .ok (.iastore, 1) := do_79 (rdb (p := 64) (i := 10) ch_cX2_isHeard_64 rfl)
theorem dX2_isHeard_75 : decode cX2_isHeard 75 = .ok (.aload_n 0, 1) := do_42 (rdb (p := 64) (i := 11) ch_cX2_isHeard_64 rfl)
theorem dX2_isHeard_76 : decode cX2_isHeard 76 = .ok (.getfield 30, 3) := do_180 (rdb (p := 64) (i := 12) ch_cX2_isHeard_64 rfl) (rdb (p := 64) (i := 13) ch_cX2_isHeard_64 rfl) (rdb (p := 64) (i := 14) ch_cX2_isHeard_64 rfl) rfl
theorem dX2_isHeard_79 : decode cX2_isHeard 79 = .ok (.iconst 1, 1) := do_4 (rdb (p := 64) (i := 15) ch_cX2_isHeard_64 rfl)
theorem dX2_isHeard_80 : decode cX2_isHeard 80 = .ok (.aaload, 1) := do_50 (rdb (p := 64) (i := 16) ch_cX2_isHeard_64 rfl)
theorem dX2_isHeard_81 : decode cX2_isHeard 81 = .ok (.aload_n 0, 1) := do_42 (rdb (p := 64) (i := 17) ch_cX2_isHeard_64 rfl)
theorem dX2_isHeard_82 : decode cX2_isHeard 82 = .ok (.getfield 34, 3) := do_180 (rdb (p := 64) (i := 18) ch_cX2_isHeard_64 rfl) (rdb (p := 64) (i := 19) ch_cX2_isHeard_64 rfl) (rdb (p := 64) (i := 20) ch_cX2_isHeard_64 rfl) rfl
theorem dX2_isHeard_85 : decode cX2_isHeard 85 = .ok (.invokevirtual 52, 3) := do_182 (rdb (p := 64) (i := 21) ch_cX2_isHeard_64 rfl) (rdb (p := 64) (i := 22) ch_cX2_isHeard_64 rfl) (rdb (p := 64) (i := 23) ch_cX2_isHeard_64 rfl) rfl
theorem dX2_isHeard_88 : decode cX2_isHeard 88 = .ok (.ifCond .eq 7, 3) := do_153 (rdb (p := 64) (i := 24) ch_cX2_isHeard_64 rfl) (rdb (p := 64) (i := 25) ch_cX2_isHeard_64 rfl) (rdb (p := 64) (i := 26) ch_cX2_isHeard_64 rfl) (by decide +kernel)
theorem dX2_isHeard_91 : decode cX2_isHeard 91 = .ok (.iconst 1, 1) := do_4 (rdb (p := 64) (i := 27) ch_cX2_isHeard_64 rfl)
theorem dX2_isHeard_92 : decode cX2_isHeard 92 = .ok (.goto 4, 3) := do_167 (rdb (p := 64) (i := 28) ch_cX2_isHeard_64 rfl) (rdb (p := 64) (i := 29) ch_cX2_isHeard_64 rfl) (rdb (p := 64) (i := 30) ch_cX2_isHeard_64 rfl) (by decide +kernel)
theorem dX2_isHeard_95 : decode cX2_isHeard 95 = .ok (.iconst 0, 1) := do_3 (rdb (p := 64) (i := 31) ch_cX2_isHeard_64 rfl)
theorem ch_cX2_isHeard_96 : (cX2_isHeard.data.toList.drop 96).take 36 = [172] := by decide +kernel
theorem dX2_isHeard_96 : decode cX2_isHeard 96 = .ok (.ireturn, 1) := do_172 (rdb (p := 96) (i := 0) ch_cX2_isHeard_96 rfl)
theorem ch_cX2_kindsAlike_0 : (cX2_kindsAlike.data.toList.drop 0).take 36 = [3, 54, 6, 3, 54, 7, 21, 7, 8, 162, 0, 45, 42, 21, 7, 28, 29, 182, 0, 68, 21, 5, 160, 0, 26, 42, 27, 21, 7, 28, 29, 21, 4, 182, 0, 76] := by decide +kernel
theorem dX2_kindsAlike_0 : decode cX2_kindsAlike 0 = .ok (.iconst 0, 1) := do_3 (rdb (p := 0) (i := 0) ch_cX2_kindsAlike_0 rfl)
theorem dX2_kindsAlike_1 : decode cX2_kindsAlike 1 = .ok (.istore 6, 2) := do_54 (rdb (p := 0) (i := 1) ch_cX2_kindsAlike_0 rfl) (rdb (p := 0) (i := 2) ch_cX2_kindsAlike_0 rfl)
theorem dX2_kindsAlike_3 : decode cX2_kindsAlike 3 = .ok (.iconst 0, 1) := do_3 (rdb (p := 0) (i := 3) ch_cX2_kindsAlike_0 rfl)
theorem dX2_kindsAlike_4 : decode cX2_kindsAlike 4 = .ok (.istore 7, 2) := do_54 (rdb (p := 0) (i := 4) ch_cX2_kindsAlike_0 rfl) (rdb (p := 0) (i := 5) ch_cX2_kindsAlike_0 rfl)
theorem dX2_kindsAlike_6 : decode cX2_kindsAlike 6 = .ok (.iload 7, 2) := do_21 (rdb (p := 0) (i := 6) ch_cX2_kindsAlike_0 rfl) (rdb (p := 0) (i := 7) ch_cX2_kindsAlike_0 rfl)
theorem dX2_kindsAlike_8 : decode cX2_kindsAlike 8 = .ok (.iconst 5, 1) := do_8 (rdb (p := 0) (i := 8) ch_cX2_kindsAlike_0 rfl)
theorem dX2_kindsAlike_9 : decode cX2_kindsAlike 9 = .ok (.if_icmp .ge 45, 3) := do_162 (rdb (p := 0) (i := 9) ch_cX2_kindsAlike_0 rfl) (rdb (p := 0) (i := 10) ch_cX2_kindsAlike_0 rfl) (rdb (p := 0) (i := 11) ch_cX2_kindsAlike_0 rfl) (by decide +kernel)
theorem dX2_kindsAlike_12 : decode cX2_kindsAlike 12 = .ok (.aload_n 0, 1) := do_42 (rdb (p := 0) (i := 12) ch_cX2_kindsAlike_0 rfl)
theorem dX2_kindsAlike_13 : decode cX2_kindsAlike 13 = .ok (.iload 7, 2) := do_21 (rdb (p := 0) (i := 13) ch_cX2_kindsAlike_0 rfl) (rdb (p := 0) (i := 14) ch_cX2_kindsAlike_0 rfl)
theorem dX2_kindsAlike_15 : decode cX2_kindsAlike 15 = .ok (.iload_n 2, 1) := do_28 (rdb (p := 0) (i := 15) ch_cX2_kindsAlike_0 rfl)
theorem dX2_kindsAlike_16 : decode cX2_kindsAlike 16 = .ok (.iload_n 3, 1) := do_29 (rdb (p := 0) (i := 16) ch_cX2_kindsAlike_0 rfl)
theorem dX2_kindsAlike_17 : decode cX2_kindsAlike 17 = .ok (.invokevirtual 68, 3) := do_182 (rdb (p := 0) (i := 17) ch_cX2_kindsAlike_0 rfl) (rdb (p := 0) (i := 18) ch_cX2_kindsAlike_0 rfl) (rdb (p := 0) (i := 19) ch_cX2_kindsAlike_0 rfl) rfl
theorem dX2_kindsAlike_20 : decode cX2_kindsAlike 20 = .ok (.iload 5, 2) := do_21 (rdb (p := 0) (i := 20) ch_cX2_kindsAlike_0 rfl) (rdb (p := 0) (i := 21) ch_cX2_kindsAlike_0 rfl)
theorem dX2_kindsAlike_22 : decode cX2_kindsAlike 22 = .ok (.if_icmp .ne 26, 3) := do_160 (rdb (p := 0) (i := 22) ch_cX2_kindsAlike_0 rfl) (rdb (p := 0) (i := 23) ch_cX2_kindsAlike_0 rfl) (rdb (p := 0) (i := 24) ch_cX2_kindsAlike_0 rfl) (by decide +kernel)
theorem dX2_kindsAlike_25 : decode cX2_kindsAlike 25 = .ok (.aload_n 0, 1) := do_42 (rdb (p := 0) (i := 25) ch_cX2_kindsAlike_0 rfl)
theorem dX2_kindsAlike_26 : decode cX2_kindsAlike 26 = .ok (.iload_n 1, 1) := do_27 (rdb (p := 0) (i := 26) ch_cX2_kindsAlike_0 rfl)
theorem dX2_kindsAlike_27 : decode cX2_kindsAlike 27 = .ok (.iload 7, 2) := do_21 (rdb (p := 0) (i := 27) ch_cX2_kindsAlike_0 rfl) (rdb (p := 0) (i := 28) ch_cX2_kindsAlike_0 rfl)
theorem dX2_kindsAlike_29 : decode cX2_kindsAlike 29 = .ok (.iload_n 2, 1) := do_28 (rdb (p := 0) (i := 29) ch_cX2_kindsAlike_0 rfl)
theorem dX2_kindsAlike_30 : decode cX2_kindsAlike 30 = .ok (.iload_n 3, 1) := do_29 (rdb (p := 0) (i := 30) ch_cX2_kindsAlike_0 rfl)
theorem dX2_kindsAlike_31 : decode cX2_kindsAlike 31 = .ok (.iload 4, 2) := do_21 (rdb (p := 0) (i := 31) ch_cX2_kindsAlike_0 rfl) (rdb (p := 0) (i := 32) ch_cX2_kindsAlike_0 rfl)
theorem ch_cX2_kindsAlike_32 : (cX2_kindsAlike.data.toList.drop 32).take 36 = [4, 182, 0, 76, 153, 0, 12, 21, 6, 4, 21, 7, 120, 128, 54, 6, 132, 7, 1, 167, 255, 211, 21, 6, 172] := by decide +kernel
theorem dX2_kindsAlike_33 : decode cX2_kindsAlike 33 = .ok (.invokevirtual 76, 3) := do_182 (rdb (p := 32) (i := 1) ch_cX2_kindsAlike_32 rfl) (rdb (p := 32) (i := 2) ch_cX2_kindsAlike_32 rfl) (rdb (p := 32) (i := 3) ch_cX2_kindsAlike_32 rfl) rfl
theorem dX2_kindsAlike_36 : decode cX2_kindsAlike 36 = .ok (.ifCond .eq 12, 3) := do_153 (rdb (p := 32) (i := 4) ch_cX2_kindsAlike_32 rfl) (rdb (p := 32) (i := 5) ch_cX2_kindsAlike_32 rfl) (rdb (p := 32) (i := 6) ch_cX2_kindsAlike_32 rfl) (by decide +kernel)
theorem dX2_kindsAlike_39 : decode cX2_kindsAlike 39 = .ok (.iload 6, 2) := do_21 (rdb (p := 32) (i := 7) ch_cX2_kindsAlike_32 rfl) (rdb (p := 32) (i := 8) ch_cX2_kindsAlike_32 rfl)
theorem dX2_kindsAlike_41 : decode cX2_kindsAlike 41 = .ok (.iconst 1, 1) := do_4 (rdb (p := 32) (i := 9) ch_cX2_kindsAlike_32 rfl)
theorem dX2_kindsAlike_42 : decode cX2_kindsAlike 42 = .ok (.iload 7, 2) := do_21 (rdb (p := 32) (i := 10) ch_cX2_kindsAlike_32 rfl) (rdb (p := 32) (i := 11) ch_cX2_kindsAlike_32 rfl)
theorem dX2_kindsAlike_44 : decode cX2_kindsAlike 44 = .ok (.ishl, 1) := do_120 (rdb (p := 32) (i := 12) ch_cX2_kindsAlike_32 rfl)
theorem dX2_kindsAlike_45 : decode cX2_kindsAlike 45 = .ok (.ior, 1) := do_128 (rdb (p := 32) (i := 13) ch_cX2_kindsAlike_32 rfl)
theorem dX2_kindsAlike_46 : decode cX2_kindsAlike 46 = .ok (.istore 6, 2) := do_54 (rdb (p := 32) (i := 14) ch_cX2_kindsAlike_32 rfl) (rdb (p := 32) (i := 15) ch_cX2_kindsAlike_32 rfl)
theorem dX2_kindsAlike_48 : decode cX2_kindsAlike 48 = .ok (.iinc 7 1, 3) := do_132 (rdb (p := 32) (i := 16) ch_cX2_kindsAlike_32 rfl) (rdb (p := 32) (i := 17) ch_cX2_kindsAlike_32 rfl) (rdb (p := 32) (i := 18) ch_cX2_kindsAlike_32 rfl) (by decide +kernel)
theorem dX2_kindsAlike_51 : decode cX2_kindsAlike 51 = .ok (.goto (-45), 3) := do_167 (rdb (p := 32) (i := 19) ch_cX2_kindsAlike_32 rfl) (rdb (p := 32) (i := 20) ch_cX2_kindsAlike_32 rfl) (rdb (p := 32) (i := 21) ch_cX2_kindsAlike_32 rfl) (by decide +kernel)
theorem dX2_kindsAlike_54 : decode cX2_kindsAlike 54 = .ok (.iload 6, 2) := do_21 (rdb (p := 32) (i := 22) ch_cX2_kindsAlike_32 rfl) (rdb (p := 32) (i := 23) ch_cX2_kindsAlike_32 rfl)
theorem dX2_kindsAlike_56 : decode cX2_kindsAlike 56 = .ok (.ireturn, 1) := do_172 (rdb (p := 32) (i := 24) ch_cX2_kindsAlike_32 rfl)
theorem dX2_late_0 : decode cX2_late 0 = .ok (.iload_n 1, 1) := by decide +kernel
theorem dX2_late_1 : decode cX2_late 1 = .ok (.iload_n 0, 1) := by decide +kernel
theorem dX2_late_2 : decode cX2_late 2 = .ok (.iconst 1, 1) := by decide +kernel
theorem dX2_late_3 : decode cX2_late 3 = .ok (.iand, 1) := by decide +kernel
theorem dX2_late_4 : decode cX2_late 4 = .ok (.iconst 1, 1) := by decide +kernel
theorem dX2_late_5 : decode cX2_late 5 = .ok (.if_icmp .ne 8, 3) := by decide +kernel
theorem dX2_late_8 : decode cX2_late 8 = .ok (.bipush 8, 2) := by decide +kernel
theorem dX2_late_10 : decode cX2_late 10 = .ok (.goto 5, 3) := by decide +kernel
theorem dX2_late_13 : decode cX2_late 13 = .ok (.bipush 6, 2) := by decide +kernel
theorem dX2_late_15 : decode cX2_late 15 = .ok (.imul, 1) := by decide +kernel
theorem dX2_late_16 : decode cX2_late 16 = .ok (.ireturn, 1) := by decide +kernel
theorem ch_cX2_leastLoudness_0 : (cX2_leastLoudness.data.toList.drop 0).take 36 = [4, 54, 4, 21, 4, 16, 99, 163, 0, 35, 42, 27, 28, 16, 100, 16, 9, 27, 184, 0, 56, 104, 21, 4, 96, 29, 3, 182, 0, 76, 153, 0, 6, 21, 4, 172] := by decide +kernel
theorem dX2_leastLoudness_0 : decode cX2_leastLoudness 0 = .ok (.iconst 1, 1) := do_4 (rdb (p := 0) (i := 0) ch_cX2_leastLoudness_0 rfl)
theorem dX2_leastLoudness_1 : decode cX2_leastLoudness 1 = .ok (.istore 4, 2) := do_54 (rdb (p := 0) (i := 1) ch_cX2_leastLoudness_0 rfl) (rdb (p := 0) (i := 2) ch_cX2_leastLoudness_0 rfl)
theorem dX2_leastLoudness_3 : decode cX2_leastLoudness 3 = .ok (.iload 4, 2) := do_21 (rdb (p := 0) (i := 3) ch_cX2_leastLoudness_0 rfl) (rdb (p := 0) (i := 4) ch_cX2_leastLoudness_0 rfl)
theorem dX2_leastLoudness_5 : decode cX2_leastLoudness 5 = .ok (.bipush 99, 2) := do_16 (rdb (p := 0) (i := 5) ch_cX2_leastLoudness_0 rfl) (rdb (p := 0) (i := 6) ch_cX2_leastLoudness_0 rfl) (by decide +kernel)
theorem dX2_leastLoudness_7 : decode cX2_leastLoudness 7 = .ok (.if_icmp .gt 35, 3) := do_163 (rdb (p := 0) (i := 7) ch_cX2_leastLoudness_0 rfl) (rdb (p := 0) (i := 8) ch_cX2_leastLoudness_0 rfl) (rdb (p := 0) (i := 9) ch_cX2_leastLoudness_0 rfl) (by decide +kernel)
theorem dX2_leastLoudness_10 : decode cX2_leastLoudness 10 = .ok (.aload_n 0, 1) := do_42 (rdb (p := 0) (i := 10) ch_cX2_leastLoudness_0 rfl)
theorem dX2_leastLoudness_11 : decode cX2_leastLoudness 11 = .ok (.iload_n 1, 1) := do_27 (rdb (p := 0) (i := 11) ch_cX2_leastLoudness_0 rfl)
theorem dX2_leastLoudness_12 : decode cX2_leastLoudness 12 = .ok (.iload_n 2, 1) := do_28 (rdb (p := 0) (i := 12) ch_cX2_leastLoudness_0 rfl)
theorem dX2_leastLoudness_13 : decode cX2_leastLoudness 13 = .ok (.bipush 100, 2) := do_16 (rdb (p := 0) (i := 13) ch_cX2_leastLoudness_0 rfl) (rdb (p := 0) (i := 14) ch_cX2_leastLoudness_0 rfl) (by decide +kernel)
theorem dX2_leastLoudness_15 : decode cX2_leastLoudness 15 = .ok (.bipush 9, 2) := do_16 (rdb (p := 0) (i := 15) ch_cX2_leastLoudness_0 rfl) (rdb (p := 0) (i := 16) ch_cX2_leastLoudness_0 rfl) (by decide +kernel)
theorem dX2_leastLoudness_17 : decode cX2_leastLoudness 17 = .ok (.iload_n 1, 1) := do_27 (rdb (p := 0) (i := 17) ch_cX2_leastLoudness_0 rfl)
theorem dX2_leastLoudness_18 : decode cX2_leastLoudness 18 = .ok (.invokestatic 56, 3) := do_184 (rdb (p := 0) (i := 18) ch_cX2_leastLoudness_0 rfl) (rdb (p := 0) (i := 19) ch_cX2_leastLoudness_0 rfl) (rdb (p := 0) (i := 20) ch_cX2_leastLoudness_0 rfl) rfl
theorem dX2_leastLoudness_21 : decode cX2_leastLoudness 21 = .ok (.imul, 1) := do_104 (rdb (p := 0) (i := 21) ch_cX2_leastLoudness_0 rfl)
theorem dX2_leastLoudness_22 : decode cX2_leastLoudness 22 = .ok (.iload 4, 2) := do_21 (rdb (p := 0) (i := 22) ch_cX2_leastLoudness_0 rfl) (rdb (p := 0) (i := 23) ch_cX2_leastLoudness_0 rfl)
theorem dX2_leastLoudness_24 : decode cX2_leastLoudness 24 = .ok (.iadd, 1) := do_96 (rdb (p := 0) (i := 24) ch_cX2_leastLoudness_0 rfl)
theorem dX2_leastLoudness_25 : decode cX2_leastLoudness 25 = .ok (.iload_n 3, 1) := do_29 (rdb (p := 0) (i := 25) ch_cX2_leastLoudness_0 rfl)
theorem dX2_leastLoudness_26 : decode cX2_leastLoudness 26 = .ok (.iconst 0, 1) := do_3 (rdb (p := 0) (i := 26) ch_cX2_leastLoudness_0 rfl)
theorem dX2_leastLoudness_27 : decode cX2_leastLoudness 27 = .ok (.invokevirtual 76, 3) := do_182 (rdb (p := 0) (i := 27) ch_cX2_leastLoudness_0 rfl) (rdb (p := 0) (i := 28) ch_cX2_leastLoudness_0 rfl) (rdb (p := 0) (i := 29) ch_cX2_leastLoudness_0 rfl) rfl
theorem dX2_leastLoudness_30 : decode cX2_leastLoudness 30 = .ok (.ifCond .eq 6, 3) := do_153 (rdb (p := 0) (i := 30) ch_cX2_leastLoudness_0 rfl) (rdb (p := 0) (i := 31) ch_cX2_leastLoudness_0 rfl) (rdb (p := 0) (i := 32) ch_cX2_leastLoudness_0 rfl) (by decide +kernel)
theorem ch_cX2_leastLoudness_32 : (cX2_leastLoudness.data.toList.drop 32).take 36 = [6, 21, 4, 172, 132, 4, 1, 167, 255, 220, 3, 172] := by decide +kernel
theorem dX2_leastLoudness_33 : decode cX2_leastLoudness 33 = .ok (.iload 4, 2) := do_21 (rdb (p := 32) (i := 1) ch_cX2_leastLoudness_32 rfl) (rdb (p := 32) (i := 2) ch_cX2_leastLoudness_32 rfl)
theorem dX2_leastLoudness_35 : decode cX2_leastLoudness 35 = .ok (.ireturn, 1) := do_172 (rdb (p := 32) (i := 3) ch_cX2_leastLoudness_32 rfl)
theorem dX2_leastLoudness_36 : decode cX2_leastLoudness 36 = .ok (.iinc 4 1, 3) := do_132 (rdb (p := 32) (i := 4) ch_cX2_leastLoudness_32 rfl) (rdb (p := 32) (i := 5) ch_cX2_leastLoudness_32 rfl) (rdb (p := 32) (i := 6) ch_cX2_leastLoudness_32 rfl) (by decide +kernel)
theorem dX2_leastLoudness_39 : decode cX2_leastLoudness 39 = .ok (.goto (-36), 3) := do_167 (rdb (p := 32) (i := 7) ch_cX2_leastLoudness_32 rfl) (rdb (p := 32) (i := 8) ch_cX2_leastLoudness_32 rfl) (rdb (p := 32) (i := 9) ch_cX2_leastLoudness_32 rfl) (by decide +kernel)
theorem dX2_leastLoudness_42 : decode cX2_leastLoudness 42 = .ok (.iconst 0, 1) := do_3 (rdb (p := 32) (i := 10) ch_cX2_leastLoudness_32 rfl)
theorem dX2_leastLoudness_43 : decode cX2_leastLoudness 43 = .ok (.ireturn, 1) := do_172 (rdb (p := 32) (i := 11) ch_cX2_leastLoudness_32 rfl)
theorem dX2_leastPitch_0 : decode cX2_leastPitch 0 = .ok (.iconst 1, 1) := by decide +kernel
theorem dX2_leastPitch_1 : decode cX2_leastPitch 1 = .ok (.istore 4, 2) := by decide +kernel
theorem dX2_leastPitch_3 : decode cX2_leastPitch 3 = .ok (.iload 4, 2) := by decide +kernel
theorem dX2_leastPitch_5 : decode cX2_leastPitch 5 = .ok (.bipush 9, 2) := by decide +kernel
theorem dX2_leastPitch_7 : decode cX2_leastPitch 7 = .ok (.if_icmp .gt 31, 3) := by decide +kernel
theorem dX2_leastPitch_10 : decode cX2_leastPitch 10 = .ok (.aload_n 0, 1) := by decide +kernel
theorem dX2_leastPitch_11 : decode cX2_leastPitch 11 = .ok (.iload_n 1, 1) := by decide +kernel
theorem dX2_leastPitch_12 : decode cX2_leastPitch 12 = .ok (.iload_n 2, 1) := by decide +kernel
theorem dX2_leastPitch_13 : decode cX2_leastPitch 13 = .ok (.bipush 100, 2) := by decide +kernel
theorem dX2_leastPitch_15 : decode cX2_leastPitch 15 = .ok (.iload 4, 2) := by decide +kernel
theorem dX2_leastPitch_17 : decode cX2_leastPitch 17 = .ok (.imul, 1) := by decide +kernel
theorem dX2_leastPitch_18 : decode cX2_leastPitch 18 = .ok (.bipush 99, 2) := by decide +kernel
theorem dX2_leastPitch_20 : decode cX2_leastPitch 20 = .ok (.iadd, 1) := by decide +kernel
theorem dX2_leastPitch_21 : decode cX2_leastPitch 21 = .ok (.iload_n 3, 1) := by decide +kernel
theorem dX2_leastPitch_22 : decode cX2_leastPitch 22 = .ok (.iconst 0, 1) := by decide +kernel
theorem dX2_leastPitch_23 : decode cX2_leastPitch 23 = .ok (.invokevirtual 76, 3) := by decide +kernel
theorem dX2_leastPitch_26 : decode cX2_leastPitch 26 = .ok (.ifCond .eq 6, 3) := by decide +kernel
theorem dX2_leastPitch_29 : decode cX2_leastPitch 29 = .ok (.iload 4, 2) := by decide +kernel
theorem dX2_leastPitch_31 : decode cX2_leastPitch 31 = .ok (.ireturn, 1) := by decide +kernel
theorem dX2_leastPitch_32 : decode cX2_leastPitch 32 = .ok (.iinc 4 1, 3) := by decide +kernel
theorem dX2_leastPitch_35 : decode cX2_leastPitch 35 = .ok (.goto (-32), 3) := by decide +kernel
theorem dX2_leastPitch_38 : decode cX2_leastPitch 38 = .ok (.iconst 0, 1) := by decide +kernel
theorem dX2_leastPitch_39 : decode cX2_leastPitch 39 = .ok (.ireturn, 1) := by decide +kernel
theorem ch_cX2_strength_0 : (cX2_strength.data.toList.drop 0).take 36 = [28, 16, 100, 108, 54, 4, 28, 16, 100, 112, 54, 5, 27, 155, 0, 19, 27, 8, 162, 0, 14, 42, 180, 0, 25, 27, 46, 21, 4, 164, 0, 5, 3, 172, 21, 5] := by decide +kernel
theorem dX2_strength_0 : decode cX2_strength 0 = .ok (.iload_n 2, 1) := do_28 (rdb (p := 0) (i := 0) ch_cX2_strength_0 rfl)
theorem dX2_strength_1 : decode cX2_strength 1 = .ok (.bipush 100, 2) := do_16 (rdb (p := 0) (i := 1) ch_cX2_strength_0 rfl) (rdb (p := 0) (i := 2) ch_cX2_strength_0 rfl) (by decide +kernel)
theorem dX2_strength_3 : decode cX2_strength 3 = .ok (.idiv, 1) := do_108 (rdb (p := 0) (i := 3) ch_cX2_strength_0 rfl)
theorem dX2_strength_4 : decode cX2_strength 4 = .ok (.istore 4, 2) := do_54 (rdb (p := 0) (i := 4) ch_cX2_strength_0 rfl) (rdb (p := 0) (i := 5) ch_cX2_strength_0 rfl)
theorem dX2_strength_6 : decode cX2_strength 6 = .ok (.iload_n 2, 1) := do_28 (rdb (p := 0) (i := 6) ch_cX2_strength_0 rfl)
theorem dX2_strength_7 : decode cX2_strength 7 = .ok (.bipush 100, 2) := do_16 (rdb (p := 0) (i := 7) ch_cX2_strength_0 rfl) (rdb (p := 0) (i := 8) ch_cX2_strength_0 rfl) (by decide +kernel)
theorem dX2_strength_9 : decode cX2_strength 9 = .ok (.irem, 1) := do_112 (rdb (p := 0) (i := 9) ch_cX2_strength_0 rfl)
theorem dX2_strength_10 : decode cX2_strength 10 = .ok (.istore 5, 2) := do_54 (rdb (p := 0) (i := 10) ch_cX2_strength_0 rfl) (rdb (p := 0) (i := 11) ch_cX2_strength_0 rfl)
theorem dX2_strength_12 : decode cX2_strength 12 = .ok (.iload_n 1, 1) := do_27 (rdb (p := 0) (i := 12) ch_cX2_strength_0 rfl)
theorem dX2_strength_13 : decode cX2_strength 13 = .ok (.ifCond .lt 19, 3) := do_155 (rdb (p := 0) (i := 13) ch_cX2_strength_0 rfl) (rdb (p := 0) (i := 14) ch_cX2_strength_0 rfl) (rdb (p := 0) (i := 15) ch_cX2_strength_0 rfl) (by decide +kernel)
theorem dX2_strength_16 : decode cX2_strength 16 = .ok (.iload_n 1, 1) := do_27 (rdb (p := 0) (i := 16) ch_cX2_strength_0 rfl)
theorem dX2_strength_17 : decode cX2_strength 17 = .ok (.iconst 5, 1) := do_8 (rdb (p := 0) (i := 17) ch_cX2_strength_0 rfl)
theorem dX2_strength_18 : decode cX2_strength 18 = .ok (.if_icmp .ge 14, 3) := do_162 (rdb (p := 0) (i := 18) ch_cX2_strength_0 rfl) (rdb (p := 0) (i := 19) ch_cX2_strength_0 rfl) (rdb (p := 0) (i := 20) ch_cX2_strength_0 rfl) (by decide +kernel)
theorem dX2_strength_21 : decode cX2_strength 21 = .ok (.aload_n 0, 1) := do_42 (rdb (p := 0) (i := 21) ch_cX2_strength_0 rfl)
theorem dX2_strength_22 : decode cX2_strength 22 = .ok (.getfield 25, 3) := do_180 (rdb (p := 0) (i := 22) ch_cX2_strength_0 rfl) (rdb (p := 0) (i := 23) ch_cX2_strength_0 rfl) (rdb (p := 0) (i := 24) ch_cX2_strength_0 rfl) rfl
theorem dX2_strength_25 : decode cX2_strength 25 = .ok (.iload_n 1, 1) := do_27 (rdb (p := 0) (i := 25) ch_cX2_strength_0 rfl)
theorem dX2_strength_26 : decode cX2_strength 26 = .ok (.iaload, 1) := do_46 (rdb (p := 0) (i := 26) ch_cX2_strength_0 rfl)
theorem dX2_strength_27 : decode cX2_strength 27 = .ok (.iload 4, 2) := do_21 (rdb (p := 0) (i := 27) ch_cX2_strength_0 rfl) (rdb (p := 0) (i := 28) ch_cX2_strength_0 rfl)
theorem dX2_strength_29 : decode cX2_strength 29 = .ok (.if_icmp .le 5, 3) := do_164 (rdb (p := 0) (i := 29) ch_cX2_strength_0 rfl) (rdb (p := 0) (i := 30) ch_cX2_strength_0 rfl) (rdb (p := 0) (i := 31) ch_cX2_strength_0 rfl) (by decide +kernel)
theorem ch_cX2_strength_32 : (cX2_strength.data.toList.drop 32).take 36 = [3, 172, 21, 5, 42, 180, 0, 21, 27, 46, 104, 16, 50, 108, 5, 29, 104, 100, 54, 6, 42, 180, 0, 30, 3, 50, 182, 0, 48, 153, 0, 53, 42, 180, 0, 34] := by decide +kernel
theorem dX2_strength_32 : decode cX2_strength 32 = .ok (.iconst 0, 1) := do_3 (rdb (p := 32) (i := 0) ch_cX2_strength_32 rfl)
theorem dX2_strength_33 : decode cX2_strength 33 = .ok (.ireturn, 1) := do_172 (rdb (p := 32) (i := 1) ch_cX2_strength_32 rfl)
theorem dX2_strength_34 : decode cX2_strength 34 = .ok (.iload 5, 2) := do_21 (rdb (p := 32) (i := 2) ch_cX2_strength_32 rfl) (rdb (p := 32) (i := 3) ch_cX2_strength_32 rfl)
theorem dX2_strength_36 : decode cX2_strength 36 = .ok (.aload_n 0, 1) := do_42 (rdb (p := 32) (i := 4) ch_cX2_strength_32 rfl)
theorem dX2_strength_37 : decode cX2_strength 37 = .ok (.getfield 21, 3) := do_180 (rdb (p := 32) (i := 5) ch_cX2_strength_32 rfl) (rdb (p := 32) (i := 6) ch_cX2_strength_32 rfl) (rdb (p := 32) (i := 7) ch_cX2_strength_32 rfl) rfl
theorem dX2_strength_40 : decode cX2_strength 40 = .ok (.iload_n 1, 1) := do_27 (rdb (p := 32) (i := 8) ch_cX2_strength_32 rfl)
theorem dX2_strength_41 : decode cX2_strength 41 = .ok (.iaload, 1) := do_46 (rdb (p := 32) (i := 9) ch_cX2_strength_32 rfl)
theorem dX2_strength_42 : decode cX2_strength 42 = .ok (.imul, 1) := do_104 (rdb (p := 32) (i := 10) ch_cX2_strength_32 rfl)
theorem dX2_strength_43 : decode cX2_strength 43 = .ok (.bipush 50, 2) := do_16 (rdb (p := 32) (i := 11) ch_cX2_strength_32 rfl) (rdb (p := 32) (i := 12) ch_cX2_strength_32 rfl) (by decide +kernel)
theorem dX2_strength_45 : decode cX2_strength 45 = .ok (.idiv, 1) := do_108 (rdb (p := 32) (i := 13) ch_cX2_strength_32 rfl)
theorem dX2_strength_46 : decode cX2_strength 46 = .ok (.iconst 2, 1) := do_5 (rdb (p := 32) (i := 14) ch_cX2_strength_32 rfl)
theorem dX2_strength_47 : decode cX2_strength 47 = .ok (.iload_n 3, 1) := do_29 (rdb (p := 32) (i := 15) ch_cX2_strength_32 rfl)
theorem dX2_strength_48 : decode cX2_strength 48 = .ok (.imul, 1) := do_104 (rdb (p := 32) (i := 16) ch_cX2_strength_32 rfl)
theorem dX2_strength_49 : decode cX2_strength 49 = .ok (.isub, 1) := do_100 (rdb (p := 32) (i := 17) ch_cX2_strength_32 rfl)
theorem dX2_strength_50 : decode cX2_strength 50 = .ok (.istore 6, 2) := do_54 (rdb (p := 32) (i := 18) ch_cX2_strength_32 rfl) (rdb (p := 32) (i := 19) ch_cX2_strength_32 rfl)
theorem dX2_strength_52 : decode cX2_strength 52 = .ok (.aload_n 0, 1) := do_42 (rdb (p := 32) (i := 20) ch_cX2_strength_32 rfl)
theorem dX2_strength_53 : decode cX2_strength 53 = .ok (.getfield 30, 3) := do_180 (rdb (p := 32) (i := 21) ch_cX2_strength_32 rfl) (rdb (p := 32) (i := 22) ch_cX2_strength_32 rfl) (rdb (p := 32) (i := 23) ch_cX2_strength_32 rfl) rfl
theorem dX2_strength_56 : decode cX2_strength 56 = .ok (.iconst 0, 1) := do_3 (rdb (p := 32) (i := 24) ch_cX2_strength_32 rfl)
theorem dX2_strength_57 : decode cX2_strength 57 = .ok (.aaload, 1) := do_50 (rdb (p := 32) (i := 25) ch_cX2_strength_32 rfl)
theorem dX2_strength_58 : decode cX2_strength 58 = .ok (.invokevirtual 48, 3) := do_182 (rdb (p := 32) (i := 26) ch_cX2_strength_32 rfl) (rdb (p := 32) (i := 27) ch_cX2_strength_32 rfl) (rdb (p := 32) (i := 28) ch_cX2_strength_32 rfl) rfl
theorem dX2_strength_61 : decode cX2_strength 61 = .ok (.ifCond .eq 53, 3) := do_153 (rdb (p := 32) (i := 29) ch_cX2_strength_32 rfl) (rdb (p := 32) (i := 30) ch_cX2_strength_32 rfl) (rdb (p := 32) (i := 31) ch_cX2_strength_32 rfl) (by decide +kernel)
theorem ch_cX2_strength_64 : (cX2_strength.data.toList.drop 64).take 36 = [42, 180, 0, 34, 3, 21, 5, 79, 42, 180, 0, 34, 4, 42, 180, 0, 21, 27, 46, 79, 42, 180, 0, 34, 5, 29, 79, 42, 180, 0, 34, 6, 21, 4, 79, 42] := by decide +kernel
theorem dX2_strength_64 : decode cX2_strength 64 = .ok (.aload_n 0, 1) := do_42 (rdb (p := 64) (i := 0) ch_cX2_strength_64 rfl)
theorem dX2_strength_65 : decode cX2_strength 65 = .ok (.getfield 34, 3) := do_180 (rdb (p := 64) (i := 1) ch_cX2_strength_64 rfl) (rdb (p := 64) (i := 2) ch_cX2_strength_64 rfl) (rdb (p := 64) (i := 3) ch_cX2_strength_64 rfl) rfl
theorem dX2_strength_68 : decode cX2_strength 68 = .ok (.iconst 0, 1) := do_3 (rdb (p := 64) (i := 4) ch_cX2_strength_64 rfl)
theorem dX2_strength_69 : decode cX2_strength 69 = .ok (.iload 5, 2) := do_21 (rdb (p := 64) (i := 5) ch_cX2_strength_64 rfl) (rdb (p := 64) (i := 6) ch_cX2_strength_64 rfl)
theorem dX2_strength_71 : decode cX2_strength 71 = .ok (.iastore, 1) := do_79 (rdb (p := 64) (i := 7) ch_cX2_strength_64 rfl)
theorem dX2_strength_72 : decode cX2_strength 72 = .ok (.aload_n 0, 1) := do_42 (rdb (p := 64) (i := 8) ch_cX2_strength_64 rfl)
theorem dX2_strength_73 : decode cX2_strength 73 = .ok (.getfield 34, 3) := do_180 (rdb (p := 64) (i := 9) ch_cX2_strength_64 rfl) (rdb (p := 64) (i := 10) ch_cX2_strength_64 rfl) (rdb (p := 64) (i := 11) ch_cX2_strength_64 rfl) rfl
theorem dX2_strength_76 : decode cX2_strength 76 = .ok (.iconst 1, 1) := do_4 (rdb (p := 64) (i := 12) ch_cX2_strength_64 rfl)
theorem dX2_strength_77 : decode cX2_strength 77 = .ok (.aload_n 0, 1) := do_42 (rdb (p := 64) (i := 13) ch_cX2_strength_64 rfl)
theorem dX2_strength_78 : decode cX2_strength 78 = .ok (.getfield 21, 3) := do_180 (rdb (p := 64) (i := 14) ch_cX2_strength_64 rfl) (rdb (p := 64) (i := 15) ch_cX2_strength_64 rfl) (rdb (p := 64) (i := 16) ch_cX2_strength_64 rfl) rfl
theorem dX2_strength_81 : decode cX2_strength 81 = .ok (.iload_n 1, 1) := do_27 (rdb (p := 64) (i := 17) ch_cX2_strength_64 rfl)
theorem dX2_strength_82 : decode cX2_strength 82 = .ok (.iaload, 1) := do_46 (rdb (p := 64) (i := 18) ch_cX2_strength_64 rfl)
theorem dX2_strength_83 : decode cX2_strength 83 = .ok (.iastore, 1) := do_79 (rdb (p := 64) (i := 19) ch_cX2_strength_64 rfl)
theorem dX2_strength_84 : decode cX2_strength 84 = .ok (.aload_n 0, 1) := do_42 (rdb (p := 64) (i := 20) ch_cX2_strength_64 rfl)
theorem dX2_strength_85 : decode cX2_strength 85 = .ok (.getfield 34, 3) := do_180 (rdb (p := 64) (i := 21) ch_cX2_strength_64 rfl) (rdb (p := 64) (i := 22) ch_cX2_strength_64 rfl) (rdb (p := 64) (i := 23) ch_cX2_strength_64 rfl) rfl
theorem dX2_strength_88 : decode cX2_strength 88 = .ok (.iconst 2, 1) := do_5 (rdb (p := 64) (i := 24) ch_cX2_strength_64 rfl)
theorem dX2_strength_89 : decode cX2_strength 89 = .ok (.iload_n 3, 1) := do_29 (rdb (p := 64) (i := 25) ch_cX2_strength_64 rfl)
theorem dX2_strength_90 : decode cX2_strength 90 = .ok (.iastore, 1) := do_79 (rdb (p := 64) (i := 26) ch_cX2_strength_64 rfl)
theorem dX2_strength_91 : decode cX2_strength 91 = .ok (.aload_n 0, 1) := do_42 (rdb (p := 64) (i := 27) ch_cX2_strength_64 rfl)
theorem dX2_strength_92 : decode cX2_strength 92 = .ok (.getfield 34, 3) := do_180 (rdb (p := 64) (i := 28) ch_cX2_strength_64 rfl) (rdb (p := 64) (i := 29) ch_cX2_strength_64 rfl) (rdb (p := 64) (i := 30) ch_cX2_strength_64 rfl) rfl
theorem dX2_strength_95 : decode cX2_strength 95 = .ok (.iconst 3, 1) := do_6 (rdb (p := 64) (i := 31) ch_cX2_strength_64 rfl)
theorem ch_cX2_strength_96 : (cX2_strength.data.toList.drop 96).take 36 = [21, 4, 79, 42, 180, 0, 30, 3, 50, 42, 180, 0, 34, 182, 0, 52, 54, 6, 3, 17, 3, 231, 21, 6, 184, 0, 56, 184, 0, 62, 54, 7, 42, 180, 0, 16] := by decide +kernel
theorem dX2_strength_96 : decode cX2_strength 96 = .ok (.iload 4, 2) := do_21 (rdb (p := 96) (i := 0) ch_cX2_strength_96 rfl) (rdb (p := 96) (i := 1) ch_cX2_strength_96 rfl)
theorem dX2_strength_98 : decode cX2_strength 98 = .ok (.iastore, 1) := do_79 (rdb (p := 96) (i := 2) ch_cX2_strength_96 rfl)
theorem dX2_strength_99 : decode cX2_strength 99 = .ok (.aload_n 0, 1) := do_42 (rdb (p := 96) (i := 3) ch_cX2_strength_96 rfl)
theorem dX2_strength_100 : decode cX2_strength 100 = .ok (.getfield 30, 3) := do_180 (rdb (p := 96) (i := 4) ch_cX2_strength_96 rfl) (rdb (p := 96) (i := 5) ch_cX2_strength_96 rfl) (rdb (p := 96) (i := 6) ch_cX2_strength_96 rfl) rfl
theorem dX2_strength_103 : decode cX2_strength 103 = .ok (.iconst 0, 1) := do_3 (rdb (p := 96) (i := 7) ch_cX2_strength_96 rfl)
theorem dX2_strength_104 : decode cX2_strength 104 = .ok (.aaload, 1) := do_50 (rdb (p := 96) (i := 8) ch_cX2_strength_96 rfl)
theorem dX2_strength_105 : decode cX2_strength 105 = .ok (.aload_n 0, 1) := do_42 (rdb (p := 96) (i := 9) ch_cX2_strength_96 rfl)
theorem dX2_strength_106 : decode cX2_strength 106 = .ok (.getfield 34, 3) := do_180 (rdb (p := 96) (i := 10) ch_cX2_strength_96 rfl) (rdb (p := 96) (i := 11) ch_cX2_strength_96 rfl) (rdb (p := 96) (i := 12) ch_cX2_strength_96 rfl) rfl
theorem dX2_strength_109 : decode cX2_strength 109 = .ok (.invokevirtual 52, 3) := do_182 (rdb (p := 96) (i := 13) ch_cX2_strength_96 rfl) (rdb (p := 96) (i := 14) ch_cX2_strength_96 rfl) (rdb (p := 96) (i := 15) ch_cX2_strength_96 rfl) rfl
theorem dX2_strength_112 : decode cX2_strength 112 = .ok (.istore 6, 2) := do_54 (rdb (p := 96) (i := 16) ch_cX2_strength_96 rfl) (rdb (p := 96) (i := 17) ch_cX2_strength_96 rfl)
theorem dX2_strength_114 : decode cX2_strength 114 = .ok (.iconst 0, 1) := do_3 (rdb (p := 96) (i := 18) ch_cX2_strength_96 rfl)
theorem dX2_strength_115 : decode cX2_strength 115 = .ok (.sipush 999, 3) := do_17 (rdb (p := 96) (i := 19) ch_cX2_strength_96 rfl) (rdb (p := 96) (i := 20) ch_cX2_strength_96 rfl) (rdb (p := 96) (i := 21) ch_cX2_strength_96 rfl) (by decide +kernel)
theorem dX2_strength_118 : decode cX2_strength 118 = .ok (.iload 6, 2) := do_21 (rdb (p := 96) (i := 22) ch_cX2_strength_96 rfl) (rdb (p := 96) (i := 23) ch_cX2_strength_96 rfl)
theorem dX2_strength_120 : decode cX2_strength 120 = .ok (.invokestatic 56, 3) := do_184 (rdb (p := 96) (i := 24) ch_cX2_strength_96 rfl) (rdb (p := 96) (i := 25) ch_cX2_strength_96 rfl) (rdb (p := 96) (i := 26) ch_cX2_strength_96 rfl) rfl
theorem dX2_strength_123 : decode cX2_strength 123 = .ok (.invokestatic 62, 3) := do_184 (rdb (p := 96) (i := 27) ch_cX2_strength_96 rfl) (rdb (p := 96) (i := 28) ch_cX2_strength_96 rfl) (rdb (p := 96) (i := 29) ch_cX2_strength_96 rfl) rfl
theorem dX2_strength_126 : decode cX2_strength 126 = .ok (.istore 7, 2) := do_54 (rdb (p := 96) (i := 30) ch_cX2_strength_96 rfl) (rdb (p := 96) (i := 31) ch_cX2_strength_96 rfl)
theorem ch_cX2_strength_128 : (cX2_strength.data.toList.drop 128).take 36 = [42, 180, 0, 16, 4, 160, 0, 10, 21, 7, 5, 108, 167, 0, 5, 21, 7, 172] := by decide +kernel
theorem dX2_strength_128 : decode cX2_strength 128 = .ok (.aload_n 0, 1) := do_42 (rdb (p := 128) (i := 0) ch_cX2_strength_128 rfl)
theorem dX2_strength_129 : decode cX2_strength 129 = .ok (.getfield 16, 3) := do_180 (rdb (p := 128) (i := 1) ch_cX2_strength_128 rfl) (rdb (p := 128) (i := 2) ch_cX2_strength_128 rfl) (rdb (p := 128) (i := 3) ch_cX2_strength_128 rfl) rfl
theorem dX2_strength_132 : decode cX2_strength 132 = .ok (.iconst 1, 1) := do_4 (rdb (p := 128) (i := 4) ch_cX2_strength_128 rfl)
theorem dX2_strength_133 : decode cX2_strength 133 = .ok (.if_icmp .ne 10, 3) := do_160 (rdb (p := 128) (i := 5) ch_cX2_strength_128 rfl) (rdb (p := 128) (i := 6) ch_cX2_strength_128 rfl) (rdb (p := 128) (i := 7) ch_cX2_strength_128 rfl) (by decide +kernel)
theorem dX2_strength_136 : decode cX2_strength 136 = .ok (.iload 7, 2) := do_21 (rdb (p := 128) (i := 8) ch_cX2_strength_128 rfl) (rdb (p := 128) (i := 9) ch_cX2_strength_128 rfl)
theorem dX2_strength_138 : decode cX2_strength 138 = .ok (.iconst 2, 1) := do_5 (rdb (p := 128) (i := 10) ch_cX2_strength_128 rfl)
theorem dX2_strength_139 : decode cX2_strength 139 = .ok (.idiv, 1) := do_108 (rdb (p := 128) (i := 11) ch_cX2_strength_128 rfl)
theorem dX2_strength_140 : decode cX2_strength 140 = .ok (.goto 5, 3) := do_167 (rdb (p := 128) (i := 12) ch_cX2_strength_128 rfl) (rdb (p := 128) (i := 13) ch_cX2_strength_128 rfl) (rdb (p := 128) (i := 14) ch_cX2_strength_128 rfl) (by decide +kernel)
theorem dX2_strength_143 : decode cX2_strength 143 = .ok (.iload 7, 2) := do_21 (rdb (p := 128) (i := 15) ch_cX2_strength_128 rfl) (rdb (p := 128) (i := 16) ch_cX2_strength_128 rfl)
theorem dX2_strength_145 : decode cX2_strength 145 = .ok (.ireturn, 1) := do_172 (rdb (p := 128) (i := 17) ch_cX2_strength_128 rfl)
theorem ch_cX2_takeFrom_0 : (cX2_takeFrom.data.toList.drop 0).take 36 = [42, 43, 180, 0, 7, 181, 0, 7, 42, 43, 180, 0, 13, 181, 0, 13, 42, 43, 180, 0, 16, 181, 0, 16, 43, 180, 0, 21, 3, 42, 180, 0, 21, 3, 8, 184] := by decide +kernel
theorem dX2_takeFrom_0 : decode cX2_takeFrom 0 = .ok (.aload_n 0, 1) := do_42 (rdb (p := 0) (i := 0) ch_cX2_takeFrom_0 rfl)
theorem dX2_takeFrom_1 : decode cX2_takeFrom 1 = .ok (.aload_n 1, 1) := do_43 (rdb (p := 0) (i := 1) ch_cX2_takeFrom_0 rfl)
theorem dX2_takeFrom_2 : decode cX2_takeFrom 2 = .ok (.getfield 7, 3) := do_180 (rdb (p := 0) (i := 2) ch_cX2_takeFrom_0 rfl) (rdb (p := 0) (i := 3) ch_cX2_takeFrom_0 rfl) (rdb (p := 0) (i := 4) ch_cX2_takeFrom_0 rfl) rfl
theorem dX2_takeFrom_5 : decode cX2_takeFrom 5 = .ok (.putfield 7, 3) := do_181 (rdb (p := 0) (i := 5) ch_cX2_takeFrom_0 rfl) (rdb (p := 0) (i := 6) ch_cX2_takeFrom_0 rfl) (rdb (p := 0) (i := 7) ch_cX2_takeFrom_0 rfl) rfl
theorem dX2_takeFrom_8 : decode cX2_takeFrom 8 = .ok (.aload_n 0, 1) := do_42 (rdb (p := 0) (i := 8) ch_cX2_takeFrom_0 rfl)
theorem dX2_takeFrom_9 : decode cX2_takeFrom 9 = .ok (.aload_n 1, 1) := do_43 (rdb (p := 0) (i := 9) ch_cX2_takeFrom_0 rfl)
theorem dX2_takeFrom_10 : decode cX2_takeFrom 10 = .ok (.getfield 13, 3) := do_180 (rdb (p := 0) (i := 10) ch_cX2_takeFrom_0 rfl) (rdb (p := 0) (i := 11) ch_cX2_takeFrom_0 rfl) (rdb (p := 0) (i := 12) ch_cX2_takeFrom_0 rfl) rfl
theorem dX2_takeFrom_13 : decode cX2_takeFrom 13 = .ok (.putfield 13, 3) := do_181 (rdb (p := 0) (i := 13) ch_cX2_takeFrom_0 rfl) (rdb (p := 0) (i := 14) ch_cX2_takeFrom_0 rfl) (rdb (p := 0) (i := 15) ch_cX2_takeFrom_0 rfl) rfl
theorem dX2_takeFrom_16 : decode cX2_takeFrom 16 = .ok (.aload_n 0, 1) := do_42 (rdb (p := 0) (i := 16) ch_cX2_takeFrom_0 rfl)
theorem dX2_takeFrom_17 : decode cX2_takeFrom 17 = .ok (.aload_n 1, 1) := do_43 (rdb (p := 0) (i := 17) ch_cX2_takeFrom_0 rfl)
theorem dX2_takeFrom_18 : decode cX2_takeFrom 18 = .ok (.getfield 16, 3) := do_180 (rdb (p := 0) (i := 18) ch_cX2_takeFrom_0 rfl) (rdb (p := 0) (i := 19) ch_cX2_takeFrom_0 rfl) (rdb (p := 0) (i := 20) ch_cX2_takeFrom_0 rfl) rfl
theorem dX2_takeFrom_21 : decode cX2_takeFrom 21 = .ok (.putfield 16, 3) := do_181 (rdb (p := 0) (i := 21) ch_cX2_takeFrom_0 rfl) (rdb (p := 0) (i := 22) ch_cX2_takeFrom_0 rfl) (rdb (p := 0) (i := 23) ch_cX2_takeFrom_0 rfl) rfl
theorem dX2_takeFrom_24 : decode cX2_takeFrom 24 = .ok (.aload_n 1, 1) := do_43 (rdb (p := 0) (i := 24) ch_cX2_takeFrom_0 rfl)
theorem dX2_takeFrom_25 : decode cX2_takeFrom 25 = .ok (.getfield 21, 3) := do_180 (rdb (p := 0) (i := 25) ch_cX2_takeFrom_0 rfl) (rdb (p := 0) (i := 26) ch_cX2_takeFrom_0 rfl) (rdb (p := 0) (i := 27) ch_cX2_takeFrom_0 rfl) rfl
theorem dX2_takeFrom_28 : decode cX2_takeFrom 28 = .ok (.iconst 0, 1) := do_3 (rdb (p := 0) (i := 28) ch_cX2_takeFrom_0 rfl)
theorem dX2_takeFrom_29 : decode cX2_takeFrom 29 = .ok (.aload_n 0, 1) := do_42 (rdb (p := 0) (i := 29) ch_cX2_takeFrom_0 rfl)
theorem dX2_takeFrom_30 : decode cX2_takeFrom 30 = .ok (.getfield 21, 3) := do_180 (rdb (p := 0) (i := 30) ch_cX2_takeFrom_0 rfl) (rdb (p := 0) (i := 31) ch_cX2_takeFrom_0 rfl) (rdb (p := 0) (i := 32) ch_cX2_takeFrom_0 rfl) rfl
theorem ch_cX2_takeFrom_32 : (cX2_takeFrom.data.toList.drop 32).take 36 = [21, 3, 8, 184, 0, 80, 43, 180, 0, 25, 3, 42, 180, 0, 25, 3, 8, 184, 0, 80, 3, 61, 28, 6, 162, 0, 24, 42, 180, 0, 30, 28, 50, 43, 180, 0] := by decide +kernel
theorem dX2_takeFrom_33 : decode cX2_takeFrom 33 = .ok (.iconst 0, 1) := do_3 (rdb (p := 32) (i := 1) ch_cX2_takeFrom_32 rfl)
theorem dX2_takeFrom_34 : decode cX2_takeFrom 34 = .ok (.iconst 5, 1) := do_8 (rdb (p := 32) (i := 2) ch_cX2_takeFrom_32 rfl)
theorem dX2_takeFrom_35 : decode cX2_takeFrom 35 = .ok (.invokestatic 80, 3) := do_184 (rdb (p := 32) (i := 3) ch_cX2_takeFrom_32 rfl) (rdb (p := 32) (i := 4) ch_cX2_takeFrom_32 rfl) (rdb (p := 32) (i := 5) ch_cX2_takeFrom_32 rfl) rfl
theorem dX2_takeFrom_38 : decode cX2_takeFrom 38 = .ok (.aload_n 1, 1) := do_43 (rdb (p := 32) (i := 6) ch_cX2_takeFrom_32 rfl)
theorem dX2_takeFrom_39 : decode cX2_takeFrom 39 = .ok (.getfield 25, 3) := do_180 (rdb (p := 32) (i := 7) ch_cX2_takeFrom_32 rfl) (rdb (p := 32) (i := 8) ch_cX2_takeFrom_32 rfl) (rdb (p := 32) (i := 9) ch_cX2_takeFrom_32 rfl) rfl
theorem dX2_takeFrom_42 : decode cX2_takeFrom 42 = .ok (.iconst 0, 1) := do_3 (rdb (p := 32) (i := 10) ch_cX2_takeFrom_32 rfl)
theorem dX2_takeFrom_43 : decode cX2_takeFrom 43 = .ok (.aload_n 0, 1) := do_42 (rdb (p := 32) (i := 11) ch_cX2_takeFrom_32 rfl)
theorem dX2_takeFrom_44 : decode cX2_takeFrom 44 = .ok (.getfield 25, 3) := do_180 (rdb (p := 32) (i := 12) ch_cX2_takeFrom_32 rfl) (rdb (p := 32) (i := 13) ch_cX2_takeFrom_32 rfl) (rdb (p := 32) (i := 14) ch_cX2_takeFrom_32 rfl) rfl
theorem dX2_takeFrom_47 : decode cX2_takeFrom 47 = .ok (.iconst 0, 1) := do_3 (rdb (p := 32) (i := 15) ch_cX2_takeFrom_32 rfl)
theorem dX2_takeFrom_48 : decode cX2_takeFrom 48 = .ok (.iconst 5, 1) := do_8 (rdb (p := 32) (i := 16) ch_cX2_takeFrom_32 rfl)
theorem dX2_takeFrom_49 : decode cX2_takeFrom 49 = .ok (.invokestatic 80, 3) := do_184 (rdb (p := 32) (i := 17) ch_cX2_takeFrom_32 rfl) (rdb (p := 32) (i := 18) ch_cX2_takeFrom_32 rfl) (rdb (p := 32) (i := 19) ch_cX2_takeFrom_32 rfl) rfl
theorem dX2_takeFrom_52 : decode cX2_takeFrom 52 = .ok (.iconst 0, 1) := do_3 (rdb (p := 32) (i := 20) ch_cX2_takeFrom_32 rfl)
theorem dX2_takeFrom_53 : decode cX2_takeFrom 53 = .ok (.istore_n 2, 1) := do_61 (rdb (p := 32) (i := 21) ch_cX2_takeFrom_32 rfl)
theorem dX2_takeFrom_54 : decode cX2_takeFrom 54 = .ok (.iload_n 2, 1) := do_28 (rdb (p := 32) (i := 22) ch_cX2_takeFrom_32 rfl)
theorem dX2_takeFrom_55 : decode cX2_takeFrom 55 = .ok (.iconst 3, 1) := do_6 (rdb (p := 32) (i := 23) ch_cX2_takeFrom_32 rfl)
theorem dX2_takeFrom_56 : decode cX2_takeFrom 56 = .ok (.if_icmp .ge 24, 3) := do_162 (rdb (p := 32) (i := 24) ch_cX2_takeFrom_32 rfl) (rdb (p := 32) (i := 25) ch_cX2_takeFrom_32 rfl) (rdb (p := 32) (i := 26) ch_cX2_takeFrom_32 rfl) (by decide +kernel)
theorem dX2_takeFrom_59 : decode cX2_takeFrom 59 = .ok (.aload_n 0, 1) := do_42 (rdb (p := 32) (i := 27) ch_cX2_takeFrom_32 rfl)
theorem dX2_takeFrom_60 : decode cX2_takeFrom 60 = .ok (.getfield 30, 3) := do_180 (rdb (p := 32) (i := 28) ch_cX2_takeFrom_32 rfl) (rdb (p := 32) (i := 29) ch_cX2_takeFrom_32 rfl) (rdb (p := 32) (i := 30) ch_cX2_takeFrom_32 rfl) rfl
theorem dX2_takeFrom_63 : decode cX2_takeFrom 63 = .ok (.iload_n 2, 1) := do_28 (rdb (p := 32) (i := 31) ch_cX2_takeFrom_32 rfl)
theorem ch_cX2_takeFrom_64 : (cX2_takeFrom.data.toList.drop 64).take 36 = [50, 43, 180, 0, 30, 28, 50, 182, 0, 86, 132, 2, 1, 167, 255, 233, 177] := by decide +kernel
theorem dX2_takeFrom_64 : decode cX2_takeFrom 64 = .ok (.aaload, 1) := do_50 (rdb (p := 64) (i := 0) ch_cX2_takeFrom_64 rfl)
theorem dX2_takeFrom_65 : decode cX2_takeFrom 65 = .ok (.aload_n 1, 1) := do_43 (rdb (p := 64) (i := 1) ch_cX2_takeFrom_64 rfl)
theorem dX2_takeFrom_66 : decode cX2_takeFrom 66 = .ok (.getfield 30, 3) := do_180 (rdb (p := 64) (i := 2) ch_cX2_takeFrom_64 rfl) (rdb (p := 64) (i := 3) ch_cX2_takeFrom_64 rfl) (rdb (p := 64) (i := 4) ch_cX2_takeFrom_64 rfl) rfl
theorem dX2_takeFrom_69 : decode cX2_takeFrom 69 = .ok (.iload_n 2, 1) := do_28 (rdb (p := 64) (i := 5) ch_cX2_takeFrom_64 rfl)
theorem dX2_takeFrom_70 : decode cX2_takeFrom 70 = .ok (.aaload, 1) := do_50 (rdb (p := 64) (i := 6) ch_cX2_takeFrom_64 rfl)
theorem dX2_takeFrom_71 : decode cX2_takeFrom 71 = .ok (.invokevirtual 86, 3) := do_182 (rdb (p := 64) (i := 7) ch_cX2_takeFrom_64 rfl) (rdb (p := 64) (i := 8) ch_cX2_takeFrom_64 rfl) (rdb (p := 64) (i := 9) ch_cX2_takeFrom_64 rfl) rfl
theorem dX2_takeFrom_74 : decode cX2_takeFrom 74 = .ok (.iinc 2 1, 3) := do_132 (rdb (p := 64) (i := 10) ch_cX2_takeFrom_64 rfl) (rdb (p := 64) (i := 11) ch_cX2_takeFrom_64 rfl) (rdb (p := 64) (i := 12) ch_cX2_takeFrom_64 rfl) (by decide +kernel)
theorem dX2_takeFrom_77 : decode cX2_takeFrom 77 = .ok (.goto (-23), 3) := do_167 (rdb (p := 64) (i := 13) ch_cX2_takeFrom_64 rfl) (rdb (p := 64) (i := 14) ch_cX2_takeFrom_64 rfl) (rdb (p := 64) (i := 15) ch_cX2_takeFrom_64 rfl) (by decide +kernel)
theorem dX2_takeFrom_80 : decode cX2_takeFrom 80 = .ok (.return_, 1) := do_177 (rdb (p := 64) (i := 16) ch_cX2_takeFrom_64 rfl)
theorem ch_cX3_add_0 : (cX3_add.data.toList.drop 0).take 36 = [42, 180, 0, 19, 54, 4, 21, 4, 155, 0, 10, 21, 4, 16, 7, 161, 0, 5, 2, 172, 42, 180, 0, 9, 21, 4, 27, 79, 42, 180, 0, 13, 21, 4, 28, 79] := by decide +kernel
theorem dX3_add_0 : decode cX3_add 0 = .ok (.aload_n 0, 1) := do_42 (rdb (p := 0) (i := 0) ch_cX3_add_0 rfl)
theorem dX3_add_1 : decode cX3_add 1 = .ok (.getfield 19, 3) := do_180 (rdb (p := 0) (i := 1) ch_cX3_add_0 rfl) (rdb (p := 0) (i := 2) ch_cX3_add_0 rfl) (rdb (p := 0) (i := 3) ch_cX3_add_0 rfl) rfl
theorem dX3_add_4 : decode cX3_add 4 = .ok (.istore 4, 2) := do_54 (rdb (p := 0) (i := 4) ch_cX3_add_0 rfl) (rdb (p := 0) (i := 5) ch_cX3_add_0 rfl)
theorem dX3_add_6 : decode cX3_add 6 = .ok (.iload 4, 2) := do_21 (rdb (p := 0) (i := 6) ch_cX3_add_0 rfl) (rdb (p := 0) (i := 7) ch_cX3_add_0 rfl)
theorem dX3_add_8 : decode cX3_add 8 = .ok (.ifCond .lt 10, 3) := do_155 (rdb (p := 0) (i := 8) ch_cX3_add_0 rfl) (rdb (p := 0) (i := 9) ch_cX3_add_0 rfl) (rdb (p := 0) (i := 10) ch_cX3_add_0 rfl) (by decide +kernel)
theorem dX3_add_11 : decode cX3_add 11 = .ok (.iload 4, 2) := do_21 (rdb (p := 0) (i := 11) ch_cX3_add_0 rfl) (rdb (p := 0) (i := 12) ch_cX3_add_0 rfl)
theorem dX3_add_13 : decode cX3_add 13 = .ok (.bipush 7, 2) := do_16 (rdb (p := 0) (i := 13) ch_cX3_add_0 rfl) (rdb (p := 0) (i := 14) ch_cX3_add_0 rfl) (by decide +kernel)
theorem dX3_add_15 : decode cX3_add 15 = .ok (.if_icmp .lt 5, 3) := do_161 (rdb (p := 0) (i := 15) ch_cX3_add_0 rfl) (rdb (p := 0) (i := 16) ch_cX3_add_0 rfl) (rdb (p := 0) (i := 17) ch_cX3_add_0 rfl) (by decide +kernel)
theorem dX3_add_18 : decode cX3_add 18 = .ok (.iconst (-1), 1) := do_2 (rdb (p := 0) (i := 18) ch_cX3_add_0 rfl)
theorem dX3_add_19 : decode cX3_add 19 = .ok (.ireturn, 1) := do_172 (rdb (p := 0) (i := 19) ch_cX3_add_0 rfl)
theorem dX3_add_20 : decode cX3_add 20 = .ok (.aload_n 0, 1) := do_42 (rdb (p := 0) (i := 20) ch_cX3_add_0 rfl)
theorem dX3_add_21 : decode cX3_add 21 = .ok (.getfield 9, 3) := do_180 (rdb (p := 0) (i := 21) ch_cX3_add_0 rfl) (rdb (p := 0) (i := 22) ch_cX3_add_0 rfl) (rdb (p := 0) (i := 23) ch_cX3_add_0 rfl) rfl
theorem dX3_add_24 : decode cX3_add 24 = .ok (.iload 4, 2) := do_21 (rdb (p := 0) (i := 24) ch_cX3_add_0 rfl) (rdb (p := 0) (i := 25) ch_cX3_add_0 rfl)
theorem dX3_add_26 : decode cX3_add 26 = .ok (.iload_n 1, 1) := do_27 (rdb (p := 0) (i := 26) ch_cX3_add_0 rfl)
theorem dX3_add_27 : decode cX3_add 27 = .ok (.iastore, 1) := do_79 (rdb (p := 0) (i := 27) ch_cX3_add_0 rfl)
theorem dX3_add_28 : decode cX3_add 28 = .ok (.aload_n 0, 1) := do_42 (rdb (p := 0) (i := 28) ch_cX3_add_0 rfl)
theorem dX3_add_29 : decode cX3_add 29 = .ok (.getfield 13, 3) := do_180 (rdb (p := 0) (i := 29) ch_cX3_add_0 rfl) (rdb (p := 0) (i := 30) ch_cX3_add_0 rfl) (rdb (p := 0) (i := 31) ch_cX3_add_0 rfl) rfl
theorem ch_cX3_add_32 : (cX3_add.data.toList.drop 32).take 36 = [21, 4, 28, 79, 42, 180, 0, 16, 21, 4, 29, 79, 42, 89, 180, 0, 19, 4, 96, 181, 0, 19, 21, 4, 172] := by decide +kernel
theorem dX3_add_32 : decode cX3_add 32 = .ok (.iload 4, 2) := do_21 (rdb (p := 32) (i := 0) ch_cX3_add_32 rfl) (rdb (p := 32) (i := 1) ch_cX3_add_32 rfl)
theorem dX3_add_34 : decode cX3_add 34 = .ok (.iload_n 2, 1) := do_28 (rdb (p := 32) (i := 2) ch_cX3_add_32 rfl)
theorem dX3_add_35 : decode cX3_add 35 = .ok (.iastore, 1) := do_79 (rdb (p := 32) (i := 3) ch_cX3_add_32 rfl)
theorem dX3_add_36 : decode cX3_add 36 = .ok (.aload_n 0, 1) := do_42 (rdb (p := 32) (i := 4) ch_cX3_add_32 rfl)
theorem dX3_add_37 : decode cX3_add 37 = .ok (.getfield 16, 3) := do_180 (rdb (p := 32) (i := 5) ch_cX3_add_32 rfl) (rdb (p := 32) (i := 6) ch_cX3_add_32 rfl) (rdb (p := 32) (i := 7) ch_cX3_add_32 rfl) rfl
theorem dX3_add_40 : decode cX3_add 40 = .ok (.iload 4, 2) := do_21 (rdb (p := 32) (i := 8) ch_cX3_add_32 rfl) (rdb (p := 32) (i := 9) ch_cX3_add_32 rfl)
theorem dX3_add_42 : decode cX3_add 42 = .ok (.iload_n 3, 1) := do_29 (rdb (p := 32) (i := 10) ch_cX3_add_32 rfl)
theorem dX3_add_43 : decode cX3_add 43 = .ok (.iastore, 1) := do_79 (rdb (p := 32) (i := 11) ch_cX3_add_32 rfl)
theorem dX3_add_44 : decode cX3_add 44 = .ok (.aload_n 0, 1) := do_42 (rdb (p := 32) (i := 12) ch_cX3_add_32 rfl)
theorem dX3_add_45 : decode cX3_add 45 = .ok (.dup, 1) := do_89 (rdb (p := 32) (i := 13) ch_cX3_add_32 rfl)
theorem dX3_add_46 : decode cX3_add 46 = .ok (.getfield 19, 3) := do_180 (rdb (p := 32) (i := 14) ch_cX3_add_32 rfl) (rdb (p := 32) (i := 15) ch_cX3_add_32 rfl) (rdb (p := 32) (i := 16) ch_cX3_add_32 rfl) rfl
theorem dX3_add_49 : decode cX3_add 49 = .ok (.iconst 1, 1) := do_4 (rdb (p := 32) (i := 17) ch_cX3_add_32 rfl)
theorem dX3_add_50 : decode cX3_add 50 = .ok (.iadd, 1) := do_96 (rdb (p := 32) (i := 18) ch_cX3_add_32 rfl)
theorem dX3_add_51 : decode cX3_add 51 = .ok (.putfield 19, 3) := do_181 (rdb (p := 32) (i := 19) ch_cX3_add_32 rfl) (rdb (p := 32) (i := 20) ch_cX3_add_32 rfl) (rdb (p := 32) (i := 21) ch_cX3_add_32 rfl) rfl
theorem dX3_add_54 : decode cX3_add 54 = .ok (.iload 4, 2) := do_21 (rdb (p := 32) (i := 22) ch_cX3_add_32 rfl) (rdb (p := 32) (i := 23) ch_cX3_add_32 rfl)
theorem dX3_add_56 : decode cX3_add 56 = .ok (.ireturn, 1) := do_172 (rdb (p := 32) (i := 24) ch_cX3_add_32 rfl)
theorem dX3_hasRoom_0 : decode cX3_hasRoom 0 = .ok (.aload_n 0, 1) := by decide +kernel
theorem dX3_hasRoom_1 : decode cX3_hasRoom 1 = .ok (.getfield 19, 3) := by decide +kernel
theorem dX3_hasRoom_4 : decode cX3_hasRoom 4 = .ok (.bipush 7, 2) := by decide +kernel
theorem dX3_hasRoom_6 : decode cX3_hasRoom 6 = .ok (.if_icmp .ge 7, 3) := by decide +kernel
theorem dX3_hasRoom_9 : decode cX3_hasRoom 9 = .ok (.iconst 1, 1) := by decide +kernel
theorem dX3_hasRoom_10 : decode cX3_hasRoom 10 = .ok (.goto 4, 3) := by decide +kernel
theorem dX3_hasRoom_13 : decode cX3_hasRoom 13 = .ok (.iconst 0, 1) := by decide +kernel
theorem dX3_hasRoom_14 : decode cX3_hasRoom 14 = .ok (.ireturn, 1) := by decide +kernel
theorem dX3_isBetter_0 : decode cX3_isBetter 0 = .ok (.iload_n 1, 1) := by decide +kernel
theorem dX3_isBetter_1 : decode cX3_isBetter 1 = .ok (.aload_n 0, 1) := by decide +kernel
theorem dX3_isBetter_2 : decode cX3_isBetter 2 = .ok (.getfield 38, 3) := by decide +kernel
theorem dX3_isBetter_5 : decode cX3_isBetter 5 = .ok (.if_icmp .lt 28, 3) := by decide +kernel
theorem dX3_isBetter_8 : decode cX3_isBetter 8 = .ok (.iload_n 1, 1) := by decide +kernel
theorem dX3_isBetter_9 : decode cX3_isBetter 9 = .ok (.aload_n 0, 1) := by decide +kernel
theorem dX3_isBetter_10 : decode cX3_isBetter 10 = .ok (.getfield 38, 3) := by decide +kernel
theorem dX3_isBetter_13 : decode cX3_isBetter 13 = .ok (.if_icmp .ne 24, 3) := by decide +kernel
theorem dX3_isBetter_16 : decode cX3_isBetter 16 = .ok (.aload_n 0, 1) := by decide +kernel
theorem dX3_isBetter_17 : decode cX3_isBetter 17 = .ok (.getfield 28, 3) := by decide +kernel
theorem dX3_isBetter_20 : decode cX3_isBetter 20 = .ok (.getfield 70, 3) := by decide +kernel
theorem dX3_isBetter_23 : decode cX3_isBetter 23 = .ok (.aload_n 0, 1) := by decide +kernel
theorem dX3_isBetter_24 : decode cX3_isBetter 24 = .ok (.getfield 32, 3) := by decide +kernel
theorem dX3_isBetter_27 : decode cX3_isBetter 27 = .ok (.getfield 70, 3) := by decide +kernel
theorem dX3_isBetter_30 : decode cX3_isBetter 30 = .ok (.if_icmp .ge 7, 3) := by decide +kernel
theorem dX3_isBetter_33 : decode cX3_isBetter 33 = .ok (.iconst 1, 1) := by decide +kernel
theorem dX3_isBetter_34 : decode cX3_isBetter 34 = .ok (.goto 4, 3) := by decide +kernel
theorem dX3_isBetter_37 : decode cX3_isBetter 37 = .ok (.iconst 0, 1) := by decide +kernel
theorem dX3_isBetter_38 : decode cX3_isBetter 38 = .ok (.ireturn, 1) := by decide +kernel
theorem ch_cX3_takeFrom_0 : (cX3_takeFrom.data.toList.drop 0).take 36 = [43, 180, 0, 9, 3, 42, 180, 0, 9, 3, 16, 7, 184, 0, 71, 43, 180, 0, 13, 3, 42, 180, 0, 13, 3, 16, 7, 184, 0, 71, 43, 180, 0, 16, 3, 42] := by decide +kernel
theorem dX3_takeFrom_0 : decode cX3_takeFrom 0 = .ok (.aload_n 1, 1) := do_43 (rdb (p := 0) (i := 0) ch_cX3_takeFrom_0 rfl)
theorem dX3_takeFrom_1 : decode cX3_takeFrom 1 = .ok (.getfield 9, 3) := do_180 (rdb (p := 0) (i := 1) ch_cX3_takeFrom_0 rfl) (rdb (p := 0) (i := 2) ch_cX3_takeFrom_0 rfl) (rdb (p := 0) (i := 3) ch_cX3_takeFrom_0 rfl) rfl
theorem dX3_takeFrom_4 : decode cX3_takeFrom 4 = .ok (.iconst 0, 1) := do_3 (rdb (p := 0) (i := 4) ch_cX3_takeFrom_0 rfl)
theorem dX3_takeFrom_5 : decode cX3_takeFrom 5 = .ok (.aload_n 0, 1) := do_42 (rdb (p := 0) (i := 5) ch_cX3_takeFrom_0 rfl)
theorem dX3_takeFrom_6 : decode cX3_takeFrom 6 = .ok (.getfield 9, 3) := do_180 (rdb (p := 0) (i := 6) ch_cX3_takeFrom_0 rfl) (rdb (p := 0) (i := 7) ch_cX3_takeFrom_0 rfl) (rdb (p := 0) (i := 8) ch_cX3_takeFrom_0 rfl) rfl
theorem dX3_takeFrom_9 : decode cX3_takeFrom 9 = .ok (.iconst 0, 1) := do_3 (rdb (p := 0) (i := 9) ch_cX3_takeFrom_0 rfl)
theorem dX3_takeFrom_10 : decode cX3_takeFrom 10 = .ok (.bipush 7, 2) := do_16 (rdb (p := 0) (i := 10) ch_cX3_takeFrom_0 rfl) (rdb (p := 0) (i := 11) ch_cX3_takeFrom_0 rfl) (by decide +kernel)
theorem dX3_takeFrom_12 : decode cX3_takeFrom 12 = .ok (.invokestatic 71, 3) := do_184 (rdb (p := 0) (i := 12) ch_cX3_takeFrom_0 rfl) (rdb (p := 0) (i := 13) ch_cX3_takeFrom_0 rfl) (rdb (p := 0) (i := 14) ch_cX3_takeFrom_0 rfl) rfl
theorem dX3_takeFrom_15 : decode cX3_takeFrom 15 = .ok (.aload_n 1, 1) := do_43 (rdb (p := 0) (i := 15) ch_cX3_takeFrom_0 rfl)
theorem dX3_takeFrom_16 : decode cX3_takeFrom 16 = .ok (.getfield 13, 3) := do_180 (rdb (p := 0) (i := 16) ch_cX3_takeFrom_0 rfl) (rdb (p := 0) (i := 17) ch_cX3_takeFrom_0 rfl) (rdb (p := 0) (i := 18) ch_cX3_takeFrom_0 rfl) rfl
theorem dX3_takeFrom_19 : decode cX3_takeFrom 19 = .ok (.iconst 0, 1) := do_3 (rdb (p := 0) (i := 19) ch_cX3_takeFrom_0 rfl)
theorem dX3_takeFrom_20 : decode cX3_takeFrom 20 = .ok (.aload_n 0, 1) := do_42 (rdb (p := 0) (i := 20) ch_cX3_takeFrom_0 rfl)
theorem dX3_takeFrom_21 : decode cX3_takeFrom 21 = .ok (.getfield 13, 3) := do_180 (rdb (p := 0) (i := 21) ch_cX3_takeFrom_0 rfl) (rdb (p := 0) (i := 22) ch_cX3_takeFrom_0 rfl) (rdb (p := 0) (i := 23) ch_cX3_takeFrom_0 rfl) rfl
theorem dX3_takeFrom_24 : decode cX3_takeFrom 24 = .ok (.iconst 0, 1) := do_3 (rdb (p := 0) (i := 24) ch_cX3_takeFrom_0 rfl)
theorem dX3_takeFrom_25 : decode cX3_takeFrom 25 = .ok (.bipush 7, 2) := do_16 (rdb (p := 0) (i := 25) ch_cX3_takeFrom_0 rfl) (rdb (p := 0) (i := 26) ch_cX3_takeFrom_0 rfl) (by decide +kernel)
theorem dX3_takeFrom_27 : decode cX3_takeFrom 27 = .ok (.invokestatic 71, 3) := do_184 (rdb (p := 0) (i := 27) ch_cX3_takeFrom_0 rfl) (rdb (p := 0) (i := 28) ch_cX3_takeFrom_0 rfl) (rdb (p := 0) (i := 29) ch_cX3_takeFrom_0 rfl) rfl
theorem dX3_takeFrom_30 : decode cX3_takeFrom 30 = .ok (.aload_n 1, 1) := do_43 (rdb (p := 0) (i := 30) ch_cX3_takeFrom_0 rfl)
theorem dX3_takeFrom_31 : decode cX3_takeFrom 31 = .ok (.getfield 16, 3) := do_180 (rdb (p := 0) (i := 31) ch_cX3_takeFrom_0 rfl) (rdb (p := 0) (i := 32) ch_cX3_takeFrom_0 rfl) (rdb (p := 0) (i := 33) ch_cX3_takeFrom_0 rfl) rfl
theorem ch_cX3_takeFrom_32 : (cX3_takeFrom.data.toList.drop 32).take 36 = [0, 16, 3, 42, 180, 0, 16, 3, 16, 7, 184, 0, 71, 42, 43, 180, 0, 19, 181, 0, 19, 177] := by decide +kernel
theorem dX3_takeFrom_34 : decode cX3_takeFrom 34 = .ok (.iconst 0, 1) := do_3 (rdb (p := 32) (i := 2) ch_cX3_takeFrom_32 rfl)
theorem dX3_takeFrom_35 : decode cX3_takeFrom 35 = .ok (.aload_n 0, 1) := do_42 (rdb (p := 32) (i := 3) ch_cX3_takeFrom_32 rfl)
theorem dX3_takeFrom_36 : decode cX3_takeFrom 36 = .ok (.getfield 16, 3) := do_180 (rdb (p := 32) (i := 4) ch_cX3_takeFrom_32 rfl) (rdb (p := 32) (i := 5) ch_cX3_takeFrom_32 rfl) (rdb (p := 32) (i := 6) ch_cX3_takeFrom_32 rfl) rfl
theorem dX3_takeFrom_39 : decode cX3_takeFrom 39 = .ok (.iconst 0, 1) := do_3 (rdb (p := 32) (i := 7) ch_cX3_takeFrom_32 rfl)
theorem dX3_takeFrom_40 : decode cX3_takeFrom 40 = .ok (.bipush 7, 2) := do_16 (rdb (p := 32) (i := 8) ch_cX3_takeFrom_32 rfl) (rdb (p := 32) (i := 9) ch_cX3_takeFrom_32 rfl) (by decide +kernel)
theorem dX3_takeFrom_42 : decode cX3_takeFrom 42 = .ok (.invokestatic 71, 3) := do_184 (rdb (p := 32) (i := 10) ch_cX3_takeFrom_32 rfl) (rdb (p := 32) (i := 11) ch_cX3_takeFrom_32 rfl) (rdb (p := 32) (i := 12) ch_cX3_takeFrom_32 rfl) rfl
theorem dX3_takeFrom_45 : decode cX3_takeFrom 45 = .ok (.aload_n 0, 1) := do_42 (rdb (p := 32) (i := 13) ch_cX3_takeFrom_32 rfl)
theorem dX3_takeFrom_46 : decode cX3_takeFrom 46 = .ok (.aload_n 1, 1) := do_43 (rdb (p := 32) (i := 14) ch_cX3_takeFrom_32 rfl)
theorem dX3_takeFrom_47 : decode cX3_takeFrom 47 = .ok (.getfield 19, 3) := do_180 (rdb (p := 32) (i := 15) ch_cX3_takeFrom_32 rfl) (rdb (p := 32) (i := 16) ch_cX3_takeFrom_32 rfl) (rdb (p := 32) (i := 17) ch_cX3_takeFrom_32 rfl) rfl
theorem dX3_takeFrom_50 : decode cX3_takeFrom 50 = .ok (.putfield 19, 3) := do_181 (rdb (p := 32) (i := 18) ch_cX3_takeFrom_32 rfl) (rdb (p := 32) (i := 19) ch_cX3_takeFrom_32 rfl) (rdb (p := 32) (i := 20) ch_cX3_takeFrom_32 rfl) rfl
theorem dX3_takeFrom_53 : decode cX3_takeFrom 53 = .ok (.return_, 1) := do_177 (rdb (p := 32) (i := 21) ch_cX3_takeFrom_32 rfl)
end
section
def SP_JI_bitCount (v : Int32) (Mz : mM) (r_ : Int32) : Prop := ∃ z1_ : Int32, (z1_ = iushrX v (1 : Int32)) ∧ ∃ z3_ : Int32, (z3_ = z1_ &&& (1431655765 : Int32)) ∧ ∃ z5_ : Int32, (z5_ = v - z3_) ∧ ∃ z7_ : Int32, (z7_ = z5_ &&& (858993459 : Int32)) ∧ ∃ z9_ : Int32, (z9_ = iushrX z5_ (2 : Int32)) ∧ ∃ z11_ : Int32, (z11_ = z9_ &&& (858993459 : Int32)) ∧ ∃ z13_ : Int32, (z13_ = z7_ + z11_) ∧ ∃ z15_ : Int32, (z15_ = iushrX z13_ (4 : Int32)) ∧ ∃ z17_ : Int32, (z17_ = z13_ + z15_) ∧ ∃ z19_ : Int32, (z19_ = z17_ &&& (252645135 : Int32)) ∧ ∃ z21_ : Int32, (z21_ = iushrX z19_ (8 : Int32)) ∧ ∃ z23_ : Int32, (z23_ = z19_ + z21_) ∧ ∃ z25_ : Int32, (z25_ = iushrX z23_ (16 : Int32)) ∧ ∃ z27_ : Int32, (z27_ = z23_ + z25_) ∧ ∃ z29_ : Int32, (z29_ = z27_ &&& (63 : Int32)) ∧ (0 ≤ z29_.toInt ∧ z29_.toInt < ((2 ^ 6 : Nat) : Int)) ∧ r_ = z29_
set_option maxHeartbeats 4000000 in
set_option maxRecDepth 100000 in
theorem c_JI_bitCount (l : Launch) (G : va_G) (cy : Nat → ClassId) (ad : rf → Nat) (d : Nat) (v : Int32) (Mz : mM) (hIz : Inv Mz) : WP CC l G cy ad yJI_bitCount cJI_bitCount 1 (some .int) d 0 [(0, vI v)] [] Mz (fun r M' => Mz = M' ∧ (True) ∧ SP_JI_bitCount v Mz r) := by
  refine w_iload_n dJI_bitCount_0 rfl 0 rfl ?_
  refine w_iload_n dJI_bitCount_1 rfl 0 rfl ?_
  refine w_iconst (v := 1) dJI_bitCount_2 (by decide) ?_
  refine w_iushr dJI_bitCount_3 (fun z1_ h2_ => ?_)
  refine w_ldc_w (v := 1431655765) m_1008 dJI_bitCount_4 ?_
  refine w_iand dJI_bitCount_7 (fun z3_ h4_ => ?_)
  refine w_isub dJI_bitCount_8 (fun z5_ h6_ => ?_)
  refine w_istore_n (ls' := [(0, vI z5_)]) dJI_bitCount_9 rfl (by decide) rfl ?_
  refine w_iload_n dJI_bitCount_10 rfl 0 rfl ?_
  refine w_ldc_w (v := 858993459) m_1009 dJI_bitCount_11 ?_
  refine w_iand dJI_bitCount_14 (fun z7_ h8_ => ?_)
  refine w_iload_n dJI_bitCount_15 rfl 0 rfl ?_
  refine w_iconst (v := 2) dJI_bitCount_16 (by decide) ?_
  refine w_iushr dJI_bitCount_17 (fun z9_ h10_ => ?_)
  refine w_ldc_w (v := 858993459) m_1009 dJI_bitCount_18 ?_
  refine w_iand dJI_bitCount_21 (fun z11_ h12_ => ?_)
  refine w_iadd dJI_bitCount_22 (fun z13_ h14_ => ?_)
  refine w_istore_n (ls' := [(0, vI z13_)]) dJI_bitCount_23 rfl (by decide) rfl ?_
  refine w_iload_n dJI_bitCount_24 rfl 0 rfl ?_
  refine w_iload_n dJI_bitCount_25 rfl 0 rfl ?_
  refine w_iconst (v := 4) dJI_bitCount_26 (by decide) ?_
  refine w_iushr dJI_bitCount_27 (fun z15_ h16_ => ?_)
  refine w_iadd dJI_bitCount_28 (fun z17_ h18_ => ?_)
  refine w_ldc_w (v := 252645135) m_1010 dJI_bitCount_29 ?_
  refine w_iand dJI_bitCount_32 (fun z19_ h20_ => ?_)
  refine w_istore_n (ls' := [(0, vI z19_)]) dJI_bitCount_33 rfl (by decide) rfl ?_
  refine w_iload_n dJI_bitCount_34 rfl 0 rfl ?_
  refine w_iload_n dJI_bitCount_35 rfl 0 rfl ?_
  refine w_bipush (v := 8) dJI_bitCount_36 (by decide) ?_
  refine w_iushr dJI_bitCount_38 (fun z21_ h22_ => ?_)
  refine w_iadd dJI_bitCount_39 (fun z23_ h24_ => ?_)
  refine w_istore_n (ls' := [(0, vI z23_)]) dJI_bitCount_40 rfl (by decide) rfl ?_
  refine w_iload_n dJI_bitCount_41 rfl 0 rfl ?_
  refine w_iload_n dJI_bitCount_42 rfl 0 rfl ?_
  refine w_bipush (v := 16) dJI_bitCount_43 (by decide) ?_
  refine w_iushr dJI_bitCount_45 (fun z25_ h26_ => ?_)
  refine w_iadd dJI_bitCount_46 (fun z27_ h28_ => ?_)
  refine w_istore_n (ls' := [(0, vI z27_)]) dJI_bitCount_47 rfl (by decide) rfl ?_
  refine w_iload_n dJI_bitCount_48 rfl 0 rfl ?_
  refine w_bipush (v := 63) dJI_bitCount_49 (by decide) ?_
  refine w_iand dJI_bitCount_51 (fun z29_ h31_ => ?_)
  have h30_ : 0 ≤ z29_.toInt ∧ z29_.toInt < ((2 ^ 6 : Nat) : Int) := by rw [h31_]; exact andI _ 6 (by decide) (by decide)
  exact w_iret rfl dJI_bitCount_52 ⟨rfl, trivial, ⟨z1_, h2_, z3_, h4_, z5_, h6_, z7_, h8_, z9_, h10_, z11_, h12_, z13_, h14_, z15_, h16_, z17_, h18_, z19_, h20_, z21_, h22_, z23_, h24_, z25_, h26_, z27_, h28_, z29_, h31_, h30_, rfl⟩⟩
def SP_JL_bitCount (v : Int64) (Mz : mM) (r_ : Int32) : Prop := ∃ w1_ : Int64, (w1_ = (v.toUInt64 >>> ((1 : Int32).toInt64.toUInt64 &&& Int64.toUInt64 63)).toInt64) ∧ ∃ w3_ : Int64, (w3_ = w1_ &&& (6148914691236517205 : Int64)) ∧ ∃ w5_ : Int64, (w5_ = v - w3_) ∧ ∃ w7_ : Int64, (w7_ = w5_ &&& (3689348814741910323 : Int64)) ∧ ∃ w9_ : Int64, (w9_ = (w5_.toUInt64 >>> ((2 : Int32).toInt64.toUInt64 &&& Int64.toUInt64 63)).toInt64) ∧ ∃ w11_ : Int64, (w11_ = w9_ &&& (3689348814741910323 : Int64)) ∧ ∃ w13_ : Int64, (w13_ = w7_ + w11_) ∧ ∃ w15_ : Int64, (w15_ = (w13_.toUInt64 >>> ((4 : Int32).toInt64.toUInt64 &&& Int64.toUInt64 63)).toInt64) ∧ ∃ w17_ : Int64, (w17_ = w13_ + w15_) ∧ ∃ w19_ : Int64, (w19_ = w17_ &&& (1085102592571150095 : Int64)) ∧ ∃ w21_ : Int64, (w21_ = (w19_.toUInt64 >>> ((8 : Int32).toInt64.toUInt64 &&& Int64.toUInt64 63)).toInt64) ∧ ∃ w23_ : Int64, (w23_ = w19_ + w21_) ∧ ∃ w25_ : Int64, (w25_ = (w23_.toUInt64 >>> ((16 : Int32).toInt64.toUInt64 &&& Int64.toUInt64 63)).toInt64) ∧ ∃ w27_ : Int64, (w27_ = w23_ + w25_) ∧ ∃ w29_ : Int64, (w29_ = (w27_.toUInt64 >>> ((32 : Int32).toInt64.toUInt64 &&& Int64.toUInt64 63)).toInt64) ∧ ∃ w31_ : Int64, (w31_ = w27_ + w29_) ∧ ∃ z33_ : Int32, (z33_ = w31_.toInt32) ∧ ∃ z35_ : Int32, (z35_ = z33_ &&& (127 : Int32)) ∧ (0 ≤ z35_.toInt ∧ z35_.toInt < ((2 ^ 7 : Nat) : Int)) ∧ r_ = z35_
set_option maxHeartbeats 4000000 in
set_option maxRecDepth 100000 in
theorem c_JL_bitCount (l : Launch) (G : va_G) (cy : Nat → ClassId) (ad : rf → Nat) (d : Nat) (v : Int64) (Mz : mM) (hIz : Inv Mz) : WP CC l G cy ad yJL_bitCount cJL_bitCount 2 (some .int) d 0 [(0, vL v)] [] Mz (fun r M' => Mz = M' ∧ (True) ∧ SP_JL_bitCount v Mz r) := by
  refine w_lload_n dJL_bitCount_0 rfl 0 rfl ?_
  refine w_lload_n dJL_bitCount_1 rfl 0 rfl ?_
  refine w_iconst (v := 1) dJL_bitCount_2 (by decide) ?_
  refine w_lushr dJL_bitCount_3 (fun w1_ h2_ => ?_)
  refine w_ldc2 (v := 6148914691236517205) m_1018 dJL_bitCount_4 ?_
  refine w_land dJL_bitCount_7 (fun w3_ h4_ => ?_)
  refine w_lsub dJL_bitCount_8 (fun w5_ h6_ => ?_)
  refine w_lstore_n (ls' := [(0, vL w5_)]) dJL_bitCount_9 rfl (by decide) rfl ?_
  refine w_lload_n dJL_bitCount_10 rfl 0 rfl ?_
  refine w_ldc2 (v := 3689348814741910323) m_1019 dJL_bitCount_11 ?_
  refine w_land dJL_bitCount_14 (fun w7_ h8_ => ?_)
  refine w_lload_n dJL_bitCount_15 rfl 0 rfl ?_
  refine w_iconst (v := 2) dJL_bitCount_16 (by decide) ?_
  refine w_lushr dJL_bitCount_17 (fun w9_ h10_ => ?_)
  refine w_ldc2 (v := 3689348814741910323) m_1019 dJL_bitCount_18 ?_
  refine w_land dJL_bitCount_21 (fun w11_ h12_ => ?_)
  refine w_ladd dJL_bitCount_22 (fun w13_ h14_ => ?_)
  refine w_lstore_n (ls' := [(0, vL w13_)]) dJL_bitCount_23 rfl (by decide) rfl ?_
  refine w_lload_n dJL_bitCount_24 rfl 0 rfl ?_
  refine w_lload_n dJL_bitCount_25 rfl 0 rfl ?_
  refine w_iconst (v := 4) dJL_bitCount_26 (by decide) ?_
  refine w_lushr dJL_bitCount_27 (fun w15_ h16_ => ?_)
  refine w_ladd dJL_bitCount_28 (fun w17_ h18_ => ?_)
  refine w_ldc2 (v := 1085102592571150095) m_1020 dJL_bitCount_29 ?_
  refine w_land dJL_bitCount_32 (fun w19_ h20_ => ?_)
  refine w_lstore_n (ls' := [(0, vL w19_)]) dJL_bitCount_33 rfl (by decide) rfl ?_
  refine w_lload_n dJL_bitCount_34 rfl 0 rfl ?_
  refine w_lload_n dJL_bitCount_35 rfl 0 rfl ?_
  refine w_bipush (v := 8) dJL_bitCount_36 (by decide) ?_
  refine w_lushr dJL_bitCount_38 (fun w21_ h22_ => ?_)
  refine w_ladd dJL_bitCount_39 (fun w23_ h24_ => ?_)
  refine w_lstore_n (ls' := [(0, vL w23_)]) dJL_bitCount_40 rfl (by decide) rfl ?_
  refine w_lload_n dJL_bitCount_41 rfl 0 rfl ?_
  refine w_lload_n dJL_bitCount_42 rfl 0 rfl ?_
  refine w_bipush (v := 16) dJL_bitCount_43 (by decide) ?_
  refine w_lushr dJL_bitCount_45 (fun w25_ h26_ => ?_)
  refine w_ladd dJL_bitCount_46 (fun w27_ h28_ => ?_)
  refine w_lstore_n (ls' := [(0, vL w27_)]) dJL_bitCount_47 rfl (by decide) rfl ?_
  refine w_lload_n dJL_bitCount_48 rfl 0 rfl ?_
  refine w_lload_n dJL_bitCount_49 rfl 0 rfl ?_
  refine w_bipush (v := 32) dJL_bitCount_50 (by decide) ?_
  refine w_lushr dJL_bitCount_52 (fun w29_ h30_ => ?_)
  refine w_ladd dJL_bitCount_53 (fun w31_ h32_ => ?_)
  refine w_lstore_n (ls' := [(0, vL w31_)]) dJL_bitCount_54 rfl (by decide) rfl ?_
  refine w_lload_n dJL_bitCount_55 rfl 0 rfl ?_
  refine w_l2i dJL_bitCount_56 (fun z33_ h34_ => ?_)
  refine w_bipush (v := 127) dJL_bitCount_57 (by decide) ?_
  refine w_iand dJL_bitCount_59 (fun z35_ h37_ => ?_)
  have h36_ : 0 ≤ z35_.toInt ∧ z35_.toInt < ((2 ^ 7 : Nat) : Int) := by rw [h37_]; exact andI _ 7 (by decide) (by decide)
  exact w_iret rfl dJL_bitCount_60 ⟨rfl, trivial, ⟨w1_, h2_, w3_, h4_, w5_, h6_, w7_, h8_, w9_, h10_, w11_, h12_, w13_, h14_, w15_, h16_, w17_, h18_, w19_, h20_, w21_, h22_, w23_, h24_, w25_, h26_, w27_, h28_, w29_, h30_, w31_, h32_, z33_, h34_, z35_, h37_, h36_, rfl⟩⟩
def SP_X2_isClick (v : Int32) (u : Int32) (Mz : mM) (r_ : Int32) : Prop := (((SP_X11_within v 1 9 Mz (1 : Int32)) ∧ (1 ≤ v.toInt ∧ v.toInt ≤ 9) ∧ (((SP_X11_within u 1 99 Mz (1 : Int32)) ∧ (1 ≤ u.toInt ∧ u.toInt ≤ 99) ∧ r_ = 1) ∨ ((SP_X11_within u 1 99 Mz (0 : Int32)) ∧ (¬ (1 ≤ u.toInt ∧ u.toInt ≤ 99)) ∧ r_ = 0))) ∨ ((SP_X11_within v 1 9 Mz (0 : Int32)) ∧ (¬ (1 ≤ v.toInt ∧ v.toInt ≤ 9)) ∧ r_ = 0))
set_option maxHeartbeats 4000000 in
set_option maxRecDepth 100000 in
theorem c_X2_isClick (l : Launch) (G : va_G) (cy : Nat → ClassId) (ad : rf → Nat) (d : Nat) (v : Int32) (u : Int32) (Mz : mM) (hIz : Inv Mz) : WP CC l G cy ad yX2_isClick cX2_isClick 2 (some .boolean) (d + 1) 0 [(0, vI v), (1, vI u)] [] Mz (fun r M' => Mz = M' ∧ ((0 ≤ r.toInt ∧ r.toInt ≤ 1)) ∧ SP_X2_isClick v u Mz r) := by
  refine w_iload_n dX2_isClick_0 rfl 0 rfl ?_
  refine w_iconst (v := 1) dX2_isClick_1 (by decide) ?_
  refine w_bipush (v := 9) dX2_isClick_2 (by decide) ?_
  refine w_callSN (as := [vI v, vI 1, vI 9]) (rest := []) (c_X11_within l G cy ad d v 1 9 Mz hIz) kS_X11_within pnn_0 (Nat.le_of_ble_eq_true rfl) (List.mem_of_getElem? (l := NMs) (i := 8) rfl) rfl rfl (by decide) (Nat.le_of_ble_eq_true rfl) dX2_isClick_4 (fun r1_ M2_ q3_ => ?_)
  obtain ⟨rfl, h4_, hs5_⟩ := q3_
  rcases h4_ with ⟨rfl, h4_⟩ | ⟨rfl, h4_⟩
  · simp only [li_1, li_9] at h4_
    refine w_if_eq (tgt := 24) dX2_isClick_7 (by decide) li_1 (fun h9 => (absurd h9 (by decide))) (fun h6_ => ?_)
    refine w_iload_n dX2_isClick_10 rfl 1 rfl ?_
    refine w_iconst (v := 1) dX2_isClick_11 (by decide) ?_
    refine w_bipush (v := 99) dX2_isClick_12 (by decide) ?_
    refine w_callSN (as := [vI u, vI 1, vI 99]) (rest := []) (c_X11_within l G cy ad d u 1 99 Mz hIz) kS_X11_within pnn_0 (Nat.le_of_ble_eq_true rfl) (List.mem_of_getElem? (l := NMs) (i := 8) rfl) rfl rfl (by decide) (Nat.le_of_ble_eq_true rfl) dX2_isClick_14 (fun r7_ M8_ q9_ => ?_)
    obtain ⟨rfl, h10_, hs11_⟩ := q9_
    rcases h10_ with ⟨rfl, h10_⟩ | ⟨rfl, h10_⟩
    · simp only [li_1, li_99] at h10_
      refine w_if_eq (tgt := 24) dX2_isClick_17 (by decide) li_1 (fun h9 => (absurd h9 (by decide))) (fun h12_ => ?_)
      refine w_iconst (v := 1) dX2_isClick_20 (by decide) ?_
      refine w_goto (tgt := 25) dX2_isClick_21 (by decide) ?_
      exact w_zret rfl dX2_isClick_25 ⟨by decide, by decide⟩ ⟨rfl, ⟨by decide, by decide⟩, (Or.inl ⟨hs5_, h4_, (Or.inl ⟨hs11_, h10_, rfl⟩)⟩)⟩
    · simp only [li_1, li_99] at h10_
      refine w_if_eq (tgt := 24) dX2_isClick_17 (by decide) li_0 (fun h13_ => ?_) (fun h9 => (absurd h9 (by decide)))
      refine w_iconst (v := 0) dX2_isClick_24 (by decide) ?_
      exact w_zret rfl dX2_isClick_25 ⟨by decide, by decide⟩ ⟨rfl, ⟨by decide, by decide⟩, (Or.inl ⟨hs5_, h4_, (Or.inr ⟨hs11_, h10_, rfl⟩)⟩)⟩
  · simp only [li_1, li_9] at h4_
    refine w_if_eq (tgt := 24) dX2_isClick_7 (by decide) li_0 (fun h14_ => ?_) (fun h9 => (absurd h9 (by decide)))
    refine w_iconst (v := 0) dX2_isClick_24 (by decide) ?_
    exact w_zret rfl dX2_isClick_25 ⟨by decide, by decide⟩ ⟨rfl, ⟨by decide, by decide⟩, (Or.inr ⟨hs5_, h4_, rfl⟩)⟩
def SP_X2_isClick_ (v : Int32) (Mz : mM) (r_ : Int32) : Prop := (((v.toInt ≤ 0) ∧ r_ = 0) ∨ ((0 < v.toInt) ∧ ∃ z2_ : Int32, (z2_.toInt = v.toInt / 100) ∧ ∃ z4_ : Int32, (z4_.toInt = v.toInt % 100) ∧ ∃ r6_ : Int32, (SP_X2_isClick z2_ z4_ Mz r6_) ∧ ((0 ≤ r6_.toInt ∧ r6_.toInt ≤ 1)) ∧ (((r6_.toInt = 0) ∧ r_ = 0) ∨ ((¬ r6_.toInt = 0) ∧ r_ = 1))))
theorem lf_c_X2_isClick__0 (v : Int32) (h1_ : 0 < v.toInt) : 0 ≤ v.toInt := by omega
set_option maxHeartbeats 4000000 in
set_option maxRecDepth 100000 in
theorem c_X2_isClick_ (l : Launch) (G : va_G) (cy : Nat → ClassId) (ad : rf → Nat) (d : Nat) (v : Int32) (Mz : mM) (hIz : Inv Mz) : WP CC l G cy ad yX2_isClick_ cX2_isClick_ 1 (some .boolean) (d + 2) 0 [(0, vI v)] [] Mz (fun r M' => Mz = M' ∧ ((0 ≤ r.toInt ∧ r.toInt ≤ 1)) ∧ SP_X2_isClick_ v Mz r) := by
  refine w_iload_n dX2_isClick__0 rfl 0 rfl ?_
  refine w_if_le (tgt := 22) dX2_isClick__1 (by decide) (rfl : v.toInt = v.toInt) (fun h1_ => ?_) (fun h1_ => ?_)
  · refine w_iconst (v := 0) dX2_isClick__22 (by decide) ?_
    exact w_zret rfl dX2_isClick__23 ⟨by decide, by decide⟩ ⟨rfl, ⟨by decide, by decide⟩, (Or.inl ⟨h1_, rfl⟩)⟩
  · refine w_iload_n dX2_isClick__4 rfl 0 rfl ?_
    refine w_bipush (v := 100) dX2_isClick__5 (by decide) ?_
    refine w_idivB dX2_isClick__7 (by decide) (rfl : v.toInt = v.toInt) li_100 (lf_c_X2_isClick__0 v h1_ ) (by decide) (fun z2_ h3_ => ?_)
    refine w_iload_n dX2_isClick__8 rfl 0 rfl ?_
    refine w_bipush (v := 100) dX2_isClick__9 (by decide) ?_
    refine w_iremB dX2_isClick__11 (by decide) (rfl : v.toInt = v.toInt) li_100 (lf_c_X2_isClick__0 v h1_ ) (by decide) (fun z4_ h5_ => ?_)
    refine w_callS (as := [vI z2_, vI z4_]) (rest := []) (c_X2_isClick l G cy ad d z2_ z4_ Mz hIz) kS_X2_isClick pnn_5 (Nat.le_of_ble_eq_true rfl) m_842 rfl rfl (by decide) (Nat.le_of_ble_eq_true rfl) dX2_isClick__12 (fun r6_ M7_ q8_ => ?_)
    obtain ⟨rfl, h9_, hs10_⟩ := q8_
    refine w_if_eq (tgt := 22) dX2_isClick__15 (by decide) (rfl : r6_.toInt = r6_.toInt) (fun h11_ => ?_) (fun h11_ => ?_)
    · refine w_iconst (v := 0) dX2_isClick__22 (by decide) ?_
      exact w_zret rfl dX2_isClick__23 ⟨by decide, by decide⟩ ⟨rfl, ⟨by decide, by decide⟩, (Or.inr ⟨h1_, z2_, h3_, z4_, h5_, r6_, hs10_, h9_, (Or.inl ⟨h11_, rfl⟩)⟩)⟩
    · refine w_iconst (v := 1) dX2_isClick__18 (by decide) ?_
      refine w_goto (tgt := 23) dX2_isClick__19 (by decide) ?_
      exact w_zret rfl dX2_isClick__23 ⟨by decide, by decide⟩ ⟨rfl, ⟨by decide, by decide⟩, (Or.inr ⟨h1_, z2_, h3_, z4_, h5_, r6_, hs10_, h9_, (Or.inr ⟨h11_, rfl⟩)⟩)⟩
def SP_X2_late (v : Int32) (u : Int32) (Mz : mM) (r_ : Int32) : Prop := ∃ z1_ : Int32, (z1_ = v &&& (1 : Int32)) ∧ (0 ≤ z1_.toInt ∧ z1_.toInt < ((2 ^ 1 : Nat) : Int)) ∧ (((¬ z1_.toInt = 1) ∧ ∃ z5_ : Int32, (z5_ = u * (6 : Int32)) ∧ r_ = z5_) ∨ ((z1_.toInt = 1) ∧ ∃ z7_ : Int32, (z7_ = u * (8 : Int32)) ∧ r_ = z7_))
set_option maxHeartbeats 4000000 in
set_option maxRecDepth 100000 in
theorem c_X2_late (l : Launch) (G : va_G) (cy : Nat → ClassId) (ad : rf → Nat) (d : Nat) (v : Int32) (u : Int32) (Mz : mM) (hIz : Inv Mz) : WP CC l G cy ad yX2_late cX2_late 2 (some .int) d 0 [(0, vI v), (1, vI u)] [] Mz (fun r M' => Mz = M' ∧ (True) ∧ SP_X2_late v u Mz r) := by
  refine w_iload_n dX2_late_0 rfl 1 rfl ?_
  refine w_iload_n dX2_late_1 rfl 0 rfl ?_
  refine w_iconst (v := 1) dX2_late_2 (by decide) ?_
  refine w_iand dX2_late_3 (fun z1_ h3_ => ?_)
  have h2_ : 0 ≤ z1_.toInt ∧ z1_.toInt < ((2 ^ 1 : Nat) : Int) := by rw [h3_]; exact andI _ 1 (by decide) (by decide)
  refine w_iconst (v := 1) dX2_late_4 (by decide) ?_
  refine w_icmp_ne (tgt := 13) dX2_late_5 (by decide) (rfl : z1_.toInt = z1_.toInt) li_1 (fun h4_ => ?_) (fun h4_ => ?_)
  · refine w_bipush (v := 6) dX2_late_13 (by decide) ?_
    refine w_imul dX2_late_15 (fun z5_ h6_ => ?_)
    exact w_iret rfl dX2_late_16 ⟨rfl, trivial, ⟨z1_, h3_, h2_, (Or.inl ⟨h4_, z5_, h6_, rfl⟩)⟩⟩
  · refine w_bipush (v := 8) dX2_late_8 (by decide) ?_
    refine w_goto (tgt := 15) dX2_late_10 (by decide) ?_
    refine w_imul dX2_late_15 (fun z7_ h8_ => ?_)
    exact w_iret rfl dX2_late_16 ⟨rfl, trivial, ⟨z1_, h3_, h2_, (Or.inr ⟨h4_, z7_, h8_, rfl⟩)⟩⟩
def S_c_X2_changeKind (b : Nat) : rf → Nat → Prop := fun c k => (c.1 = 27 ∧ c.2.1 = b) ∨ (c.1 = 26 ∧ c.2.1 = b) ∨ False
def SP_X2_changeKind (b : Nat) (v : Int32) (u : Int32) (t : Int32) (Mz : mM) (r_ : Int32) (M_ : mM) : Prop := (((¬ u.toInt = 0) ∧ (((v.toInt < 0) ∧ r_ = 0 ∧ M_ = Mz) ∨ ((0 ≤ v.toInt) ∧ (((v.toInt < 5) ∧ ∃ j6_ : Nat, ((j6_ : Int) = v.toInt) ∧ ∃ z4_ : Int32, (z4_ = Mz.1 (27, b, 0) j6_) ∧ ∃ j10_ : Nat, ((j10_ : Int) = v.toInt) ∧ ∃ M8_ : mM, (M8_ = up Mz (27, b, 0) j10_ t) ∧ r_ = z4_ ∧ M_ = M8_) ∨ ((5 ≤ v.toInt) ∧ r_ = 0 ∧ M_ = Mz))))) ∨ ((u.toInt = 0) ∧ (((v.toInt < 0) ∧ r_ = 0 ∧ M_ = Mz) ∨ ((0 ≤ v.toInt) ∧ (((v.toInt < 5) ∧ ∃ j18_ : Nat, ((j18_ : Int) = v.toInt) ∧ ∃ z16_ : Int32, (z16_ = Mz.1 (26, b, 0) j18_) ∧ ∃ j22_ : Nat, ((j22_ : Int) = v.toInt) ∧ ∃ M20_ : mM, (M20_ = up Mz (26, b, 0) j22_ t) ∧ r_ = z16_ ∧ M_ = M20_) ∨ ((5 ≤ v.toInt) ∧ r_ = 0 ∧ M_ = Mz))))))
set_option maxHeartbeats 4000000 in
set_option maxRecDepth 100000 in
theorem c_X2_changeKind (l : Launch) (G : va_G) (cy : Nat → ClassId) (ad : rf → Nat) (d : Nat) (b : Nat) (v : Int32) (u : Int32) (t : Int32) (Mz : mM) (hIz : Inv Mz) (hb : b < 3) : WP CC l G cy ad yX2_changeKind cX2_changeKind 6 (some .int) d 0 [(0, vR (2, b, 0)), (1, vI v), (2, vI u), (3, vI t)] [] Mz (fun r M' => Inv M' ∧ FR (S_c_X2_changeKind b) Mz M' ∧ (True) ∧ SP_X2_changeKind b v u t Mz r M') := by
  have hFz : FR (S_c_X2_changeKind b) Mz Mz := FR.self
  refine w_iload_n dX2_changeKind_0 rfl 2 rfl ?_
  refine w_if_ne (tgt := 11) dX2_changeKind_1 (by decide) (rfl : u.toInt = u.toInt) (fun h1_ => ?_) (fun h1_ => ?_)
  · refine w_aload_n dX2_changeKind_11 rfl 0 rfl ?_
    refine w_getR (c' := (27, b, 0)) fl_RX2_25 rfl rfl (ic_2 hb) dX2_changeKind_12 rfl ?_
    refine w_astore (ls' := [(4, vR (27, b, 0)), (0, vR (2, b, 0)), (1, vI v), (2, vI u), (3, vI t)]) dX2_changeKind_15 (by decide) rfl ?_
    refine w_iload_n dX2_changeKind_17 rfl 2 rfl ?_
    refine w_if_lt (tgt := 28) dX2_changeKind_18 (by decide) (rfl : v.toInt = v.toInt) (fun h2_ => ?_) (fun h2_ => ?_)
    · refine w_iconst (v := 0) dX2_changeKind_28 (by decide) ?_
      exact w_iret rfl dX2_changeKind_29 ⟨hIz, hFz, trivial, (Or.inl ⟨h1_, (Or.inl ⟨h2_, rfl, rfl⟩)⟩)⟩
    · refine w_iload_n dX2_changeKind_21 rfl 2 rfl ?_
      refine w_aload dX2_changeKind_22 0 rfl ?_
      refine w_alen (v := 5) (by decide) rfl rfl (ic_27 hb) dX2_changeKind_24 rfl ?_
      refine w_icmp_lt (tgt := 30) dX2_changeKind_25 (by decide) (rfl : v.toInt = v.toInt) li_5 (fun h3_ => ?_) (fun h3_ => ?_)
      · refine w_aload dX2_changeKind_30 0 rfl ?_
        refine w_iload_n dX2_changeKind_32 rfl 2 rfl ?_
        refine w_iald rfl rfl (ic_27 hb) (rfl : v.toInt = v.toInt) (lf_c_X1_work_688 v h2_ h3_ ) dX2_changeKind_33 (fun j6_ h7_ z4_ e5_ => ?_)
        refine w_istore (ls' := [(5, vI z4_), (4, vR (27, b, 0)), (0, vR (2, b, 0)), (1, vI v), (2, vI u), (3, vI t)]) dX2_changeKind_34 (by decide) rfl ?_
        refine w_aload dX2_changeKind_36 1 rfl ?_
        refine w_iload_n dX2_changeKind_38 rfl 3 rfl ?_
        refine w_iload_n dX2_changeKind_39 rfl 5 rfl ?_
        refine w_iast CC_nd rfl rfl (ic_27 hb) (rfl : v.toInt = v.toInt) (lf_c_X1_work_688 v h2_ h3_ ) dX2_changeKind_40 (fun j10_ h11_ M8_ hM9_ => ?_)
        have hI12_ := hIz.put hM9_ trivial
        have hF13_ := hFz.put hM9_ (Or.inl ⟨rfl, rfl⟩)
        refine w_iload dX2_changeKind_41 0 rfl ?_
        exact w_iret rfl dX2_changeKind_43 ⟨hI12_, hF13_, trivial, (Or.inl ⟨h1_, (Or.inr ⟨h2_, (Or.inl ⟨h3_, j6_, h7_, z4_, e5_, j10_, h11_, M8_, hM9_, rfl, rfl⟩)⟩)⟩)⟩
      · refine w_iconst (v := 0) dX2_changeKind_28 (by decide) ?_
        exact w_iret rfl dX2_changeKind_29 ⟨hIz, hFz, trivial, (Or.inl ⟨h1_, (Or.inr ⟨h2_, (Or.inr ⟨h3_, rfl, rfl⟩)⟩)⟩)⟩
  · refine w_aload_n dX2_changeKind_4 rfl 0 rfl ?_
    refine w_getR (c' := (26, b, 0)) fl_RX2_21 rfl rfl (ic_2 hb) dX2_changeKind_5 rfl ?_
    refine w_goto (tgt := 15) dX2_changeKind_8 (by decide) ?_
    refine w_astore (ls' := [(4, vR (26, b, 0)), (0, vR (2, b, 0)), (1, vI v), (2, vI u), (3, vI t)]) dX2_changeKind_15 (by decide) rfl ?_
    refine w_iload_n dX2_changeKind_17 rfl 2 rfl ?_
    refine w_if_lt (tgt := 28) dX2_changeKind_18 (by decide) (rfl : v.toInt = v.toInt) (fun h14_ => ?_) (fun h14_ => ?_)
    · refine w_iconst (v := 0) dX2_changeKind_28 (by decide) ?_
      exact w_iret rfl dX2_changeKind_29 ⟨hIz, hFz, trivial, (Or.inr ⟨h1_, (Or.inl ⟨h14_, rfl, rfl⟩)⟩)⟩
    · refine w_iload_n dX2_changeKind_21 rfl 2 rfl ?_
      refine w_aload dX2_changeKind_22 0 rfl ?_
      refine w_alen (v := 5) (by decide) rfl rfl (ic_26 hb) dX2_changeKind_24 rfl ?_
      refine w_icmp_lt (tgt := 30) dX2_changeKind_25 (by decide) (rfl : v.toInt = v.toInt) li_5 (fun h15_ => ?_) (fun h15_ => ?_)
      · refine w_aload dX2_changeKind_30 0 rfl ?_
        refine w_iload_n dX2_changeKind_32 rfl 2 rfl ?_
        refine w_iald rfl rfl (ic_26 hb) (rfl : v.toInt = v.toInt) (lf_c_X1_work_688 v h14_ h15_ ) dX2_changeKind_33 (fun j18_ h19_ z16_ e17_ => ?_)
        refine w_istore (ls' := [(5, vI z16_), (4, vR (26, b, 0)), (0, vR (2, b, 0)), (1, vI v), (2, vI u), (3, vI t)]) dX2_changeKind_34 (by decide) rfl ?_
        refine w_aload dX2_changeKind_36 1 rfl ?_
        refine w_iload_n dX2_changeKind_38 rfl 3 rfl ?_
        refine w_iload_n dX2_changeKind_39 rfl 5 rfl ?_
        refine w_iast CC_nd rfl rfl (ic_26 hb) (rfl : v.toInt = v.toInt) (lf_c_X1_work_688 v h14_ h15_ ) dX2_changeKind_40 (fun j22_ h23_ M20_ hM21_ => ?_)
        have hI24_ := hIz.put hM21_ trivial
        have hF25_ := hFz.put hM21_ (Or.inr (Or.inl ⟨rfl, rfl⟩))
        refine w_iload dX2_changeKind_41 0 rfl ?_
        exact w_iret rfl dX2_changeKind_43 ⟨hI24_, hF25_, trivial, (Or.inr ⟨h1_, (Or.inr ⟨h14_, (Or.inl ⟨h15_, j18_, h19_, z16_, e17_, j22_, h23_, M20_, hM21_, rfl, rfl⟩)⟩)⟩)⟩
      · refine w_iconst (v := 0) dX2_changeKind_28 (by decide) ?_
        exact w_iret rfl dX2_changeKind_29 ⟨hIz, hFz, trivial, (Or.inr ⟨h1_, (Or.inr ⟨h14_, (Or.inr ⟨h15_, rfl, rfl⟩)⟩)⟩)⟩
def S_c_X2_changeAir (b : Nat) : rf → Nat → Prop := fun c k => (c.1 = 2 ∧ c.2.1 = b ∧ k = 2) ∨ (c.1 = 2 ∧ c.2.1 = b ∧ k = 1) ∨ (c.1 = 2 ∧ c.2.1 = b ∧ k = 0) ∨ False
def SP_X2_changeAir (b : Nat) (v : Int32) (u : Int32) (Mz : mM) (r_ : Int32) (M_ : mM) : Prop := (((¬ v.toInt = 0) ∧ (((¬ v.toInt = 1) ∧ ∃ z3_ : Int32, (z3_ = Mz.1 (2, b, 0) 2) ∧ (((¬ v.toInt = 0) ∧ (((¬ v.toInt = 1) ∧ ∃ M7_ : mM, (M7_ = up Mz (2, b, 0) 2 u) ∧ r_ = z3_ ∧ M_ = M7_) ∨ ((v.toInt = 1) ∧ ∃ M11_ : mM, (M11_ = up Mz (2, b, 0) 1 u) ∧ r_ = z3_ ∧ M_ = M11_))) ∨ ((v.toInt = 0) ∧ ∃ M15_ : mM, (M15_ = up Mz (2, b, 0) 0 u) ∧ r_ = z3_ ∧ M_ = M15_))) ∨ ((v.toInt = 1) ∧ ∃ z19_ : Int32, (z19_ = Mz.1 (2, b, 0) 1) ∧ (¬ v.toInt = 0) ∧ (v.toInt = 1) ∧ ∃ M23_ : mM, (M23_ = up Mz (2, b, 0) 1 u) ∧ r_ = z19_ ∧ M_ = M23_))) ∨ ((v.toInt = 0) ∧ ∃ z27_ : Int32, (z27_ = Mz.1 (2, b, 0) 0) ∧ (v.toInt = 0) ∧ ∃ M30_ : mM, (M30_ = up Mz (2, b, 0) 0 u) ∧ r_ = z27_ ∧ M_ = M30_))
theorem lf_c_X2_changeAir_0 (v : Int32) (h2_ : v.toInt = 1) (h9 : v.toInt = 0) : False := by omega
theorem lf_c_X2_changeAir_1 (v : Int32) (h2_ : v.toInt = 1) (h9 : ¬ v.toInt = 1) : False := by omega
theorem lf_c_X2_changeAir_2 (v : Int32) (h1_ : v.toInt = 0) (h9 : ¬ v.toInt = 0) : False := by omega
set_option maxHeartbeats 4000000 in
set_option maxRecDepth 100000 in
theorem c_X2_changeAir (l : Launch) (G : va_G) (cy : Nat → ClassId) (ad : rf → Nat) (d : Nat) (b : Nat) (v : Int32) (u : Int32) (Mz : mM) (hIz : Inv Mz) (hb : b < 3) : WP CC l G cy ad yX2_changeAir cX2_changeAir 4 (some .int) d 0 [(0, vR (2, b, 0)), (1, vI v), (2, vI u)] [] Mz (fun r M' => Inv M' ∧ FR (S_c_X2_changeAir b) Mz M' ∧ (True) ∧ SP_X2_changeAir b v u Mz r M') := by
  have hFz : FR (S_c_X2_changeAir b) Mz Mz := FR.self
  refine w_iload_n dX2_changeAir_0 rfl 1 rfl ?_
  refine w_if_ne (tgt := 11) dX2_changeAir_1 (by decide) (rfl : v.toInt = v.toInt) (fun h1_ => ?_) (fun h1_ => ?_)
  · refine w_iload_n dX2_changeAir_11 rfl 1 rfl ?_
    refine w_iconst (v := 1) dX2_changeAir_12 (by decide) ?_
    refine w_icmp_ne (tgt := 23) dX2_changeAir_13 (by decide) (rfl : v.toInt = v.toInt) li_1 (fun h2_ => ?_) (fun h2_ => ?_)
    · refine w_aload_n dX2_changeAir_23 rfl 0 rfl ?_
      refine w_getI fl_RX2_16 rfl rfl (ic_2 hb) dX2_changeAir_24 (fun z3_ e4_ => ?_)
      refine w_istore_n (ls' := [(3, vI z3_), (0, vR (2, b, 0)), (1, vI v), (2, vI u)]) dX2_changeAir_27 rfl (by decide) rfl ?_
      refine w_iload_n dX2_changeAir_28 rfl 2 rfl ?_
      refine w_if_ne (tgt := 40) dX2_changeAir_29 (by decide) (rfl : v.toInt = v.toInt) (fun h5_ => ?_) (fun h5_ => ?_)
      · refine w_iload_n dX2_changeAir_40 rfl 2 rfl ?_
        refine w_iconst (v := 1) dX2_changeAir_41 (by decide) ?_
        refine w_icmp_ne (tgt := 53) dX2_changeAir_42 (by decide) (rfl : v.toInt = v.toInt) li_1 (fun h6_ => ?_) (fun h6_ => ?_)
        · refine w_aload_n dX2_changeAir_53 rfl 1 rfl ?_
          refine w_iload_n dX2_changeAir_54 rfl 3 rfl ?_
          refine w_putI CC_nd fl_RX2_16 rfl rfl (ic_2 hb) dX2_changeAir_55 (fun M7_ hM8_ => ?_)
          have hI9_ := hIz.put hM8_ trivial
          have hF10_ := hFz.put hM8_ (Or.inl ⟨rfl, rfl, rfl⟩)
          refine w_iload_n dX2_changeAir_58 rfl 0 rfl ?_
          exact w_iret rfl dX2_changeAir_59 ⟨hI9_, hF10_, trivial, (Or.inl ⟨h1_, (Or.inl ⟨h2_, z3_, e4_, (Or.inl ⟨h5_, (Or.inl ⟨h6_, M7_, hM8_, rfl, rfl⟩)⟩)⟩)⟩)⟩
        · refine w_aload_n dX2_changeAir_45 rfl 1 rfl ?_
          refine w_iload_n dX2_changeAir_46 rfl 3 rfl ?_
          refine w_putI CC_nd fl_RX2_13 rfl rfl (ic_2 hb) dX2_changeAir_47 (fun M11_ hM12_ => ?_)
          have hI13_ := hIz.put hM12_ trivial
          have hF14_ := hFz.put hM12_ (Or.inr (Or.inl ⟨rfl, rfl, rfl⟩))
          refine w_goto (tgt := 58) dX2_changeAir_50 (by decide) ?_
          refine w_iload_n dX2_changeAir_58 rfl 0 rfl ?_
          exact w_iret rfl dX2_changeAir_59 ⟨hI13_, hF14_, trivial, (Or.inl ⟨h1_, (Or.inl ⟨h2_, z3_, e4_, (Or.inl ⟨h5_, (Or.inr ⟨h6_, M11_, hM12_, rfl, rfl⟩)⟩)⟩)⟩)⟩
      · refine w_aload_n dX2_changeAir_32 rfl 1 rfl ?_
        refine w_iload_n dX2_changeAir_33 rfl 3 rfl ?_
        refine w_putI CC_nd fl_RX2_7 rfl rfl (ic_2 hb) dX2_changeAir_34 (fun M15_ hM16_ => ?_)
        have hI17_ := hIz.put hM16_ trivial
        have hF18_ := hFz.put hM16_ (Or.inr (Or.inr (Or.inl ⟨rfl, rfl, rfl⟩)))
        refine w_goto (tgt := 58) dX2_changeAir_37 (by decide) ?_
        refine w_iload_n dX2_changeAir_58 rfl 0 rfl ?_
        exact w_iret rfl dX2_changeAir_59 ⟨hI17_, hF18_, trivial, (Or.inl ⟨h1_, (Or.inl ⟨h2_, z3_, e4_, (Or.inr ⟨h5_, M15_, hM16_, rfl, rfl⟩)⟩)⟩)⟩
    · refine w_aload_n dX2_changeAir_16 rfl 0 rfl ?_
      refine w_getI fl_RX2_13 rfl rfl (ic_2 hb) dX2_changeAir_17 (fun z19_ e20_ => ?_)
      refine w_goto (tgt := 27) dX2_changeAir_20 (by decide) ?_
      refine w_istore_n (ls' := [(3, vI z19_), (0, vR (2, b, 0)), (1, vI v), (2, vI u)]) dX2_changeAir_27 rfl (by decide) rfl ?_
      refine w_iload_n dX2_changeAir_28 rfl 2 rfl ?_
      refine w_if_ne (tgt := 40) dX2_changeAir_29 (by decide) (rfl : v.toInt = v.toInt) (fun h21_ => ?_) (fun h9 => (lf_c_X2_changeAir_0 v h2_ h9 ).elim)
      refine w_iload_n dX2_changeAir_40 rfl 2 rfl ?_
      refine w_iconst (v := 1) dX2_changeAir_41 (by decide) ?_
      refine w_icmp_ne (tgt := 53) dX2_changeAir_42 (by decide) (rfl : v.toInt = v.toInt) li_1 (fun h9 => (lf_c_X2_changeAir_1 v h2_ h9 ).elim) (fun h22_ => ?_)
      refine w_aload_n dX2_changeAir_45 rfl 1 rfl ?_
      refine w_iload_n dX2_changeAir_46 rfl 3 rfl ?_
      refine w_putI CC_nd fl_RX2_13 rfl rfl (ic_2 hb) dX2_changeAir_47 (fun M23_ hM24_ => ?_)
      have hI25_ := hIz.put hM24_ trivial
      have hF26_ := hFz.put hM24_ (Or.inr (Or.inl ⟨rfl, rfl, rfl⟩))
      refine w_goto (tgt := 58) dX2_changeAir_50 (by decide) ?_
      refine w_iload_n dX2_changeAir_58 rfl 0 rfl ?_
      exact w_iret rfl dX2_changeAir_59 ⟨hI25_, hF26_, trivial, (Or.inl ⟨h1_, (Or.inr ⟨h2_, z19_, e20_, h21_, h22_, M23_, hM24_, rfl, rfl⟩)⟩)⟩
  · refine w_aload_n dX2_changeAir_4 rfl 0 rfl ?_
    refine w_getI fl_RX2_7 rfl rfl (ic_2 hb) dX2_changeAir_5 (fun z27_ e28_ => ?_)
    refine w_goto (tgt := 27) dX2_changeAir_8 (by decide) ?_
    refine w_istore_n (ls' := [(3, vI z27_), (0, vR (2, b, 0)), (1, vI v), (2, vI u)]) dX2_changeAir_27 rfl (by decide) rfl ?_
    refine w_iload_n dX2_changeAir_28 rfl 2 rfl ?_
    refine w_if_ne (tgt := 40) dX2_changeAir_29 (by decide) (rfl : v.toInt = v.toInt) (fun h9 => (lf_c_X2_changeAir_2 v h1_ h9 ).elim) (fun h29_ => ?_)
    refine w_aload_n dX2_changeAir_32 rfl 1 rfl ?_
    refine w_iload_n dX2_changeAir_33 rfl 3 rfl ?_
    refine w_putI CC_nd fl_RX2_7 rfl rfl (ic_2 hb) dX2_changeAir_34 (fun M30_ hM31_ => ?_)
    have hI32_ := hIz.put hM31_ trivial
    have hF33_ := hFz.put hM31_ (Or.inr (Or.inr (Or.inl ⟨rfl, rfl, rfl⟩)))
    refine w_goto (tgt := 58) dX2_changeAir_37 (by decide) ?_
    refine w_iload_n dX2_changeAir_58 rfl 0 rfl ?_
    exact w_iret rfl dX2_changeAir_59 ⟨hI32_, hF33_, trivial, (Or.inr ⟨h1_, z27_, e28_, h29_, M30_, hM31_, rfl, rfl⟩)⟩
def S_c_X2_strength (b : Nat) : rf → Nat → Prop := fun c k => (c.1 = 29 ∧ c.2.1 = b ∧ k = 0) ∨ (c.1 = 29 ∧ c.2.1 = b ∧ k = 1) ∨ (c.1 = 29 ∧ c.2.1 = b ∧ k = 2) ∨ (c.1 = 29 ∧ c.2.1 = b ∧ k = 3) ∨ (c.1 = 25 ∧ c.2.1 = b ∧ c.2.2 = 0) ∨ False
def SP_X2_strength (b : Nat) (v : Int32) (u : Int32) (t : Int32) (Mz : mM) (r_ : Int32) (M_ : mM) : Prop := ∃ z1_ : Int32, (z1_ = u / (100 : Int32)) ∧ ∃ z3_ : Int32, (z3_ = u - u / (100 : Int32) * (100 : Int32)) ∧ (((v.toInt < 0) ∧ r_ = 0 ∧ M_ = Mz) ∨ ((0 ≤ v.toInt) ∧ (((5 ≤ v.toInt) ∧ r_ = 0 ∧ M_ = Mz) ∨ ((v.toInt < 5) ∧ ∃ j9_ : Nat, ((j9_ : Int) = v.toInt) ∧ ∃ z7_ : Int32, (z7_ = Mz.1 (27, b, 0) j9_) ∧ (((z7_.toInt ≤ z1_.toInt) ∧ ∃ j14_ : Nat, ((j14_ : Int) = v.toInt) ∧ ∃ z12_ : Int32, (z12_ = Mz.1 (26, b, 0) j14_) ∧ ∃ z16_ : Int32, (z16_ = z3_ * z12_) ∧ ∃ z18_ : Int32, (z18_ = z16_ / (50 : Int32)) ∧ ∃ z20_ : Int32, (z20_ = (2 : Int32) * t) ∧ ∃ z22_ : Int32, (z22_ = z18_ - z20_) ∧ ∃ r24_ : Int32, (SP_X1_isGiven b 0 Mz r24_) ∧ ((0 ≤ r24_.toInt ∧ r24_.toInt ≤ 1)) ∧ (((r24_.toInt = 0) ∧ ∃ z30_ : Int32, ((z30_.toInt = 999 ∧ 999 ≤ z22_.toInt) ∨ (z30_.toInt = z22_.toInt ∧ z22_.toInt ≤ 999)) ∧ ∃ z32_ : Int32, ((z32_.toInt = 0 ∧ z30_.toInt ≤ 0) ∨ (z32_.toInt = z30_.toInt ∧ 0 ≤ z30_.toInt)) ∧ ∃ z34_ : Int32, (z34_ = Mz.1 (2, b, 0) 2) ∧ (((¬ z34_.toInt = 1) ∧ r_ = z32_ ∧ M_ = Mz) ∨ ((z34_.toInt = 1) ∧ ∃ z37_ : Int32, (z37_.toInt = z32_.toInt / 2) ∧ r_ = z37_ ∧ M_ = Mz))) ∨ ((¬ r24_.toInt = 0) ∧ ∃ M39_ : mM, (M39_ = up Mz (29, b, 0) 0 z3_) ∧ ∃ j45_ : Nat, ((j45_ : Int) = v.toInt) ∧ ∃ z43_ : Int32, (z43_ = M39_.1 (26, b, 0) j45_) ∧ ∃ M47_ : mM, (M47_ = up M39_ (29, b, 0) 1 z43_) ∧ ∃ M51_ : mM, (M51_ = up M47_ (29, b, 0) 2 t) ∧ ∃ M55_ : mM, (M55_ = up M51_ (29, b, 0) 3 z1_) ∧ (Inv M55_) ∧ ∃ M60_ : mM, (Inv M60_) ∧ (FR (S_c_X1_work b 0 b) M55_ M60_) ∧ ∃ r59_ : Int32, (SP_X1_work b 0 b M55_ r59_ M60_) ∧ ∃ z67_ : Int32, ((z67_.toInt = 999 ∧ 999 ≤ r59_.toInt) ∨ (z67_.toInt = r59_.toInt ∧ r59_.toInt ≤ 999)) ∧ ∃ z69_ : Int32, ((z69_.toInt = 0 ∧ z67_.toInt ≤ 0) ∨ (z69_.toInt = z67_.toInt ∧ 0 ≤ z67_.toInt)) ∧ ∃ z71_ : Int32, (z71_ = M60_.1 (2, b, 0) 2) ∧ (((¬ z71_.toInt = 1) ∧ r_ = z69_ ∧ M_ = M60_) ∨ ((z71_.toInt = 1) ∧ ∃ z74_ : Int32, (z74_.toInt = z69_.toInt / 2) ∧ r_ = z74_ ∧ M_ = M60_))))) ∨ ((z1_.toInt < z7_.toInt) ∧ r_ = 0 ∧ M_ = Mz))))))
theorem lf_c_X2_strength_2 (Mz : mM) (b : Nat) (v : Int32) (z1_ : Int32) (j9_ : Nat) (z7_ : Int32) (j14_ : Nat) (z12_ : Int32) (hb : b < 3) (h5_ : 0 ≤ v.toInt) (h6_ : v.toInt < 5) (h10_ : (j9_ : Int) = v.toInt) (e8_ : z7_ = Mz.1 (27, b, 0) j9_) (h11_ : z7_.toInt ≤ z1_.toInt) (h15_ : (j14_ : Int) = v.toInt) (e13_ : z12_ = Mz.1 (26, b, 0) j14_) : vF b 0 := by have r_v := rngI v; have r_z1_ := rngI z1_; have r_z7_ := rngI z7_; have r_z12_ := rngI z12_; unfold vF; omega
theorem lf_c_X2_strength_4 (z30_ : Int32) (z32_ : Int32) (h33_ : (z32_.toInt = 0 ∧ z30_.toInt ≤ 0) ∨ (z32_.toInt = z30_.toInt ∧ 0 ≤ z30_.toInt)) : 0 ≤ z32_.toInt := by omega
theorem lf_c_X2_strength_6 (M39_ : mM) (M47_ : mM) (M51_ : mM) (M55_ : mM) (Mz : mM) (b : Nat) (v : Int32) (t : Int32) (z1_ : Int32) (z3_ : Int32) (j9_ : Nat) (z7_ : Int32) (j14_ : Nat) (z12_ : Int32) (j45_ : Nat) (z43_ : Int32) (hb : b < 3) (h5_ : 0 ≤ v.toInt) (h6_ : v.toInt < 5) (h10_ : (j9_ : Int) = v.toInt) (e8_ : z7_ = Mz.1 (27, b, 0) j9_) (h11_ : z7_.toInt ≤ z1_.toInt) (h15_ : (j14_ : Int) = v.toInt) (e13_ : z12_ = Mz.1 (26, b, 0) j14_) (hM40_ : M39_ = up Mz (29, b, 0) 0 z3_) (h46_ : (j45_ : Int) = v.toInt) (e44_ : z43_ = M39_.1 (26, b, 0) j45_) (hM48_ : M47_ = up M39_ (29, b, 0) 1 z43_) (hM52_ : M51_ = up M47_ (29, b, 0) 2 t) (hM56_ : M55_ = up M51_ (29, b, 0) 3 z1_) : vF b 0 := by have r_v := rngI v; have r_t := rngI t; have r_z1_ := rngI z1_; have r_z3_ := rngI z3_; have r_z7_ := rngI z7_; have r_z12_ := rngI z12_; have r_z43_ := rngI z43_; unfold vF; omega
set_option maxHeartbeats 4000000 in
set_option maxRecDepth 100000 in
theorem c_X2_strength (l : Launch) (G : va_G) (cy : Nat → ClassId) (ad : rf → Nat) (d : Nat) (b : Nat) (v : Int32) (u : Int32) (t : Int32) (Mz : mM) (hIz : Inv Mz) (hb : b < 3) : WP CC l G cy ad yX2_strength cX2_strength 8 (some .int) (d + 1) 0 [(0, vR (2, b, 0)), (1, vI v), (2, vI u), (3, vI t)] [] Mz (fun r M' => Inv M' ∧ FR (S_c_X2_strength b) Mz M' ∧ (True) ∧ SP_X2_strength b v u t Mz r M') := by
  have hFz : FR (S_c_X2_strength b) Mz Mz := FR.self
  refine w_iload_n dX2_strength_0 rfl 2 rfl ?_
  refine w_bipush (v := 100) dX2_strength_1 (by decide) ?_
  refine w_idiv dX2_strength_3 (by decide) (fun z1_ h2_ => ?_)
  refine w_istore (ls' := [(4, vI z1_), (0, vR (2, b, 0)), (1, vI v), (2, vI u), (3, vI t)]) dX2_strength_4 (by decide) rfl ?_
  refine w_iload_n dX2_strength_6 rfl 3 rfl ?_
  refine w_bipush (v := 100) dX2_strength_7 (by decide) ?_
  refine w_irem dX2_strength_9 (by decide) (fun z3_ h4_ => ?_)
  refine w_istore (ls' := [(5, vI z3_), (4, vI z1_), (0, vR (2, b, 0)), (1, vI v), (2, vI u), (3, vI t)]) dX2_strength_10 (by decide) rfl ?_
  refine w_iload_n dX2_strength_12 rfl 3 rfl ?_
  refine w_if_lt (tgt := 32) dX2_strength_13 (by decide) (rfl : v.toInt = v.toInt) (fun h5_ => ?_) (fun h5_ => ?_)
  · refine w_iconst (v := 0) dX2_strength_32 (by decide) ?_
    exact w_iret rfl dX2_strength_33 ⟨hIz, hFz, trivial, ⟨z1_, h2_, z3_, h4_, (Or.inl ⟨h5_, rfl, rfl⟩)⟩⟩
  · refine w_iload_n dX2_strength_16 rfl 3 rfl ?_
    refine w_iconst (v := 5) dX2_strength_17 (by decide) ?_
    refine w_icmp_ge (tgt := 32) dX2_strength_18 (by decide) (rfl : v.toInt = v.toInt) li_5 (fun h6_ => ?_) (fun h6_ => ?_)
    · refine w_iconst (v := 0) dX2_strength_32 (by decide) ?_
      exact w_iret rfl dX2_strength_33 ⟨hIz, hFz, trivial, ⟨z1_, h2_, z3_, h4_, (Or.inr ⟨h5_, (Or.inl ⟨h6_, rfl, rfl⟩)⟩)⟩⟩
    · refine w_aload_n dX2_strength_21 rfl 2 rfl ?_
      refine w_getR (c' := (27, b, 0)) fl_RX2_25 rfl rfl (ic_2 hb) dX2_strength_22 rfl ?_
      refine w_iload_n dX2_strength_25 rfl 3 rfl ?_
      refine w_iald rfl rfl (ic_27 hb) (rfl : v.toInt = v.toInt) (lf_c_X1_work_688 v h5_ h6_ ) dX2_strength_26 (fun j9_ h10_ z7_ e8_ => ?_)
      refine w_iload dX2_strength_27 1 rfl ?_
      refine w_icmp_le (tgt := 34) dX2_strength_29 (by decide) (rfl : z7_.toInt = z7_.toInt) (rfl : z1_.toInt = z1_.toInt) (fun h11_ => ?_) (fun h11_ => ?_)
      · refine w_iload dX2_strength_34 0 rfl ?_
        refine w_aload_n dX2_strength_36 rfl 2 rfl ?_
        refine w_getR (c' := (26, b, 0)) fl_RX2_21 rfl rfl (ic_2 hb) dX2_strength_37 rfl ?_
        refine w_iload_n dX2_strength_40 rfl 3 rfl ?_
        refine w_iald rfl rfl (ic_26 hb) (rfl : v.toInt = v.toInt) (lf_c_X1_work_688 v h5_ h6_ ) dX2_strength_41 (fun j14_ h15_ z12_ e13_ => ?_)
        refine w_imul dX2_strength_42 (fun z16_ h17_ => ?_)
        refine w_bipush (v := 50) dX2_strength_43 (by decide) ?_
        refine w_idiv dX2_strength_45 (by decide) (fun z18_ h19_ => ?_)
        refine w_iconst (v := 2) dX2_strength_46 (by decide) ?_
        refine w_iload_n dX2_strength_47 rfl 5 rfl ?_
        refine w_imul dX2_strength_48 (fun z20_ h21_ => ?_)
        refine w_isub dX2_strength_49 (fun z22_ h23_ => ?_)
        refine w_istore (ls' := [(6, vI z22_), (5, vI z3_), (4, vI z1_), (0, vR (2, b, 0)), (1, vI v), (2, vI u), (3, vI t)]) dX2_strength_50 (by decide) rfl ?_
        refine w_aload_n dX2_strength_52 rfl 3 rfl ?_
        refine w_getR (c' := (28, b, 0)) fl_RX2_30 rfl rfl (ic_2 hb) dX2_strength_53 rfl ?_
        refine w_iconst (v := 0) dX2_strength_56 (by decide) ?_
        refine w_aaldL 0 rfl rfl rfl (fun _ => rfl) (ic_28 hb) li_0 (by decide) dX2_strength_57 ?_
        refine w_callV (as := []) (rest := []) (c_X1_isGiven l G cy ad d b 0 Mz hIz (lf_c_X2_strength_2 Mz b v z1_ j9_ z7_ j14_ z12_ hb h5_ h6_ h10_ e8_ h11_ h15_ e13_ )) kV_X1_isGiven pnn_6 (Nat.le_of_ble_eq_true rfl) m_877 rfl rfl rfl (ic_1 (lf_c_X2_strength_2 Mz b v z1_ j9_ z7_ j14_ z12_ hb h5_ h6_ h10_ e8_ h11_ h15_ e13_ )) rfl rfl (by decide) (Nat.le_of_ble_eq_true rfl) dX2_strength_58 (fun r24_ M25_ q26_ => ?_)
        obtain ⟨rfl, h27_, hs28_⟩ := q26_
        refine w_if_eq (tgt := 114) dX2_strength_61 (by decide) (rfl : r24_.toInt = r24_.toInt) (fun h29_ => ?_) (fun h29_ => ?_)
        · refine w_iconst (v := 0) dX2_strength_114 (by decide) ?_
          refine w_sipush (v := 999) dX2_strength_115 (by decide) ?_
          refine w_iload dX2_strength_118 0 rfl ?_
          refine w_min m_885 m_770 m_86 m_771 li_999 (rfl : z22_.toInt = z22_.toInt) (Nat.le_of_ble_eq_true rfl) (by omega) dX2_strength_120 (fun z30_ h31_ => ?_)
          refine w_max m_886 m_206 m_86 m_207 li_0 (rfl : z30_.toInt = z30_.toInt) (Nat.le_of_ble_eq_true rfl) (by omega) dX2_strength_123 (fun z32_ h33_ => ?_)
          refine w_istore (ls' := [(7, vI z32_), (6, vI z22_), (5, vI z3_), (4, vI z1_), (0, vR (2, b, 0)), (1, vI v), (2, vI u), (3, vI t)]) dX2_strength_126 (by decide) rfl ?_
          refine w_aload_n dX2_strength_128 rfl 4 rfl ?_
          refine w_getI fl_RX2_16 rfl rfl (ic_2 hb) dX2_strength_129 (fun z34_ e35_ => ?_)
          refine w_iconst (v := 1) dX2_strength_132 (by decide) ?_
          refine w_icmp_ne (tgt := 143) dX2_strength_133 (by decide) (rfl : z34_.toInt = z34_.toInt) li_1 (fun h36_ => ?_) (fun h36_ => ?_)
          · refine w_iload dX2_strength_143 0 rfl ?_
            exact w_iret rfl dX2_strength_145 ⟨hIz, hFz, trivial, ⟨z1_, h2_, z3_, h4_, (Or.inr ⟨h5_, (Or.inr ⟨h6_, j9_, h10_, z7_, e8_, (Or.inl ⟨h11_, j14_, h15_, z12_, e13_, z16_, h17_, z18_, h19_, z20_, h21_, z22_, h23_, r24_, hs28_, h27_, (Or.inl ⟨h29_, z30_, h31_, z32_, h33_, z34_, e35_, (Or.inl ⟨h36_, rfl, rfl⟩)⟩)⟩)⟩)⟩)⟩⟩
          · refine w_iload dX2_strength_136 0 rfl ?_
            refine w_iconst (v := 2) dX2_strength_138 (by decide) ?_
            refine w_idivB dX2_strength_139 (by decide) (rfl : z32_.toInt = z32_.toInt) li_2 (lf_c_X2_strength_4 z30_ z32_ h33_ ) (by decide) (fun z37_ h38_ => ?_)
            refine w_goto (tgt := 145) dX2_strength_140 (by decide) ?_
            exact w_iret rfl dX2_strength_145 ⟨hIz, hFz, trivial, ⟨z1_, h2_, z3_, h4_, (Or.inr ⟨h5_, (Or.inr ⟨h6_, j9_, h10_, z7_, e8_, (Or.inl ⟨h11_, j14_, h15_, z12_, e13_, z16_, h17_, z18_, h19_, z20_, h21_, z22_, h23_, r24_, hs28_, h27_, (Or.inl ⟨h29_, z30_, h31_, z32_, h33_, z34_, e35_, (Or.inr ⟨h36_, z37_, h38_, rfl, rfl⟩)⟩)⟩)⟩)⟩)⟩⟩
        · refine w_aload_n dX2_strength_64 rfl 3 rfl ?_
          refine w_getR (c' := (29, b, 0)) fl_RX2_34 rfl rfl (ic_2 hb) dX2_strength_65 rfl ?_
          refine w_iconst (v := 0) dX2_strength_68 (by decide) ?_
          refine w_iload dX2_strength_69 1 rfl ?_
          refine w_iastL 0 CC_nd rfl rfl (ic_29 hb) li_0 (by decide) dX2_strength_71 (fun M39_ hM40_ => ?_)
          have hI41_ := hIz.put hM40_ trivial
          have hF42_ := hFz.put hM40_ (Or.inl ⟨rfl, rfl, rfl⟩)
          refine w_aload_n dX2_strength_72 rfl 3 rfl ?_
          refine w_getR (c' := (29, b, 0)) fl_RX2_34 rfl rfl (ic_2 hb) dX2_strength_73 rfl ?_
          refine w_iconst (v := 1) dX2_strength_76 (by decide) ?_
          refine w_aload_n dX2_strength_77 rfl 3 rfl ?_
          refine w_getR (c' := (26, b, 0)) fl_RX2_21 rfl rfl (ic_2 hb) dX2_strength_78 rfl ?_
          refine w_iload_n dX2_strength_81 rfl 4 rfl ?_
          refine w_iald rfl rfl (ic_26 hb) (rfl : v.toInt = v.toInt) (lf_c_X1_work_688 v h5_ h6_ ) dX2_strength_82 (fun j45_ h46_ z43_ e44_ => ?_)
          refine w_iastL 1 CC_nd rfl rfl (ic_29 hb) li_1 (by decide) dX2_strength_83 (fun M47_ hM48_ => ?_)
          have hI49_ := hI41_.put hM48_ trivial
          have hF50_ := hF42_.put hM48_ (Or.inr (Or.inl ⟨rfl, rfl, rfl⟩))
          refine w_aload_n dX2_strength_84 rfl 3 rfl ?_
          refine w_getR (c' := (29, b, 0)) fl_RX2_34 rfl rfl (ic_2 hb) dX2_strength_85 rfl ?_
          refine w_iconst (v := 2) dX2_strength_88 (by decide) ?_
          refine w_iload_n dX2_strength_89 rfl 6 rfl ?_
          refine w_iastL 2 CC_nd rfl rfl (ic_29 hb) li_2 (by decide) dX2_strength_90 (fun M51_ hM52_ => ?_)
          have hI53_ := hI49_.put hM52_ trivial
          have hF54_ := hF50_.put hM52_ (Or.inr (Or.inr (Or.inl ⟨rfl, rfl, rfl⟩)))
          refine w_aload_n dX2_strength_91 rfl 3 rfl ?_
          refine w_getR (c' := (29, b, 0)) fl_RX2_34 rfl rfl (ic_2 hb) dX2_strength_92 rfl ?_
          refine w_iconst (v := 3) dX2_strength_95 (by decide) ?_
          refine w_iload dX2_strength_96 2 rfl ?_
          refine w_iastL 3 CC_nd rfl rfl (ic_29 hb) li_3 (by decide) dX2_strength_98 (fun M55_ hM56_ => ?_)
          have hI57_ := hI53_.put hM56_ trivial
          have hF58_ := hF54_.put hM56_ (Or.inr (Or.inr (Or.inr (Or.inl ⟨rfl, rfl, rfl⟩))))
          refine w_aload_n dX2_strength_99 rfl 3 rfl ?_
          refine w_getR (c' := (28, b, 0)) fl_RX2_30 rfl rfl (ic_2 hb) dX2_strength_100 rfl ?_
          refine w_iconst (v := 0) dX2_strength_103 (by decide) ?_
          refine w_aaldL 0 rfl rfl rfl (fun _ => rfl) (ic_28 hb) li_0 (by decide) dX2_strength_104 ?_
          refine w_aload_n dX2_strength_105 rfl 3 rfl ?_
          refine w_getR (c' := (29, b, 0)) fl_RX2_34 rfl rfl (ic_2 hb) dX2_strength_106 rfl ?_
          refine w_callV (as := [vR (29, b, 0)]) (rest := []) (c_X1_work l G cy ad d b 0 b M55_ hI57_ (lf_c_X2_strength_6 M39_ M47_ M51_ M55_ Mz b v t z1_ z3_ j9_ z7_ j14_ z12_ j45_ z43_ hb h5_ h6_ h10_ e8_ h11_ h15_ e13_ hM40_ h46_ e44_ hM48_ hM52_ hM56_ ) hb) kV_X1_work pnn_6 (Nat.le_of_ble_eq_true rfl) m_881 rfl rfl rfl (ic_1 (lf_c_X2_strength_6 M39_ M47_ M51_ M55_ Mz b v t z1_ z3_ j9_ z7_ j14_ z12_ j45_ z43_ hb h5_ h6_ h10_ e8_ h11_ h15_ e13_ hM40_ h46_ e44_ hM48_ hM52_ hM56_ )) rfl rfl (by decide) (Nat.le_of_ble_eq_true rfl) dX2_strength_109 (fun r59_ M60_ q61_ => ?_)
          obtain ⟨hI63_, hF64_, h62_, hs66_⟩ := q61_
          have hF65_ := hF58_.tr hF64_ (fun c k => (fun h => h.elim (fun h => (Or.inr (Or.inr (Or.inr (Or.inr (Or.inl ⟨h.1, h.2.1, h.2.2⟩)))))) (fun h => h.elim)))
          refine w_istore (ls' := [(6, vI r59_), (5, vI z3_), (4, vI z1_), (0, vR (2, b, 0)), (1, vI v), (2, vI u), (3, vI t)]) dX2_strength_112 (by decide) rfl ?_
          refine w_iconst (v := 0) dX2_strength_114 (by decide) ?_
          refine w_sipush (v := 999) dX2_strength_115 (by decide) ?_
          refine w_iload dX2_strength_118 0 rfl ?_
          refine w_min m_885 m_770 m_86 m_771 li_999 (rfl : r59_.toInt = r59_.toInt) (Nat.le_of_ble_eq_true rfl) (by omega) dX2_strength_120 (fun z67_ h68_ => ?_)
          refine w_max m_886 m_206 m_86 m_207 li_0 (rfl : z67_.toInt = z67_.toInt) (Nat.le_of_ble_eq_true rfl) (by omega) dX2_strength_123 (fun z69_ h70_ => ?_)
          refine w_istore (ls' := [(7, vI z69_), (6, vI r59_), (5, vI z3_), (4, vI z1_), (0, vR (2, b, 0)), (1, vI v), (2, vI u), (3, vI t)]) dX2_strength_126 (by decide) rfl ?_
          refine w_aload_n dX2_strength_128 rfl 4 rfl ?_
          refine w_getI fl_RX2_16 rfl rfl (ic_2 hb) dX2_strength_129 (fun z71_ e72_ => ?_)
          refine w_iconst (v := 1) dX2_strength_132 (by decide) ?_
          refine w_icmp_ne (tgt := 143) dX2_strength_133 (by decide) (rfl : z71_.toInt = z71_.toInt) li_1 (fun h73_ => ?_) (fun h73_ => ?_)
          · refine w_iload dX2_strength_143 0 rfl ?_
            exact w_iret rfl dX2_strength_145 ⟨hI63_, hF65_, trivial, ⟨z1_, h2_, z3_, h4_, (Or.inr ⟨h5_, (Or.inr ⟨h6_, j9_, h10_, z7_, e8_, (Or.inl ⟨h11_, j14_, h15_, z12_, e13_, z16_, h17_, z18_, h19_, z20_, h21_, z22_, h23_, r24_, hs28_, h27_, (Or.inr ⟨h29_, M39_, hM40_, j45_, h46_, z43_, e44_, M47_, hM48_, M51_, hM52_, M55_, hM56_, hI57_, M60_, hI63_, hF64_, r59_, hs66_, z67_, h68_, z69_, h70_, z71_, e72_, (Or.inl ⟨h73_, rfl, rfl⟩)⟩)⟩)⟩)⟩)⟩⟩
          · refine w_iload dX2_strength_136 0 rfl ?_
            refine w_iconst (v := 2) dX2_strength_138 (by decide) ?_
            refine w_idivB dX2_strength_139 (by decide) (rfl : z69_.toInt = z69_.toInt) li_2 (lf_c_X2_strength_4 z67_ z69_ h70_ ) (by decide) (fun z74_ h75_ => ?_)
            refine w_goto (tgt := 145) dX2_strength_140 (by decide) ?_
            exact w_iret rfl dX2_strength_145 ⟨hI63_, hF65_, trivial, ⟨z1_, h2_, z3_, h4_, (Or.inr ⟨h5_, (Or.inr ⟨h6_, j9_, h10_, z7_, e8_, (Or.inl ⟨h11_, j14_, h15_, z12_, e13_, z16_, h17_, z18_, h19_, z20_, h21_, z22_, h23_, r24_, hs28_, h27_, (Or.inr ⟨h29_, M39_, hM40_, j45_, h46_, z43_, e44_, M47_, hM48_, M51_, hM52_, M55_, hM56_, hI57_, M60_, hI63_, hF64_, r59_, hs66_, z67_, h68_, z69_, h70_, z71_, e72_, (Or.inr ⟨h73_, z74_, h75_, rfl, rfl⟩)⟩)⟩)⟩)⟩)⟩⟩
      · refine w_iconst (v := 0) dX2_strength_32 (by decide) ?_
        exact w_iret rfl dX2_strength_33 ⟨hIz, hFz, trivial, ⟨z1_, h2_, z3_, h4_, (Or.inr ⟨h5_, (Or.inr ⟨h6_, j9_, h10_, z7_, e8_, (Or.inr ⟨h11_, rfl, rfl⟩)⟩)⟩)⟩⟩
def S_c_X2_isHeard (b : Nat) : rf → Nat → Prop := fun c k => (c.1 = 29 ∧ c.2.1 = b ∧ k = 0) ∨ (c.1 = 29 ∧ c.2.1 = b ∧ k = 1) ∨ (c.1 = 29 ∧ c.2.1 = b ∧ k = 2) ∨ (c.1 = 25 ∧ c.2.1 = b ∧ c.2.2 = 1) ∨ False
def SP_X2_isHeard (b : Nat) (v : Int32) (u : Int32) (t : Int32) (s : Int32) (Mz : mM) (r_ : Int32) (M_ : mM) : Prop := ∃ z1_ : Int32, (z1_ = u / (100 : Int32)) ∧ (((v.toInt < z1_.toInt) ∧ r_ = 0 ∧ M_ = Mz) ∨ ((z1_.toInt ≤ v.toInt) ∧ ∃ z4_ : Int32, (z4_ = Mz.1 (2, b, 0) 1) ∧ (((t.toInt ≤ z4_.toInt) ∧ r_ = 0 ∧ M_ = Mz) ∨ ((z4_.toInt < t.toInt) ∧ (((¬ s.toInt = 0) ∧ ∃ r8_ : Int32, (SP_X1_isGiven b 1 Mz r8_) ∧ ((0 ≤ r8_.toInt ∧ r8_.toInt ≤ 1)) ∧ (((¬ r8_.toInt = 0) ∧ ∃ M14_ : mM, (M14_ = up Mz (29, b, 0) 0 s) ∧ ∃ z18_ : Int32, (z18_ = M14_.1 (2, b, 0) 0) ∧ ∃ M20_ : mM, (M20_ = up M14_ (29, b, 0) 1 z18_) ∧ ∃ M24_ : mM, (M24_ = up M20_ (29, b, 0) 2 t) ∧ (Inv M24_) ∧ ∃ M29_ : mM, (Inv M29_) ∧ (FR (S_c_X1_work b 1 b) M24_ M29_) ∧ ∃ r28_ : Int32, (SP_X1_work b 1 b M24_ r28_ M29_) ∧ (((r28_.toInt = 0) ∧ r_ = 0 ∧ M_ = M29_) ∨ ((¬ r28_.toInt = 0) ∧ r_ = 1 ∧ M_ = M29_))) ∨ ((r8_.toInt = 0) ∧ ∃ z37_ : Int32, (z37_ = Mz.1 (2, b, 0) 0) ∧ (((s.toInt ≤ z37_.toInt) ∧ r_ = 0 ∧ M_ = Mz) ∨ ((z37_.toInt < s.toInt) ∧ r_ = 1 ∧ M_ = Mz))))) ∨ ((s.toInt = 0) ∧ r_ = 0 ∧ M_ = Mz))))))
theorem lf_c_X2_isHeard_0 (Mz : mM) (b : Nat) (t : Int32) (z4_ : Int32) (hb : b < 3) (e5_ : z4_ = Mz.1 (2, b, 0) 1) (h6_ : z4_.toInt < t.toInt) : vF b 1 := by have r_t := rngI t; have r_z4_ := rngI z4_; unfold vF; omega
theorem lf_c_X2_isHeard_2 (M14_ : mM) (M20_ : mM) (M24_ : mM) (Mz : mM) (b : Nat) (t : Int32) (s : Int32) (z4_ : Int32) (z18_ : Int32) (hb : b < 3) (e5_ : z4_ = Mz.1 (2, b, 0) 1) (h6_ : z4_.toInt < t.toInt) (h7_ : ¬ s.toInt = 0) (hM15_ : M14_ = up Mz (29, b, 0) 0 s) (e19_ : z18_ = M14_.1 (2, b, 0) 0) (hM21_ : M20_ = up M14_ (29, b, 0) 1 z18_) (hM25_ : M24_ = up M20_ (29, b, 0) 2 t) : vF b 1 := by have r_t := rngI t; have r_s := rngI s; have r_z4_ := rngI z4_; have r_z18_ := rngI z18_; unfold vF; omega
set_option maxHeartbeats 4000000 in
set_option maxRecDepth 100000 in
theorem c_X2_isHeard (l : Launch) (G : va_G) (cy : Nat → ClassId) (ad : rf → Nat) (d : Nat) (b : Nat) (v : Int32) (u : Int32) (t : Int32) (s : Int32) (Mz : mM) (hIz : Inv Mz) (hb : b < 3) : WP CC l G cy ad yX2_isHeard cX2_isHeard 5 (some .boolean) (d + 1) 0 [(0, vR (2, b, 0)), (1, vI v), (2, vI u), (3, vI t), (4, vI s)] [] Mz (fun r M' => Inv M' ∧ FR (S_c_X2_isHeard b) Mz M' ∧ ((0 ≤ r.toInt ∧ r.toInt ≤ 1)) ∧ SP_X2_isHeard b v u t s Mz r M') := by
  have hFz : FR (S_c_X2_isHeard b) Mz Mz := FR.self
  refine w_iload_n dX2_isHeard_0 rfl 2 rfl ?_
  refine w_bipush (v := 100) dX2_isHeard_1 (by decide) ?_
  refine w_idiv dX2_isHeard_3 (by decide) (fun z1_ h2_ => ?_)
  refine w_iload_n dX2_isHeard_4 rfl 1 rfl ?_
  refine w_icmp_gt (tgt := 21) dX2_isHeard_5 (by decide) (rfl : z1_.toInt = z1_.toInt) (rfl : v.toInt = v.toInt) (fun h3_ => ?_) (fun h3_ => ?_)
  · refine w_iconst (v := 0) dX2_isHeard_21 (by decide) ?_
    exact w_zret rfl dX2_isHeard_22 ⟨by decide, by decide⟩ ⟨hIz, hFz, ⟨by decide, by decide⟩, ⟨z1_, h2_, (Or.inl ⟨h3_, rfl, rfl⟩)⟩⟩
  · refine w_iload_n dX2_isHeard_8 rfl 3 rfl ?_
    refine w_aload_n dX2_isHeard_9 rfl 0 rfl ?_
    refine w_getI fl_RX2_13 rfl rfl (ic_2 hb) dX2_isHeard_10 (fun z4_ e5_ => ?_)
    refine w_icmp_le (tgt := 21) dX2_isHeard_13 (by decide) (rfl : t.toInt = t.toInt) (rfl : z4_.toInt = z4_.toInt) (fun h6_ => ?_) (fun h6_ => ?_)
    · refine w_iconst (v := 0) dX2_isHeard_21 (by decide) ?_
      exact w_zret rfl dX2_isHeard_22 ⟨by decide, by decide⟩ ⟨hIz, hFz, ⟨by decide, by decide⟩, ⟨z1_, h2_, (Or.inr ⟨h3_, z4_, e5_, (Or.inl ⟨h6_, rfl, rfl⟩)⟩)⟩⟩
    · refine w_iload dX2_isHeard_16 4 rfl ?_
      refine w_if_ne (tgt := 23) dX2_isHeard_18 (by decide) (rfl : s.toInt = s.toInt) (fun h7_ => ?_) (fun h7_ => ?_)
      · refine w_aload_n dX2_isHeard_23 rfl 0 rfl ?_
        refine w_getR (c' := (28, b, 0)) fl_RX2_30 rfl rfl (ic_2 hb) dX2_isHeard_24 rfl ?_
        refine w_iconst (v := 1) dX2_isHeard_27 (by decide) ?_
        refine w_aaldL 1 rfl rfl rfl (fun _ => rfl) (ic_28 hb) li_1 (by decide) dX2_isHeard_28 ?_
        refine w_callV (as := []) (rest := []) (c_X1_isGiven l G cy ad d b 1 Mz hIz (lf_c_X2_isHeard_0 Mz b t z4_ hb e5_ h6_ )) kV_X1_isGiven pnn_6 (Nat.le_of_ble_eq_true rfl) m_877 rfl rfl rfl (ic_1 (lf_c_X2_isHeard_0 Mz b t z4_ hb e5_ h6_ )) rfl rfl (by decide) (Nat.le_of_ble_eq_true rfl) dX2_isHeard_29 (fun r8_ M9_ q10_ => ?_)
        obtain ⟨rfl, h11_, hs12_⟩ := q10_
        refine w_if_ne (tgt := 50) dX2_isHeard_32 (by decide) (rfl : r8_.toInt = r8_.toInt) (fun h13_ => ?_) (fun h13_ => ?_)
        · refine w_aload_n dX2_isHeard_50 rfl 0 rfl ?_
          refine w_getR (c' := (29, b, 0)) fl_RX2_34 rfl rfl (ic_2 hb) dX2_isHeard_51 rfl ?_
          refine w_iconst (v := 0) dX2_isHeard_54 (by decide) ?_
          refine w_iload dX2_isHeard_55 4 rfl ?_
          refine w_iastL 0 CC_nd rfl rfl (ic_29 hb) li_0 (by decide) dX2_isHeard_57 (fun M14_ hM15_ => ?_)
          have hI16_ := hIz.put hM15_ trivial
          have hF17_ := hFz.put hM15_ (Or.inl ⟨rfl, rfl, rfl⟩)
          refine w_aload_n dX2_isHeard_58 rfl 0 rfl ?_
          refine w_getR (c' := (29, b, 0)) fl_RX2_34 rfl rfl (ic_2 hb) dX2_isHeard_59 rfl ?_
          refine w_iconst (v := 1) dX2_isHeard_62 (by decide) ?_
          refine w_aload_n dX2_isHeard_63 rfl 0 rfl ?_
          refine w_getI fl_RX2_7 rfl rfl (ic_2 hb) dX2_isHeard_64 (fun z18_ e19_ => ?_)
          refine w_iastL 1 CC_nd rfl rfl (ic_29 hb) li_1 (by decide) dX2_isHeard_67 (fun M20_ hM21_ => ?_)
          have hI22_ := hI16_.put hM21_ trivial
          have hF23_ := hF17_.put hM21_ (Or.inr (Or.inl ⟨rfl, rfl, rfl⟩))
          refine w_aload_n dX2_isHeard_68 rfl 0 rfl ?_
          refine w_getR (c' := (29, b, 0)) fl_RX2_34 rfl rfl (ic_2 hb) dX2_isHeard_69 rfl ?_
          refine w_iconst (v := 2) dX2_isHeard_72 (by decide) ?_
          refine w_iload_n dX2_isHeard_73 rfl 3 rfl ?_
          refine w_iastL 2 CC_nd rfl rfl (ic_29 hb) li_2 (by decide) dX2_isHeard_74 (fun M24_ hM25_ => ?_)
          have hI26_ := hI22_.put hM25_ trivial
          have hF27_ := hF23_.put hM25_ (Or.inr (Or.inr (Or.inl ⟨rfl, rfl, rfl⟩)))
          refine w_aload_n dX2_isHeard_75 rfl 0 rfl ?_
          refine w_getR (c' := (28, b, 0)) fl_RX2_30 rfl rfl (ic_2 hb) dX2_isHeard_76 rfl ?_
          refine w_iconst (v := 1) dX2_isHeard_79 (by decide) ?_
          refine w_aaldL 1 rfl rfl rfl (fun _ => rfl) (ic_28 hb) li_1 (by decide) dX2_isHeard_80 ?_
          refine w_aload_n dX2_isHeard_81 rfl 0 rfl ?_
          refine w_getR (c' := (29, b, 0)) fl_RX2_34 rfl rfl (ic_2 hb) dX2_isHeard_82 rfl ?_
          refine w_callV (as := [vR (29, b, 0)]) (rest := []) (c_X1_work l G cy ad d b 1 b M24_ hI26_ (lf_c_X2_isHeard_2 M14_ M20_ M24_ Mz b t s z4_ z18_ hb e5_ h6_ h7_ hM15_ e19_ hM21_ hM25_ ) hb) kV_X1_work pnn_6 (Nat.le_of_ble_eq_true rfl) m_881 rfl rfl rfl (ic_1 (lf_c_X2_isHeard_2 M14_ M20_ M24_ Mz b t s z4_ z18_ hb e5_ h6_ h7_ hM15_ e19_ hM21_ hM25_ )) rfl rfl (by decide) (Nat.le_of_ble_eq_true rfl) dX2_isHeard_85 (fun r28_ M29_ q30_ => ?_)
          obtain ⟨hI32_, hF33_, h31_, hs35_⟩ := q30_
          have hF34_ := hF27_.tr hF33_ (fun c k => (fun h => h.elim (fun h => (Or.inr (Or.inr (Or.inr (Or.inl ⟨h.1, h.2.1, h.2.2⟩))))) (fun h => h.elim)))
          refine w_if_eq (tgt := 95) dX2_isHeard_88 (by decide) (rfl : r28_.toInt = r28_.toInt) (fun h36_ => ?_) (fun h36_ => ?_)
          · refine w_iconst (v := 0) dX2_isHeard_95 (by decide) ?_
            exact w_zret rfl dX2_isHeard_96 ⟨by decide, by decide⟩ ⟨hI32_, hF34_, ⟨by decide, by decide⟩, ⟨z1_, h2_, (Or.inr ⟨h3_, z4_, e5_, (Or.inr ⟨h6_, (Or.inl ⟨h7_, r8_, hs12_, h11_, (Or.inl ⟨h13_, M14_, hM15_, z18_, e19_, M20_, hM21_, M24_, hM25_, hI26_, M29_, hI32_, hF33_, r28_, hs35_, (Or.inl ⟨h36_, rfl, rfl⟩)⟩)⟩)⟩)⟩)⟩⟩
          · refine w_iconst (v := 1) dX2_isHeard_91 (by decide) ?_
            refine w_goto (tgt := 96) dX2_isHeard_92 (by decide) ?_
            exact w_zret rfl dX2_isHeard_96 ⟨by decide, by decide⟩ ⟨hI32_, hF34_, ⟨by decide, by decide⟩, ⟨z1_, h2_, (Or.inr ⟨h3_, z4_, e5_, (Or.inr ⟨h6_, (Or.inl ⟨h7_, r8_, hs12_, h11_, (Or.inl ⟨h13_, M14_, hM15_, z18_, e19_, M20_, hM21_, M24_, hM25_, hI26_, M29_, hI32_, hF33_, r28_, hs35_, (Or.inr ⟨h36_, rfl, rfl⟩)⟩)⟩)⟩)⟩)⟩⟩
        · refine w_iload dX2_isHeard_35 4 rfl ?_
          refine w_aload_n dX2_isHeard_37 rfl 0 rfl ?_
          refine w_getI fl_RX2_7 rfl rfl (ic_2 hb) dX2_isHeard_38 (fun z37_ e38_ => ?_)
          refine w_icmp_le (tgt := 48) dX2_isHeard_41 (by decide) (rfl : s.toInt = s.toInt) (rfl : z37_.toInt = z37_.toInt) (fun h39_ => ?_) (fun h39_ => ?_)
          · refine w_iconst (v := 0) dX2_isHeard_48 (by decide) ?_
            exact w_zret rfl dX2_isHeard_49 ⟨by decide, by decide⟩ ⟨hIz, hFz, ⟨by decide, by decide⟩, ⟨z1_, h2_, (Or.inr ⟨h3_, z4_, e5_, (Or.inr ⟨h6_, (Or.inl ⟨h7_, r8_, hs12_, h11_, (Or.inr ⟨h13_, z37_, e38_, (Or.inl ⟨h39_, rfl, rfl⟩)⟩)⟩)⟩)⟩)⟩⟩
          · refine w_iconst (v := 1) dX2_isHeard_44 (by decide) ?_
            refine w_goto (tgt := 49) dX2_isHeard_45 (by decide) ?_
            exact w_zret rfl dX2_isHeard_49 ⟨by decide, by decide⟩ ⟨hIz, hFz, ⟨by decide, by decide⟩, ⟨z1_, h2_, (Or.inr ⟨h3_, z4_, e5_, (Or.inr ⟨h6_, (Or.inl ⟨h7_, r8_, hs12_, h11_, (Or.inr ⟨h13_, z37_, e38_, (Or.inr ⟨h39_, rfl, rfl⟩)⟩)⟩)⟩)⟩)⟩⟩
      · refine w_iconst (v := 0) dX2_isHeard_21 (by decide) ?_
        exact w_zret rfl dX2_isHeard_22 ⟨by decide, by decide⟩ ⟨hIz, hFz, ⟨by decide, by decide⟩, ⟨z1_, h2_, (Or.inr ⟨h3_, z4_, e5_, (Or.inr ⟨h6_, (Or.inr ⟨h7_, rfl, rfl⟩)⟩)⟩)⟩⟩
def S_c_X2_hears (b : Nat) : rf → Nat → Prop := fun c k => (c.1 = 29 ∧ c.2.1 = b ∧ k = 0) ∨ (c.1 = 29 ∧ c.2.1 = b ∧ k = 1) ∨ (c.1 = 29 ∧ c.2.1 = b ∧ k = 2) ∨ (c.1 = 29 ∧ c.2.1 = b ∧ k = 3) ∨ (c.1 = 25 ∧ c.2.1 = b ∧ c.2.2 = 0) ∨ (c.1 = 25 ∧ c.2.1 = b ∧ c.2.2 = 1) ∨ False
def SP_X2_hears (b : Nat) (v : Int32) (u : Int32) (t : Int32) (s : Int32) (q : Int32) (Mz : mM) (r_ : Int32) (M_ : mM) : Prop := ∃ r1_ : Int32, (SP_X2_late q s Mz r1_) ∧ ∃ M7_ : mM, (Inv M7_) ∧ (FR (S_c_X2_strength b) Mz M7_) ∧ ∃ r6_ : Int32, (SP_X2_strength b u t s Mz r6_ M7_) ∧ ∃ M15_ : mM, (Inv M15_) ∧ (FR (S_c_X2_isHeard b) M7_ M15_) ∧ ∃ r14_ : Int32, (SP_X2_isHeard b v t r1_ r6_ M7_ r14_ M15_) ∧ ((0 ≤ r14_.toInt ∧ r14_.toInt ≤ 1)) ∧ r_ = r14_ ∧ M_ = M15_
theorem lf_c_X2_hears_0 (r14_ : Int32) (h17_ : (0 ≤ r14_.toInt ∧ r14_.toInt ≤ 1)) : 0 ≤ r14_.toInt ∧ r14_.toInt ≤ 1 := by omega
set_option maxHeartbeats 4000000 in
set_option maxRecDepth 100000 in
theorem c_X2_hears (l : Launch) (G : va_G) (cy : Nat → ClassId) (ad : rf → Nat) (d : Nat) (b : Nat) (v : Int32) (u : Int32) (t : Int32) (s : Int32) (q : Int32) (Mz : mM) (hIz : Inv Mz) (hb : b < 3) : WP CC l G cy ad yX2_hears cX2_hears 6 (some .boolean) (d + 2) 0 [(0, vR (2, b, 0)), (1, vI v), (2, vI u), (3, vI t), (4, vI s), (5, vI q)] [] Mz (fun r M' => Inv M' ∧ FR (S_c_X2_hears b) Mz M' ∧ ((0 ≤ r.toInt ∧ r.toInt ≤ 1)) ∧ SP_X2_hears b v u t s q Mz r M') := by
  have hFz : FR (S_c_X2_hears b) Mz Mz := FR.self
  refine w_aload_n dX2_hears_0 rfl 0 rfl ?_
  refine w_iload_n dX2_hears_1 rfl 1 rfl ?_
  refine w_iload_n dX2_hears_2 rfl 3 rfl ?_
  refine w_iload dX2_hears_3 5 rfl ?_
  refine w_iload dX2_hears_5 4 rfl ?_
  refine w_callS (as := [vI q, vI s]) (rest := [vI t, vI v, vR (2, b, 0)]) (c_X2_late l G cy ad (d + 1) q s Mz hIz) kS_X2_late pnn_5 (Nat.le_of_ble_eq_true rfl) m_912 rfl rfl (by decide) (Nat.le_of_ble_eq_true rfl) dX2_hears_7 (fun r1_ M2_ q3_ => ?_)
  obtain ⟨rfl, h4_, hs5_⟩ := q3_
  refine w_aload_n dX2_hears_10 rfl 0 rfl ?_
  refine w_iload_n dX2_hears_11 rfl 2 rfl ?_
  refine w_iload_n dX2_hears_12 rfl 3 rfl ?_
  refine w_iload dX2_hears_13 4 rfl ?_
  refine w_callV (as := [vI u, vI t, vI s]) (rest := [vI r1_, vI t, vI v, vR (2, b, 0)]) (c_X2_strength l G cy ad d b u t s Mz hIz hb) kV_X2_strength pnn_5 (Nat.le_of_ble_eq_true rfl) m_913 rfl rfl rfl (ic_2 hb) rfl rfl (by decide) (Nat.le_of_ble_eq_true rfl) dX2_hears_15 (fun r6_ M7_ q8_ => ?_)
  obtain ⟨hI10_, hF11_, h9_, hs13_⟩ := q8_
  have hF12_ := hFz.tr hF11_ (fun c k => (fun h => h.elim (fun h => (Or.inl ⟨h.1, h.2.1, h.2.2⟩)) (fun h => h.elim (fun h => (Or.inr (Or.inl ⟨h.1, h.2.1, h.2.2⟩))) (fun h => h.elim (fun h => (Or.inr (Or.inr (Or.inl ⟨h.1, h.2.1, h.2.2⟩)))) (fun h => h.elim (fun h => (Or.inr (Or.inr (Or.inr (Or.inl ⟨h.1, h.2.1, h.2.2⟩))))) (fun h => h.elim (fun h => (Or.inr (Or.inr (Or.inr (Or.inr (Or.inl ⟨h.1, h.2.1, h.2.2⟩)))))) (fun h => h.elim)))))))
  refine w_callV (as := [vI v, vI t, vI r1_, vI r6_]) (rest := []) (c_X2_isHeard l G cy ad d b v t r1_ r6_ M7_ hI10_ hb) kV_X2_isHeard pnn_5 (Nat.le_of_ble_eq_true rfl) m_914 rfl rfl rfl (ic_2 hb) rfl rfl (by decide) (Nat.le_of_ble_eq_true rfl) dX2_hears_18 (fun r14_ M15_ q16_ => ?_)
  obtain ⟨hI18_, hF19_, h17_, hs21_⟩ := q16_
  have hF20_ := hF12_.tr hF19_ (fun c k => (fun h => h.elim (fun h => (Or.inl ⟨h.1, h.2.1, h.2.2⟩)) (fun h => h.elim (fun h => (Or.inr (Or.inl ⟨h.1, h.2.1, h.2.2⟩))) (fun h => h.elim (fun h => (Or.inr (Or.inr (Or.inl ⟨h.1, h.2.1, h.2.2⟩)))) (fun h => h.elim (fun h => (Or.inr (Or.inr (Or.inr (Or.inr (Or.inr (Or.inl ⟨h.1, h.2.1, h.2.2⟩))))))) (fun h => h.elim))))))
  exact w_zret rfl dX2_hears_21 (lf_c_X2_hears_0 r14_ h17_ ) ⟨hI18_, hF20_, (lf_c_X2_hears_0 r14_ h17_ ), ⟨r1_, hs5_, M7_, hI10_, hF11_, r6_, hs13_, M15_, hI18_, hF19_, r14_, hs21_, h17_, rfl, rfl⟩⟩
def S_c_X2_habitValue (b : Nat) : rf → Nat → Prop := fun c k => (c.1 = 29 ∧ c.2.1 = b ∧ k = 0) ∨ (c.1 = 29 ∧ c.2.1 = b ∧ k = 1) ∨ (c.1 = 29 ∧ c.2.1 = b ∧ k = 2) ∨ (c.1 = 29 ∧ c.2.1 = b ∧ k = 3) ∨ (c.1 = 29 ∧ c.2.1 = b ∧ k = 4) ∨ (c.1 = 25 ∧ c.2.1 = b ∧ c.2.2 = 2) ∨ False
def SP_X2_habitValue (b : Nat) (v : Int32) (u : Int32) (t : Int32) (s : Int32) (q : Int32) (Mz : mM) (r_ : Int32) (M_ : mM) : Prop := ∃ r1_ : Int32, (SP_X1_isGiven b 2 Mz r1_) ∧ ((0 ≤ r1_.toInt ∧ r1_.toInt ≤ 1)) ∧ (((¬ r1_.toInt = 0) ∧ ∃ M7_ : mM, (M7_ = up Mz (29, b, 0) 0 v) ∧ ∃ M11_ : mM, (M11_ = up M7_ (29, b, 0) 1 u) ∧ ∃ M15_ : mM, (M15_ = up M11_ (29, b, 0) 2 t) ∧ ∃ M19_ : mM, (M19_ = up M15_ (29, b, 0) 3 s) ∧ ∃ M23_ : mM, (M23_ = up M19_ (29, b, 0) 4 q) ∧ (Inv M23_) ∧ ∃ M28_ : mM, (Inv M28_) ∧ (FR (S_c_X1_work b 2 b) M23_ M28_) ∧ ∃ r27_ : Int32, (SP_X1_work b 2 b M23_ r27_ M28_) ∧ r_ = r27_ ∧ M_ = M28_) ∨ ((r1_.toInt = 0) ∧ (((¬ v.toInt = 1) ∧ r_ = 0 ∧ M_ = Mz) ∨ ((v.toInt = 1) ∧ r_ = 1 ∧ M_ = Mz))))
theorem lf_c_X2_habitValue_0 (b : Nat) (hb : b < 3) : vF b 2 := by unfold vF; omega
theorem lf_c_X2_habitValue_2 (M11_ : mM) (M15_ : mM) (M19_ : mM) (M23_ : mM) (M7_ : mM) (Mz : mM) (b : Nat) (v : Int32) (u : Int32) (t : Int32) (s : Int32) (q : Int32) (hb : b < 3) (hM8_ : M7_ = up Mz (29, b, 0) 0 v) (hM12_ : M11_ = up M7_ (29, b, 0) 1 u) (hM16_ : M15_ = up M11_ (29, b, 0) 2 t) (hM20_ : M19_ = up M15_ (29, b, 0) 3 s) (hM24_ : M23_ = up M19_ (29, b, 0) 4 q) : vF b 2 := by have r_v := rngI v; have r_u := rngI u; have r_t := rngI t; have r_s := rngI s; have r_q := rngI q; unfold vF; omega
set_option maxHeartbeats 4000000 in
set_option maxRecDepth 100000 in
theorem c_X2_habitValue (l : Launch) (G : va_G) (cy : Nat → ClassId) (ad : rf → Nat) (d : Nat) (b : Nat) (v : Int32) (u : Int32) (t : Int32) (s : Int32) (q : Int32) (Mz : mM) (hIz : Inv Mz) (hb : b < 3) : WP CC l G cy ad yX2_habitValue cX2_habitValue 6 (some .int) (d + 1) 0 [(0, vR (2, b, 0)), (1, vI v), (2, vI u), (3, vI t), (4, vI s), (5, vI q)] [] Mz (fun r M' => Inv M' ∧ FR (S_c_X2_habitValue b) Mz M' ∧ (True) ∧ SP_X2_habitValue b v u t s q Mz r M') := by
  have hFz : FR (S_c_X2_habitValue b) Mz Mz := FR.self
  refine w_aload_n dX2_habitValue_0 rfl 0 rfl ?_
  refine w_getR (c' := (28, b, 0)) fl_RX2_30 rfl rfl (ic_2 hb) dX2_habitValue_1 rfl ?_
  refine w_iconst (v := 2) dX2_habitValue_4 (by decide) ?_
  refine w_aaldL 2 rfl rfl rfl (fun _ => rfl) (ic_28 hb) li_2 (by decide) dX2_habitValue_5 ?_
  refine w_callV (as := []) (rest := []) (c_X1_isGiven l G cy ad d b 2 Mz hIz (lf_c_X2_habitValue_0 b hb )) kV_X1_isGiven pnn_6 (Nat.le_of_ble_eq_true rfl) m_877 rfl rfl rfl (ic_1 (lf_c_X2_habitValue_0 b hb )) rfl rfl (by decide) (Nat.le_of_ble_eq_true rfl) dX2_habitValue_6 (fun r1_ M2_ q3_ => ?_)
  obtain ⟨rfl, h4_, hs5_⟩ := q3_
  refine w_if_ne (tgt := 23) dX2_habitValue_9 (by decide) (rfl : r1_.toInt = r1_.toInt) (fun h6_ => ?_) (fun h6_ => ?_)
  · refine w_aload_n dX2_habitValue_23 rfl 0 rfl ?_
    refine w_getR (c' := (29, b, 0)) fl_RX2_34 rfl rfl (ic_2 hb) dX2_habitValue_24 rfl ?_
    refine w_iconst (v := 0) dX2_habitValue_27 (by decide) ?_
    refine w_iload_n dX2_habitValue_28 rfl 1 rfl ?_
    refine w_iastL 0 CC_nd rfl rfl (ic_29 hb) li_0 (by decide) dX2_habitValue_29 (fun M7_ hM8_ => ?_)
    have hI9_ := hIz.put hM8_ trivial
    have hF10_ := hFz.put hM8_ (Or.inl ⟨rfl, rfl, rfl⟩)
    refine w_aload_n dX2_habitValue_30 rfl 0 rfl ?_
    refine w_getR (c' := (29, b, 0)) fl_RX2_34 rfl rfl (ic_2 hb) dX2_habitValue_31 rfl ?_
    refine w_iconst (v := 1) dX2_habitValue_34 (by decide) ?_
    refine w_iload_n dX2_habitValue_35 rfl 2 rfl ?_
    refine w_iastL 1 CC_nd rfl rfl (ic_29 hb) li_1 (by decide) dX2_habitValue_36 (fun M11_ hM12_ => ?_)
    have hI13_ := hI9_.put hM12_ trivial
    have hF14_ := hF10_.put hM12_ (Or.inr (Or.inl ⟨rfl, rfl, rfl⟩))
    refine w_aload_n dX2_habitValue_37 rfl 0 rfl ?_
    refine w_getR (c' := (29, b, 0)) fl_RX2_34 rfl rfl (ic_2 hb) dX2_habitValue_38 rfl ?_
    refine w_iconst (v := 2) dX2_habitValue_41 (by decide) ?_
    refine w_iload_n dX2_habitValue_42 rfl 3 rfl ?_
    refine w_iastL 2 CC_nd rfl rfl (ic_29 hb) li_2 (by decide) dX2_habitValue_43 (fun M15_ hM16_ => ?_)
    have hI17_ := hI13_.put hM16_ trivial
    have hF18_ := hF14_.put hM16_ (Or.inr (Or.inr (Or.inl ⟨rfl, rfl, rfl⟩)))
    refine w_aload_n dX2_habitValue_44 rfl 0 rfl ?_
    refine w_getR (c' := (29, b, 0)) fl_RX2_34 rfl rfl (ic_2 hb) dX2_habitValue_45 rfl ?_
    refine w_iconst (v := 3) dX2_habitValue_48 (by decide) ?_
    refine w_iload dX2_habitValue_49 4 rfl ?_
    refine w_iastL 3 CC_nd rfl rfl (ic_29 hb) li_3 (by decide) dX2_habitValue_51 (fun M19_ hM20_ => ?_)
    have hI21_ := hI17_.put hM20_ trivial
    have hF22_ := hF18_.put hM20_ (Or.inr (Or.inr (Or.inr (Or.inl ⟨rfl, rfl, rfl⟩))))
    refine w_aload_n dX2_habitValue_52 rfl 0 rfl ?_
    refine w_getR (c' := (29, b, 0)) fl_RX2_34 rfl rfl (ic_2 hb) dX2_habitValue_53 rfl ?_
    refine w_iconst (v := 4) dX2_habitValue_56 (by decide) ?_
    refine w_iload dX2_habitValue_57 5 rfl ?_
    refine w_iastL 4 CC_nd rfl rfl (ic_29 hb) li_4 (by decide) dX2_habitValue_59 (fun M23_ hM24_ => ?_)
    have hI25_ := hI21_.put hM24_ trivial
    have hF26_ := hF22_.put hM24_ (Or.inr (Or.inr (Or.inr (Or.inr (Or.inl ⟨rfl, rfl, rfl⟩)))))
    refine w_aload_n dX2_habitValue_60 rfl 0 rfl ?_
    refine w_getR (c' := (28, b, 0)) fl_RX2_30 rfl rfl (ic_2 hb) dX2_habitValue_61 rfl ?_
    refine w_iconst (v := 2) dX2_habitValue_64 (by decide) ?_
    refine w_aaldL 2 rfl rfl rfl (fun _ => rfl) (ic_28 hb) li_2 (by decide) dX2_habitValue_65 ?_
    refine w_aload_n dX2_habitValue_66 rfl 0 rfl ?_
    refine w_getR (c' := (29, b, 0)) fl_RX2_34 rfl rfl (ic_2 hb) dX2_habitValue_67 rfl ?_
    refine w_callV (as := [vR (29, b, 0)]) (rest := []) (c_X1_work l G cy ad d b 2 b M23_ hI25_ (lf_c_X2_habitValue_2 M11_ M15_ M19_ M23_ M7_ Mz b v u t s q hb hM8_ hM12_ hM16_ hM20_ hM24_ ) hb) kV_X1_work pnn_6 (Nat.le_of_ble_eq_true rfl) m_881 rfl rfl rfl (ic_1 (lf_c_X2_habitValue_2 M11_ M15_ M19_ M23_ M7_ Mz b v u t s q hb hM8_ hM12_ hM16_ hM20_ hM24_ )) rfl rfl (by decide) (Nat.le_of_ble_eq_true rfl) dX2_habitValue_70 (fun r27_ M28_ q29_ => ?_)
    obtain ⟨hI31_, hF32_, h30_, hs34_⟩ := q29_
    have hF33_ := hF26_.tr hF32_ (fun c k => (fun h => h.elim (fun h => (Or.inr (Or.inr (Or.inr (Or.inr (Or.inr (Or.inl ⟨h.1, h.2.1, h.2.2⟩))))))) (fun h => h.elim)))
    exact w_iret rfl dX2_habitValue_73 ⟨hI31_, hF33_, trivial, ⟨r1_, hs5_, h4_, (Or.inl ⟨h6_, M7_, hM8_, M11_, hM12_, M15_, hM16_, M19_, hM20_, M23_, hM24_, hI25_, M28_, hI31_, hF32_, r27_, hs34_, rfl, rfl⟩)⟩⟩
  · refine w_iload_n dX2_habitValue_12 rfl 1 rfl ?_
    refine w_iconst (v := 1) dX2_habitValue_13 (by decide) ?_
    refine w_icmp_ne (tgt := 21) dX2_habitValue_14 (by decide) (rfl : v.toInt = v.toInt) li_1 (fun h35_ => ?_) (fun h35_ => ?_)
    · refine w_iconst (v := 0) dX2_habitValue_21 (by decide) ?_
      exact w_iret rfl dX2_habitValue_22 ⟨hIz, hFz, trivial, ⟨r1_, hs5_, h4_, (Or.inr ⟨h6_, (Or.inl ⟨h35_, rfl, rfl⟩)⟩)⟩⟩
    · refine w_iconst (v := 1) dX2_habitValue_17 (by decide) ?_
      refine w_goto (tgt := 22) dX2_habitValue_18 (by decide) ?_
      exact w_iret rfl dX2_habitValue_22 ⟨hIz, hFz, trivial, ⟨r1_, hs5_, h4_, (Or.inr ⟨h6_, (Or.inr ⟨h35_, rfl, rfl⟩)⟩)⟩⟩
def S_c_X2_kindsAlike (b : Nat) : rf → Nat → Prop := fun c k => (c.1 = 29 ∧ c.2.1 = b ∧ k = 0) ∨ (c.1 = 29 ∧ c.2.1 = b ∧ k = 1) ∨ (c.1 = 29 ∧ c.2.1 = b ∧ k = 2) ∨ (c.1 = 29 ∧ c.2.1 = b ∧ k = 3) ∨ (c.1 = 25 ∧ c.2.1 = b ∧ c.2.2 = 0) ∨ (c.1 = 25 ∧ c.2.1 = b ∧ c.2.2 = 1) ∨ False
def ST_X2_kindsAlike_6 (b : Nat) (v : Int32) (u : Int32) (t : Int32) (s : Int32) (q : Int32) (Mz : mM) (v7_6 : Int32) (v6_6 : Int32) (M_6 : mM) (v7_6y : Int32) (v6_6y : Int32) (M_6y : mM) : Prop := (0 ≤ v7_6.toInt) ∧ (v7_6.toInt ≤ 5) ∧ (Inv M_6) ∧ (FR (S_c_X2_kindsAlike b) Mz M_6) ∧ (v7_6.toInt < 5) ∧ ∃ M4_ : mM, (Inv M4_) ∧ (FR (S_c_X2_strength b) M_6 M4_) ∧ ∃ r3_ : Int32, (SP_X2_strength b v7_6 u t M_6 r3_ M4_) ∧ (((¬ r3_.toInt = q.toInt) ∧ ∃ z12_ : Int32, (z12_.toInt = v7_6.toInt + 1) ∧ v7_6y = z12_ ∧ v6_6y = v6_6 ∧ M_6y = M4_) ∨ ((r3_.toInt = q.toInt) ∧ ∃ M15_ : mM, (Inv M15_) ∧ (FR (S_c_X2_hears b) M4_ M15_) ∧ ∃ r14_ : Int32, (SP_X2_hears b v v7_6 u t s M4_ r14_ M15_) ∧ ((0 ≤ r14_.toInt ∧ r14_.toInt ≤ 1)) ∧ (((r14_.toInt = 0) ∧ ∃ z23_ : Int32, (z23_.toInt = v7_6.toInt + 1) ∧ v7_6y = z23_ ∧ v6_6y = v6_6 ∧ M_6y = M15_) ∨ ((¬ r14_.toInt = 0) ∧ ∃ z25_ : Int32, (z25_ = (1 : Int32) <<< (v7_6 &&& 31)) ∧ ∃ z27_ : Int32, (z27_ = v6_6 ||| z25_) ∧ ∃ z29_ : Int32, (z29_.toInt = v7_6.toInt + 1) ∧ v7_6y = z29_ ∧ v6_6y = z27_ ∧ M_6y = M15_))))
def SP_X2_kindsAlike (b : Nat) (v : Int32) (u : Int32) (t : Int32) (s : Int32) (q : Int32) (Mz : mM) (r_ : Int32) (M_ : mM) : Prop := ∃ v7_6 : Int32, (0 ≤ v7_6.toInt) ∧ (v7_6.toInt ≤ 5) ∧ ∃ v6_6 : Int32, ∃ M_6 : mM, (RCH (fun x_ y_ => ST_X2_kindsAlike_6 b v u t s q Mz x_.1 x_.2.1 x_.2.2 y_.1 y_.2.1 y_.2.2) ((0 : Int32), (0 : Int32), Mz) (v7_6, v6_6, M_6)) ∧ (Inv M_6) ∧ (FR (S_c_X2_kindsAlike b) Mz M_6) ∧ (5 ≤ v7_6.toInt) ∧ r_ = v6_6 ∧ M_ = M_6
theorem lf_c_X2_kindsAlike_0 (v7_6 : Int32) (hv0_6 : 0 ≤ v7_6.toInt) (h2_ : v7_6.toInt < 5) : -2147483648 ≤ v7_6.toInt + 1 ∧ v7_6.toInt + 1 < 2147483648 := by omega
theorem lf_c_X2_kindsAlike_2 (v7_6 : Int32) (z12_ : Int32) (h2_ : v7_6.toInt < 5) (h13_ : z12_.toInt = v7_6.toInt + 1) : z12_.toInt ≤ 5 := by omega
theorem lf_c_X2_kindsAlike_3 (v7_6 : Int32) (z12_ : Int32) (h2_ : v7_6.toInt < 5) (h13_ : z12_.toInt = v7_6.toInt + 1) : (2147483648 - z12_.toInt).toNat < (2147483648 - v7_6.toInt).toNat := by omega
theorem lf_c_X2_kindsAlike_13 : (0 : Int32).toInt ≤ 5 := by have q0 := li_0; omega
set_option maxHeartbeats 4000000 in
set_option maxRecDepth 100000 in
theorem c_X2_kindsAlike (l : Launch) (G : va_G) (cy : Nat → ClassId) (ad : rf → Nat) (d : Nat) (b : Nat) (v : Int32) (u : Int32) (t : Int32) (s : Int32) (q : Int32) (Mz : mM) (hIz : Inv Mz) (hb : b < 3) : WP CC l G cy ad yX2_kindsAlike cX2_kindsAlike 8 (some .int) (d + 3) 0 [(0, vR (2, b, 0)), (1, vI v), (2, vI u), (3, vI t), (4, vI s), (5, vI q)] [] Mz (fun r M' => Inv M' ∧ FR (S_c_X2_kindsAlike b) Mz M' ∧ (True) ∧ SP_X2_kindsAlike b v u t s q Mz r M') := by
  have hFz : FR (S_c_X2_kindsAlike b) Mz Mz := FR.self
  refine w_iconst (v := 0) dX2_kindsAlike_0 (by decide) ?_
  refine w_istore (ls' := [(6, vI 0), (0, vR (2, b, 0)), (1, vI v), (2, vI u), (3, vI t), (4, vI s), (5, vI q)]) dX2_kindsAlike_1 (by decide) rfl ?_
  refine w_iconst (v := 0) dX2_kindsAlike_3 (by decide) ?_
  refine w_istore (ls' := [(7, vI 0), (6, vI 0), (0, vR (2, b, 0)), (1, vI v), (2, vI u), (3, vI t), (4, vI s), (5, vI q)]) dX2_kindsAlike_4 (by decide) rfl ?_
  have lp1_ : ∀ (nn_6 : Nat) (M_6 : mM) (hI_6 : Inv M_6) (hF_6 : FR (S_c_X2_kindsAlike b) Mz M_6) (v7_6 : Int32) (v6_6 : Int32) (hv0_6 : 0 ≤ v7_6.toInt) (hv1_6 : v7_6.toInt ≤ 5) (hL_6 : RCH (fun x_ y_ => ST_X2_kindsAlike_6 b v u t s q Mz x_.1 x_.2.1 x_.2.2 y_.1 y_.2.1 y_.2.2) ((0 : Int32), (0 : Int32), Mz) (v7_6, v6_6, M_6)), (2147483648 - v7_6.toInt).toNat < nn_6 → WP CC l G cy ad yX2_kindsAlike cX2_kindsAlike 8 (some .int) (d + 3) 6 [(7, vI v7_6), (6, vI v6_6), (0, vR (2, b, 0)), (1, vI v), (2, vI u), (3, vI t), (4, vI s), (5, vI q)] [] M_6 (fun r M' => Inv M' ∧ FR (S_c_X2_kindsAlike b) Mz M' ∧ (True) ∧ SP_X2_kindsAlike b v u t s q Mz r M') := by
    intro nn_6
    induction nn_6 with
    | zero => intro M_6 hI_6 hF_6 v7_6 v6_6 hv0_6 hv1_6 hL_6 hm_6; exact absurd hm_6 (Nat.not_lt_zero _)
    | succ nn_6 ih_6 =>
      intro M_6 hI_6 hF_6 v7_6 v6_6 hv0_6 hv1_6 hL_6 hm_6
      refine w_iload dX2_kindsAlike_6 0 rfl ?_
      refine w_iconst (v := 5) dX2_kindsAlike_8 (by decide) ?_
      refine w_icmp_ge (tgt := 54) dX2_kindsAlike_9 (by decide) (rfl : v7_6.toInt = v7_6.toInt) li_5 (fun h2_ => ?_) (fun h2_ => ?_)
      · refine w_iload dX2_kindsAlike_54 1 rfl ?_
        exact w_iret rfl dX2_kindsAlike_56 ⟨hI_6, hF_6, trivial, ⟨v7_6, hv0_6, hv1_6, v6_6, M_6, hL_6, hI_6, hF_6, h2_, rfl, rfl⟩⟩
      · refine w_aload_n dX2_kindsAlike_12 rfl 2 rfl ?_
        refine w_iload dX2_kindsAlike_13 0 rfl ?_
        refine w_iload_n dX2_kindsAlike_15 rfl 4 rfl ?_
        refine w_iload_n dX2_kindsAlike_16 rfl 5 rfl ?_
        refine w_callV (as := [vI v7_6, vI u, vI t]) (rest := []) (c_X2_strength l G cy ad (d + 1) b v7_6 u t M_6 hI_6 hb) kV_X2_strength pnn_5 (Nat.le_of_ble_eq_true rfl) m_913 rfl rfl rfl (ic_2 hb) rfl rfl (by decide) (Nat.le_of_ble_eq_true rfl) dX2_kindsAlike_17 (fun r3_ M4_ q5_ => ?_)
        obtain ⟨hI7_, hF8_, h6_, hs10_⟩ := q5_
        have hF9_ := hF_6.tr hF8_ (fun c k => (fun h => h.elim (fun h => (Or.inl ⟨h.1, h.2.1, h.2.2⟩)) (fun h => h.elim (fun h => (Or.inr (Or.inl ⟨h.1, h.2.1, h.2.2⟩))) (fun h => h.elim (fun h => (Or.inr (Or.inr (Or.inl ⟨h.1, h.2.1, h.2.2⟩)))) (fun h => h.elim (fun h => (Or.inr (Or.inr (Or.inr (Or.inl ⟨h.1, h.2.1, h.2.2⟩))))) (fun h => h.elim (fun h => (Or.inr (Or.inr (Or.inr (Or.inr (Or.inl ⟨h.1, h.2.1, h.2.2⟩)))))) (fun h => h.elim)))))))
        refine w_iload dX2_kindsAlike_20 7 rfl ?_
        refine w_icmp_ne (tgt := 48) dX2_kindsAlike_22 (by decide) (rfl : r3_.toInt = r3_.toInt) (rfl : q.toInt = q.toInt) (fun h11_ => ?_) (fun h11_ => ?_)
        · refine w_iincB (j := 0) (f := fun z12_ => [(7, vI z12_), (6, vI v6_6), (0, vR (2, b, 0)), (1, vI v), (2, vI u), (3, vI t), (4, vI s), (5, vI q)]) dX2_kindsAlike_48 rfl (by decide) (fun _ => rfl) (rfl : v7_6.toInt = v7_6.toInt) li_1 (lf_c_X2_kindsAlike_0 v7_6 hv0_6 h2_ ) (fun z12_ h13_ => ?_)
          refine w_goto (tgt := 6) dX2_kindsAlike_51 (by decide) ?_
          refine w_loc (ls' := [(7, vI z12_), (6, vI v6_6), (0, vR (2, b, 0)), (1, vI v), (2, vI u), (3, vI t), (4, vI s), (5, vI q)]) [0, 1, 2, 3, 4, 5, 6, 7] rfl ?_
          exact ih_6 M4_ hI7_ hF9_ z12_ v6_6 (lf_c_X5_takeFrom_3 v7_6 z12_ hv0_6 h13_ ) (lf_c_X2_kindsAlike_2 v7_6 z12_ h2_ h13_ ) (RCH.tail hL_6 ⟨hv0_6, hv1_6, hI_6, hF_6, h2_, M4_, hI7_, hF8_, r3_, hs10_, (Or.inl ⟨h11_, z12_, h13_, rfl, rfl, rfl⟩)⟩) (Nat.lt_of_lt_of_le (lf_c_X2_kindsAlike_3 v7_6 z12_ h2_ h13_ ) (Nat.le_of_lt_succ hm_6))
        · refine w_aload_n dX2_kindsAlike_25 rfl 2 rfl ?_
          refine w_iload_n dX2_kindsAlike_26 rfl 3 rfl ?_
          refine w_iload dX2_kindsAlike_27 0 rfl ?_
          refine w_iload_n dX2_kindsAlike_29 rfl 4 rfl ?_
          refine w_iload_n dX2_kindsAlike_30 rfl 5 rfl ?_
          refine w_iload dX2_kindsAlike_31 6 rfl ?_
          refine w_callV (as := [vI v, vI v7_6, vI u, vI t, vI s]) (rest := []) (c_X2_hears l G cy ad d b v v7_6 u t s M4_ hI7_ hb) kV_X2_hears pnn_5 (Nat.le_of_ble_eq_true rfl) m_956 rfl rfl rfl (ic_2 hb) rfl rfl (by decide) (Nat.le_of_ble_eq_true rfl) dX2_kindsAlike_33 (fun r14_ M15_ q16_ => ?_)
          obtain ⟨hI18_, hF19_, h17_, hs21_⟩ := q16_
          have hF20_ := hF9_.tr hF19_ (fun c k => (fun h => h.elim (fun h => (Or.inl ⟨h.1, h.2.1, h.2.2⟩)) (fun h => h.elim (fun h => (Or.inr (Or.inl ⟨h.1, h.2.1, h.2.2⟩))) (fun h => h.elim (fun h => (Or.inr (Or.inr (Or.inl ⟨h.1, h.2.1, h.2.2⟩)))) (fun h => h.elim (fun h => (Or.inr (Or.inr (Or.inr (Or.inl ⟨h.1, h.2.1, h.2.2⟩))))) (fun h => h.elim (fun h => (Or.inr (Or.inr (Or.inr (Or.inr (Or.inl ⟨h.1, h.2.1, h.2.2⟩)))))) (fun h => h.elim (fun h => (Or.inr (Or.inr (Or.inr (Or.inr (Or.inr (Or.inl ⟨h.1, h.2.1, h.2.2⟩))))))) (fun h => h.elim))))))))
          refine w_if_eq (tgt := 48) dX2_kindsAlike_36 (by decide) (rfl : r14_.toInt = r14_.toInt) (fun h22_ => ?_) (fun h22_ => ?_)
          · refine w_iincB (j := 0) (f := fun z23_ => [(7, vI z23_), (6, vI v6_6), (0, vR (2, b, 0)), (1, vI v), (2, vI u), (3, vI t), (4, vI s), (5, vI q)]) dX2_kindsAlike_48 rfl (by decide) (fun _ => rfl) (rfl : v7_6.toInt = v7_6.toInt) li_1 (lf_c_X2_kindsAlike_0 v7_6 hv0_6 h2_ ) (fun z23_ h24_ => ?_)
            refine w_goto (tgt := 6) dX2_kindsAlike_51 (by decide) ?_
            refine w_loc (ls' := [(7, vI z23_), (6, vI v6_6), (0, vR (2, b, 0)), (1, vI v), (2, vI u), (3, vI t), (4, vI s), (5, vI q)]) [0, 1, 2, 3, 4, 5, 6, 7] rfl ?_
            exact ih_6 M15_ hI18_ hF20_ z23_ v6_6 (lf_c_X5_takeFrom_3 v7_6 z23_ hv0_6 h24_ ) (lf_c_X2_kindsAlike_2 v7_6 z23_ h2_ h24_ ) (RCH.tail hL_6 ⟨hv0_6, hv1_6, hI_6, hF_6, h2_, M4_, hI7_, hF8_, r3_, hs10_, (Or.inr ⟨h11_, M15_, hI18_, hF19_, r14_, hs21_, h17_, (Or.inl ⟨h22_, z23_, h24_, rfl, rfl, rfl⟩)⟩)⟩) (Nat.lt_of_lt_of_le (lf_c_X2_kindsAlike_3 v7_6 z23_ h2_ h24_ ) (Nat.le_of_lt_succ hm_6))
          · refine w_iload dX2_kindsAlike_39 1 rfl ?_
            refine w_iconst (v := 1) dX2_kindsAlike_41 (by decide) ?_
            refine w_iload dX2_kindsAlike_42 0 rfl ?_
            refine w_ishl dX2_kindsAlike_44 (fun z25_ h26_ => ?_)
            refine w_ior dX2_kindsAlike_45 (fun z27_ h28_ => ?_)
            refine w_istore (ls' := [(6, vI z27_), (7, vI v7_6), (0, vR (2, b, 0)), (1, vI v), (2, vI u), (3, vI t), (4, vI s), (5, vI q)]) dX2_kindsAlike_46 (by decide) rfl ?_
            refine w_iincB (j := 1) (f := fun z29_ => [(7, vI z29_), (6, vI z27_), (0, vR (2, b, 0)), (1, vI v), (2, vI u), (3, vI t), (4, vI s), (5, vI q)]) dX2_kindsAlike_48 rfl (by decide) (fun _ => rfl) (rfl : v7_6.toInt = v7_6.toInt) li_1 (lf_c_X2_kindsAlike_0 v7_6 hv0_6 h2_ ) (fun z29_ h30_ => ?_)
            refine w_goto (tgt := 6) dX2_kindsAlike_51 (by decide) ?_
            refine w_loc (ls' := [(7, vI z29_), (6, vI z27_), (0, vR (2, b, 0)), (1, vI v), (2, vI u), (3, vI t), (4, vI s), (5, vI q)]) [0, 1, 2, 3, 4, 5, 6, 7] rfl ?_
            exact ih_6 M15_ hI18_ hF20_ z29_ z27_ (lf_c_X5_takeFrom_3 v7_6 z29_ hv0_6 h30_ ) (lf_c_X2_kindsAlike_2 v7_6 z29_ h2_ h30_ ) (RCH.tail hL_6 ⟨hv0_6, hv1_6, hI_6, hF_6, h2_, M4_, hI7_, hF8_, r3_, hs10_, (Or.inr ⟨h11_, M15_, hI18_, hF19_, r14_, hs21_, h17_, (Or.inr ⟨h22_, z25_, h26_, z27_, h28_, z29_, h30_, rfl, rfl, rfl⟩)⟩)⟩) (Nat.lt_of_lt_of_le (lf_c_X2_kindsAlike_3 v7_6 z29_ h2_ h30_ ) (Nat.le_of_lt_succ hm_6))
  exact lp1_ _ Mz hIz hFz 0 0 (lf_c_X5_takeFrom_5 ) (lf_c_X2_kindsAlike_13 ) RCH.refl (Nat.lt_succ_self _)
def S_c_X2_leastPitch (b : Nat) : rf → Nat → Prop := fun c k => (c.1 = 29 ∧ c.2.1 = b ∧ k = 0) ∨ (c.1 = 29 ∧ c.2.1 = b ∧ k = 1) ∨ (c.1 = 29 ∧ c.2.1 = b ∧ k = 2) ∨ (c.1 = 29 ∧ c.2.1 = b ∧ k = 3) ∨ (c.1 = 25 ∧ c.2.1 = b ∧ c.2.2 = 0) ∨ (c.1 = 25 ∧ c.2.1 = b ∧ c.2.2 = 1) ∨ False
def ST_X2_leastPitch_3 (b : Nat) (v : Int32) (u : Int32) (t : Int32) (Mz : mM) (v4_3 : Int32) (M_3 : mM) (v4_3y : Int32) (M_3y : mM) : Prop := (1 ≤ v4_3.toInt) ∧ (v4_3.toInt ≤ 10) ∧ (Inv M_3) ∧ (FR (S_c_X2_leastPitch b) Mz M_3) ∧ (v4_3.toInt ≤ 9) ∧ ∃ z3_ : Int32, (z3_.toInt = 100 * v4_3.toInt) ∧ ∃ z5_ : Int32, (z5_.toInt = z3_.toInt + 99) ∧ ∃ M8_ : mM, (Inv M8_) ∧ (FR (S_c_X2_hears b) M_3 M8_) ∧ ∃ r7_ : Int32, (SP_X2_hears b v u z5_ t 0 M_3 r7_ M8_) ∧ ((0 ≤ r7_.toInt ∧ r7_.toInt ≤ 1)) ∧ (r7_.toInt = 0) ∧ ∃ z16_ : Int32, (z16_.toInt = v4_3.toInt + 1) ∧ v4_3y = z16_ ∧ M_3y = M8_
def SP_X2_leastPitch (b : Nat) (v : Int32) (u : Int32) (t : Int32) (Mz : mM) (r_ : Int32) (M_ : mM) : Prop := ∃ v4_3 : Int32, (1 ≤ v4_3.toInt) ∧ (v4_3.toInt ≤ 10) ∧ ∃ M_3 : mM, (RCH (fun x_ y_ => ST_X2_leastPitch_3 b v u t Mz x_.1 x_.2 y_.1 y_.2) ((1 : Int32), Mz) (v4_3, M_3)) ∧ (Inv M_3) ∧ (FR (S_c_X2_leastPitch b) Mz M_3) ∧ (((9 < v4_3.toInt) ∧ r_ = 0 ∧ M_ = M_3) ∨ ((v4_3.toInt ≤ 9) ∧ ∃ z3_ : Int32, (z3_.toInt = 100 * v4_3.toInt) ∧ ∃ z5_ : Int32, (z5_.toInt = z3_.toInt + 99) ∧ ∃ M8_ : mM, (Inv M8_) ∧ (FR (S_c_X2_hears b) M_3 M8_) ∧ ∃ r7_ : Int32, (SP_X2_hears b v u z5_ t 0 M_3 r7_ M8_) ∧ ((0 ≤ r7_.toInt ∧ r7_.toInt ≤ 1)) ∧ (¬ r7_.toInt = 0) ∧ r_ = v4_3 ∧ M_ = M8_))
theorem lf_c_X2_leastPitch_0 (v4_3 : Int32) (hv0_3 : 1 ≤ v4_3.toInt) (h2_ : v4_3.toInt ≤ 9) : -2147483648 ≤ 100 * v4_3.toInt ∧ 100 * v4_3.toInt < 2147483648 := by omega
theorem lf_c_X2_leastPitch_1 (v4_3 : Int32) (z3_ : Int32) (hv0_3 : 1 ≤ v4_3.toInt) (h2_ : v4_3.toInt ≤ 9) (h4_ : z3_.toInt = 100 * v4_3.toInt) : -2147483648 ≤ z3_.toInt + 99 ∧ z3_.toInt + 99 < 2147483648 := by omega
theorem lf_c_X2_leastPitch_2 (v4_3 : Int32) (z3_ : Int32) (h4_ : z3_.toInt = 100 * v4_3.toInt) : -2147483648 ≤ v4_3.toInt + 1 ∧ v4_3.toInt + 1 < 2147483648 := by have r_z3_ := rngI z3_; omega
theorem lf_c_X2_leastPitch_5 (v4_3 : Int32) (z3_ : Int32) (z16_ : Int32) (h4_ : z3_.toInt = 100 * v4_3.toInt) (h17_ : z16_.toInt = v4_3.toInt + 1) : (2147483648 - z16_.toInt).toNat < (2147483648 - v4_3.toInt).toNat := by have r_z3_ := rngI z3_; omega
set_option maxHeartbeats 4000000 in
set_option maxRecDepth 100000 in
theorem c_X2_leastPitch (l : Launch) (G : va_G) (cy : Nat → ClassId) (ad : rf → Nat) (d : Nat) (b : Nat) (v : Int32) (u : Int32) (t : Int32) (Mz : mM) (hIz : Inv Mz) (hb : b < 3) : WP CC l G cy ad yX2_leastPitch cX2_leastPitch 5 (some .int) (d + 3) 0 [(0, vR (2, b, 0)), (1, vI v), (2, vI u), (3, vI t)] [] Mz (fun r M' => Inv M' ∧ FR (S_c_X2_leastPitch b) Mz M' ∧ (True) ∧ SP_X2_leastPitch b v u t Mz r M') := by
  have hFz : FR (S_c_X2_leastPitch b) Mz Mz := FR.self
  refine w_iconst (v := 1) dX2_leastPitch_0 (by decide) ?_
  refine w_istore (ls' := [(4, vI 1), (0, vR (2, b, 0)), (1, vI v), (2, vI u), (3, vI t)]) dX2_leastPitch_1 (by decide) rfl ?_
  have lp1_ : ∀ (nn_3 : Nat) (M_3 : mM) (hI_3 : Inv M_3) (hF_3 : FR (S_c_X2_leastPitch b) Mz M_3) (v4_3 : Int32) (hv0_3 : 1 ≤ v4_3.toInt) (hv1_3 : v4_3.toInt ≤ 10) (hL_3 : RCH (fun x_ y_ => ST_X2_leastPitch_3 b v u t Mz x_.1 x_.2 y_.1 y_.2) ((1 : Int32), Mz) (v4_3, M_3)), (2147483648 - v4_3.toInt).toNat < nn_3 → WP CC l G cy ad yX2_leastPitch cX2_leastPitch 5 (some .int) (d + 3) 3 [(4, vI v4_3), (0, vR (2, b, 0)), (1, vI v), (2, vI u), (3, vI t)] [] M_3 (fun r M' => Inv M' ∧ FR (S_c_X2_leastPitch b) Mz M' ∧ (True) ∧ SP_X2_leastPitch b v u t Mz r M') := by
    intro nn_3
    induction nn_3 with
    | zero => intro M_3 hI_3 hF_3 v4_3 hv0_3 hv1_3 hL_3 hm_3; exact absurd hm_3 (Nat.not_lt_zero _)
    | succ nn_3 ih_3 =>
      intro M_3 hI_3 hF_3 v4_3 hv0_3 hv1_3 hL_3 hm_3
      refine w_iload dX2_leastPitch_3 0 rfl ?_
      refine w_bipush (v := 9) dX2_leastPitch_5 (by decide) ?_
      refine w_icmp_gt (tgt := 38) dX2_leastPitch_7 (by decide) (rfl : v4_3.toInt = v4_3.toInt) li_9 (fun h2_ => ?_) (fun h2_ => ?_)
      · refine w_iconst (v := 0) dX2_leastPitch_38 (by decide) ?_
        exact w_iret rfl dX2_leastPitch_39 ⟨hI_3, hF_3, trivial, ⟨v4_3, hv0_3, hv1_3, M_3, hL_3, hI_3, hF_3, (Or.inl ⟨h2_, rfl, rfl⟩)⟩⟩
      · refine w_aload_n dX2_leastPitch_10 rfl 1 rfl ?_
        refine w_iload_n dX2_leastPitch_11 rfl 2 rfl ?_
        refine w_iload_n dX2_leastPitch_12 rfl 3 rfl ?_
        refine w_bipush (v := 100) dX2_leastPitch_13 (by decide) ?_
        refine w_iload dX2_leastPitch_15 0 rfl ?_
        refine w_imulB dX2_leastPitch_17 li_100 (rfl : v4_3.toInt = v4_3.toInt) (lf_c_X2_leastPitch_0 v4_3 hv0_3 h2_ ) (fun z3_ h4_ => ?_)
        refine w_bipush (v := 99) dX2_leastPitch_18 (by decide) ?_
        refine w_iaddB dX2_leastPitch_20 (rfl : z3_.toInt = z3_.toInt) li_99 (lf_c_X2_leastPitch_1 v4_3 z3_ hv0_3 h2_ h4_ ) (fun z5_ h6_ => ?_)
        refine w_iload_n dX2_leastPitch_21 rfl 4 rfl ?_
        refine w_iconst (v := 0) dX2_leastPitch_22 (by decide) ?_
        refine w_callV (as := [vI v, vI u, vI z5_, vI t, vI 0]) (rest := []) (c_X2_hears l G cy ad d b v u z5_ t 0 M_3 hI_3 hb) kV_X2_hears pnn_5 (Nat.le_of_ble_eq_true rfl) m_956 rfl rfl rfl (ic_2 hb) rfl rfl (by decide) (Nat.le_of_ble_eq_true rfl) dX2_leastPitch_23 (fun r7_ M8_ q9_ => ?_)
        obtain ⟨hI11_, hF12_, h10_, hs14_⟩ := q9_
        have hF13_ := hF_3.tr hF12_ (fun c k => (fun h => h.elim (fun h => (Or.inl ⟨h.1, h.2.1, h.2.2⟩)) (fun h => h.elim (fun h => (Or.inr (Or.inl ⟨h.1, h.2.1, h.2.2⟩))) (fun h => h.elim (fun h => (Or.inr (Or.inr (Or.inl ⟨h.1, h.2.1, h.2.2⟩)))) (fun h => h.elim (fun h => (Or.inr (Or.inr (Or.inr (Or.inl ⟨h.1, h.2.1, h.2.2⟩))))) (fun h => h.elim (fun h => (Or.inr (Or.inr (Or.inr (Or.inr (Or.inl ⟨h.1, h.2.1, h.2.2⟩)))))) (fun h => h.elim (fun h => (Or.inr (Or.inr (Or.inr (Or.inr (Or.inr (Or.inl ⟨h.1, h.2.1, h.2.2⟩))))))) (fun h => h.elim))))))))
        refine w_if_eq (tgt := 32) dX2_leastPitch_26 (by decide) (rfl : r7_.toInt = r7_.toInt) (fun h15_ => ?_) (fun h15_ => ?_)
        · refine w_iincB (j := 0) (f := fun z16_ => [(4, vI z16_), (0, vR (2, b, 0)), (1, vI v), (2, vI u), (3, vI t)]) dX2_leastPitch_32 rfl (by decide) (fun _ => rfl) (rfl : v4_3.toInt = v4_3.toInt) li_1 (lf_c_X2_leastPitch_2 v4_3 z3_ h4_ ) (fun z16_ h17_ => ?_)
          refine w_goto (tgt := 3) dX2_leastPitch_35 (by decide) ?_
          refine w_loc (ls' := [(4, vI z16_), (0, vR (2, b, 0)), (1, vI v), (2, vI u), (3, vI t)]) [0, 1, 2, 3, 4] rfl ?_
          exact ih_3 M8_ hI11_ hF13_ z16_ (lf_c_X9_yardsToFull_1 v4_3 z16_ hv0_3 h17_ ) (lf_c_X9_yardsToFull_2 v4_3 z16_ h2_ h17_ ) (RCH.tail hL_3 ⟨hv0_3, hv1_3, hI_3, hF_3, h2_, z3_, h4_, z5_, h6_, M8_, hI11_, hF12_, r7_, hs14_, h10_, h15_, z16_, h17_, rfl, rfl⟩) (Nat.lt_of_lt_of_le (lf_c_X2_leastPitch_5 v4_3 z3_ z16_ h4_ h17_ ) (Nat.le_of_lt_succ hm_3))
        · refine w_iload dX2_leastPitch_29 0 rfl ?_
          exact w_iret rfl dX2_leastPitch_31 ⟨hI11_, hF13_, trivial, ⟨v4_3, hv0_3, hv1_3, M_3, hL_3, hI_3, hF_3, (Or.inr ⟨h2_, z3_, h4_, z5_, h6_, M8_, hI11_, hF12_, r7_, hs14_, h10_, h15_, rfl, rfl⟩)⟩⟩
  exact lp1_ _ Mz hIz hFz 1 (lf_c_X9_yardsToFull_4 ) (lf_c_X9_yardsToFull_5 ) RCH.refl (Nat.lt_succ_self _)
def S_c_X2_leastLoudness (b : Nat) : rf → Nat → Prop := fun c k => (c.1 = 29 ∧ c.2.1 = b ∧ k = 0) ∨ (c.1 = 29 ∧ c.2.1 = b ∧ k = 1) ∨ (c.1 = 29 ∧ c.2.1 = b ∧ k = 2) ∨ (c.1 = 29 ∧ c.2.1 = b ∧ k = 3) ∨ (c.1 = 25 ∧ c.2.1 = b ∧ c.2.2 = 0) ∨ (c.1 = 25 ∧ c.2.1 = b ∧ c.2.2 = 1) ∨ False
def ST_X2_leastLoudness_3 (b : Nat) (v : Int32) (u : Int32) (t : Int32) (Mz : mM) (v4_3 : Int32) (M_3 : mM) (v4_3y : Int32) (M_3y : mM) : Prop := (1 ≤ v4_3.toInt) ∧ (v4_3.toInt ≤ 100) ∧ (Inv M_3) ∧ (FR (S_c_X2_leastLoudness b) Mz M_3) ∧ (v4_3.toInt ≤ 99) ∧ ∃ z3_ : Int32, ((z3_.toInt = 9 ∧ 9 ≤ v.toInt) ∨ (z3_.toInt = v.toInt ∧ v.toInt ≤ 9)) ∧ ∃ z5_ : Int32, (z5_ = (100 : Int32) * z3_) ∧ ∃ z7_ : Int32, (z7_ = z5_ + v4_3) ∧ ∃ M10_ : mM, (Inv M10_) ∧ (FR (S_c_X2_hears b) M_3 M10_) ∧ ∃ r9_ : Int32, (SP_X2_hears b v u z7_ t 0 M_3 r9_ M10_) ∧ ((0 ≤ r9_.toInt ∧ r9_.toInt ≤ 1)) ∧ (r9_.toInt = 0) ∧ ∃ z18_ : Int32, (z18_.toInt = v4_3.toInt + 1) ∧ v4_3y = z18_ ∧ M_3y = M10_
def SP_X2_leastLoudness (b : Nat) (v : Int32) (u : Int32) (t : Int32) (Mz : mM) (r_ : Int32) (M_ : mM) : Prop := ∃ v4_3 : Int32, (1 ≤ v4_3.toInt) ∧ (v4_3.toInt ≤ 100) ∧ ∃ M_3 : mM, (RCH (fun x_ y_ => ST_X2_leastLoudness_3 b v u t Mz x_.1 x_.2 y_.1 y_.2) ((1 : Int32), Mz) (v4_3, M_3)) ∧ (Inv M_3) ∧ (FR (S_c_X2_leastLoudness b) Mz M_3) ∧ (((99 < v4_3.toInt) ∧ r_ = 0 ∧ M_ = M_3) ∨ ((v4_3.toInt ≤ 99) ∧ ∃ z3_ : Int32, ((z3_.toInt = 9 ∧ 9 ≤ v.toInt) ∨ (z3_.toInt = v.toInt ∧ v.toInt ≤ 9)) ∧ ∃ z5_ : Int32, (z5_ = (100 : Int32) * z3_) ∧ ∃ z7_ : Int32, (z7_ = z5_ + v4_3) ∧ ∃ M10_ : mM, (Inv M10_) ∧ (FR (S_c_X2_hears b) M_3 M10_) ∧ ∃ r9_ : Int32, (SP_X2_hears b v u z7_ t 0 M_3 r9_ M10_) ∧ ((0 ≤ r9_.toInt ∧ r9_.toInt ≤ 1)) ∧ (¬ r9_.toInt = 0) ∧ r_ = v4_3 ∧ M_ = M10_))
theorem lf_c_X2_leastLoudness_0 (v4_3 : Int32) (hv0_3 : 1 ≤ v4_3.toInt) (h2_ : v4_3.toInt ≤ 99) : -2147483648 ≤ v4_3.toInt + 1 ∧ v4_3.toInt + 1 < 2147483648 := by omega
theorem lf_c_X2_leastLoudness_2 (v4_3 : Int32) (z18_ : Int32) (h2_ : v4_3.toInt ≤ 99) (h19_ : z18_.toInt = v4_3.toInt + 1) : z18_.toInt ≤ 100 := by omega
theorem lf_c_X2_leastLoudness_3 (v4_3 : Int32) (z18_ : Int32) (h2_ : v4_3.toInt ≤ 99) (h19_ : z18_.toInt = v4_3.toInt + 1) : (2147483648 - z18_.toInt).toNat < (2147483648 - v4_3.toInt).toNat := by omega
theorem lf_c_X2_leastLoudness_5 : (1 : Int32).toInt ≤ 100 := by have q0 := li_1; omega
set_option maxHeartbeats 4000000 in
set_option maxRecDepth 100000 in
theorem c_X2_leastLoudness (l : Launch) (G : va_G) (cy : Nat → ClassId) (ad : rf → Nat) (d : Nat) (b : Nat) (v : Int32) (u : Int32) (t : Int32) (Mz : mM) (hIz : Inv Mz) (hb : b < 3) : WP CC l G cy ad yX2_leastLoudness cX2_leastLoudness 5 (some .int) (d + 3) 0 [(0, vR (2, b, 0)), (1, vI v), (2, vI u), (3, vI t)] [] Mz (fun r M' => Inv M' ∧ FR (S_c_X2_leastLoudness b) Mz M' ∧ (True) ∧ SP_X2_leastLoudness b v u t Mz r M') := by
  have hFz : FR (S_c_X2_leastLoudness b) Mz Mz := FR.self
  refine w_iconst (v := 1) dX2_leastLoudness_0 (by decide) ?_
  refine w_istore (ls' := [(4, vI 1), (0, vR (2, b, 0)), (1, vI v), (2, vI u), (3, vI t)]) dX2_leastLoudness_1 (by decide) rfl ?_
  have lp1_ : ∀ (nn_3 : Nat) (M_3 : mM) (hI_3 : Inv M_3) (hF_3 : FR (S_c_X2_leastLoudness b) Mz M_3) (v4_3 : Int32) (hv0_3 : 1 ≤ v4_3.toInt) (hv1_3 : v4_3.toInt ≤ 100) (hL_3 : RCH (fun x_ y_ => ST_X2_leastLoudness_3 b v u t Mz x_.1 x_.2 y_.1 y_.2) ((1 : Int32), Mz) (v4_3, M_3)), (2147483648 - v4_3.toInt).toNat < nn_3 → WP CC l G cy ad yX2_leastLoudness cX2_leastLoudness 5 (some .int) (d + 3) 3 [(4, vI v4_3), (0, vR (2, b, 0)), (1, vI v), (2, vI u), (3, vI t)] [] M_3 (fun r M' => Inv M' ∧ FR (S_c_X2_leastLoudness b) Mz M' ∧ (True) ∧ SP_X2_leastLoudness b v u t Mz r M') := by
    intro nn_3
    induction nn_3 with
    | zero => intro M_3 hI_3 hF_3 v4_3 hv0_3 hv1_3 hL_3 hm_3; exact absurd hm_3 (Nat.not_lt_zero _)
    | succ nn_3 ih_3 =>
      intro M_3 hI_3 hF_3 v4_3 hv0_3 hv1_3 hL_3 hm_3
      refine w_iload dX2_leastLoudness_3 0 rfl ?_
      refine w_bipush (v := 99) dX2_leastLoudness_5 (by decide) ?_
      refine w_icmp_gt (tgt := 42) dX2_leastLoudness_7 (by decide) (rfl : v4_3.toInt = v4_3.toInt) li_99 (fun h2_ => ?_) (fun h2_ => ?_)
      · refine w_iconst (v := 0) dX2_leastLoudness_42 (by decide) ?_
        exact w_iret rfl dX2_leastLoudness_43 ⟨hI_3, hF_3, trivial, ⟨v4_3, hv0_3, hv1_3, M_3, hL_3, hI_3, hF_3, (Or.inl ⟨h2_, rfl, rfl⟩)⟩⟩
      · refine w_aload_n dX2_leastLoudness_10 rfl 1 rfl ?_
        refine w_iload_n dX2_leastLoudness_11 rfl 2 rfl ?_
        refine w_iload_n dX2_leastLoudness_12 rfl 3 rfl ?_
        refine w_bipush (v := 100) dX2_leastLoudness_13 (by decide) ?_
        refine w_bipush (v := 9) dX2_leastLoudness_15 (by decide) ?_
        refine w_iload_n dX2_leastLoudness_17 rfl 2 rfl ?_
        refine w_min m_885 m_770 m_86 m_771 li_9 (rfl : v.toInt = v.toInt) (Nat.le_of_ble_eq_true rfl) (by omega) dX2_leastLoudness_18 (fun z3_ h4_ => ?_)
        refine w_imul dX2_leastLoudness_21 (fun z5_ h6_ => ?_)
        refine w_iload dX2_leastLoudness_22 0 rfl ?_
        refine w_iadd dX2_leastLoudness_24 (fun z7_ h8_ => ?_)
        refine w_iload_n dX2_leastLoudness_25 rfl 4 rfl ?_
        refine w_iconst (v := 0) dX2_leastLoudness_26 (by decide) ?_
        refine w_callV (as := [vI v, vI u, vI z7_, vI t, vI 0]) (rest := []) (c_X2_hears l G cy ad d b v u z7_ t 0 M_3 hI_3 hb) kV_X2_hears pnn_5 (Nat.le_of_ble_eq_true rfl) m_956 rfl rfl rfl (ic_2 hb) rfl rfl (by decide) (Nat.le_of_ble_eq_true rfl) dX2_leastLoudness_27 (fun r9_ M10_ q11_ => ?_)
        obtain ⟨hI13_, hF14_, h12_, hs16_⟩ := q11_
        have hF15_ := hF_3.tr hF14_ (fun c k => (fun h => h.elim (fun h => (Or.inl ⟨h.1, h.2.1, h.2.2⟩)) (fun h => h.elim (fun h => (Or.inr (Or.inl ⟨h.1, h.2.1, h.2.2⟩))) (fun h => h.elim (fun h => (Or.inr (Or.inr (Or.inl ⟨h.1, h.2.1, h.2.2⟩)))) (fun h => h.elim (fun h => (Or.inr (Or.inr (Or.inr (Or.inl ⟨h.1, h.2.1, h.2.2⟩))))) (fun h => h.elim (fun h => (Or.inr (Or.inr (Or.inr (Or.inr (Or.inl ⟨h.1, h.2.1, h.2.2⟩)))))) (fun h => h.elim (fun h => (Or.inr (Or.inr (Or.inr (Or.inr (Or.inr (Or.inl ⟨h.1, h.2.1, h.2.2⟩))))))) (fun h => h.elim))))))))
        refine w_if_eq (tgt := 36) dX2_leastLoudness_30 (by decide) (rfl : r9_.toInt = r9_.toInt) (fun h17_ => ?_) (fun h17_ => ?_)
        · refine w_iincB (j := 0) (f := fun z18_ => [(4, vI z18_), (0, vR (2, b, 0)), (1, vI v), (2, vI u), (3, vI t)]) dX2_leastLoudness_36 rfl (by decide) (fun _ => rfl) (rfl : v4_3.toInt = v4_3.toInt) li_1 (lf_c_X2_leastLoudness_0 v4_3 hv0_3 h2_ ) (fun z18_ h19_ => ?_)
          refine w_goto (tgt := 3) dX2_leastLoudness_39 (by decide) ?_
          refine w_loc (ls' := [(4, vI z18_), (0, vR (2, b, 0)), (1, vI v), (2, vI u), (3, vI t)]) [0, 1, 2, 3, 4] rfl ?_
          exact ih_3 M10_ hI13_ hF15_ z18_ (lf_c_X9_yardsToFull_1 v4_3 z18_ hv0_3 h19_ ) (lf_c_X2_leastLoudness_2 v4_3 z18_ h2_ h19_ ) (RCH.tail hL_3 ⟨hv0_3, hv1_3, hI_3, hF_3, h2_, z3_, h4_, z5_, h6_, z7_, h8_, M10_, hI13_, hF14_, r9_, hs16_, h12_, h17_, z18_, h19_, rfl, rfl⟩) (Nat.lt_of_lt_of_le (lf_c_X2_leastLoudness_3 v4_3 z18_ h2_ h19_ ) (Nat.le_of_lt_succ hm_3))
        · refine w_iload dX2_leastLoudness_33 0 rfl ?_
          exact w_iret rfl dX2_leastLoudness_35 ⟨hI13_, hF15_, trivial, ⟨v4_3, hv0_3, hv1_3, M_3, hL_3, hI_3, hF_3, (Or.inr ⟨h2_, z3_, h4_, z5_, h6_, z7_, h8_, M10_, hI13_, hF14_, r9_, hs16_, h12_, h17_, rfl, rfl⟩)⟩⟩
  exact lp1_ _ Mz hIz hFz 1 (lf_c_X9_yardsToFull_4 ) (lf_c_X2_leastLoudness_5 ) RCH.refl (Nat.lt_succ_self _)
def S_c_X2_takeFrom (b : Nat) (b2 : Nat) : rf → Nat → Prop := fun c k => (c.1 = 2 ∧ c.2.1 = b ∧ k = 0) ∨ (c.1 = 2 ∧ c.2.1 = b ∧ k = 1) ∨ (c.1 = 2 ∧ c.2.1 = b ∧ k = 2) ∨ (c.1 = 26 ∧ c.2.1 = b) ∨ (c.1 = 27 ∧ c.2.1 = b) ∨ (c.1 = 1 ∧ c.2.1 = b ∧ k = 2) ∨ (c.1 = 24 ∧ c.2.1 = b) ∨ False
def ST_X2_takeFrom_54 (b : Nat) (b2 : Nat) (Mz : mM) (v2_54 : Int32) (M_54 : mM) (v2_54y : Int32) (M_54y : mM) : Prop := (0 ≤ v2_54.toInt) ∧ (v2_54.toInt ≤ 3) ∧ (Inv M_54) ∧ (FR (S_c_X2_takeFrom b b2) Mz M_54) ∧ (v2_54.toInt < 3) ∧ ∃ j29_ : Nat, ((j29_ : Int) = v2_54.toInt) ∧ (j29_ < 3) ∧ (vF b j29_) ∧ ∃ j33_ : Nat, ((j33_ : Int) = v2_54.toInt) ∧ (j33_ < 3) ∧ (vF b2 j33_) ∧ ∃ M37_ : mM, (Inv M37_) ∧ (FR (S_c_X1_takeFrom b j29_ b2 j33_) M_54 M37_) ∧ (SP_X1_takeFrom b j29_ b2 j33_ M_54 M37_) ∧ ∃ z44_ : Int32, (z44_.toInt = v2_54.toInt + 1) ∧ v2_54y = z44_ ∧ M_54y = M37_
def SP_X2_takeFrom (b : Nat) (b2 : Nat) (Mz : mM) (M_ : mM) : Prop := ∃ z1_ : Int32, (z1_ = Mz.1 (2, b2, 0) 0) ∧ ∃ M3_ : mM, (M3_ = up Mz (2, b, 0) 0 z1_) ∧ ∃ z7_ : Int32, (z7_ = M3_.1 (2, b2, 0) 1) ∧ ∃ M9_ : mM, (M9_ = up M3_ (2, b, 0) 1 z7_) ∧ ∃ z13_ : Int32, (z13_ = M9_.1 (2, b2, 0) 2) ∧ ∃ M15_ : mM, (M15_ = up M9_ (2, b, 0) 2 z13_) ∧ ∃ M19_ : mM, (M19_ = cp M15_ (26, b2, 0) (26, b, 0) (0 : Int32).toNatClampNeg (0 : Int32).toNatClampNeg (5 : Int32).toNatClampNeg) ∧ ∃ M23_ : mM, (M23_ = cp M19_ (27, b2, 0) (27, b, 0) (0 : Int32).toNatClampNeg (0 : Int32).toNatClampNeg (5 : Int32).toNatClampNeg) ∧ ∃ v2_54 : Int32, (0 ≤ v2_54.toInt) ∧ (v2_54.toInt ≤ 3) ∧ ∃ M_54 : mM, (RCH (fun x_ y_ => ST_X2_takeFrom_54 b b2 Mz x_.1 x_.2 y_.1 y_.2) ((0 : Int32), M23_) (v2_54, M_54)) ∧ (Inv M_54) ∧ (FR (S_c_X2_takeFrom b b2) Mz M_54) ∧ (3 ≤ v2_54.toInt) ∧ M_ = M_54
theorem lf_c_X2_takeFrom_0 (v2_54 : Int32) (hv0_54 : 0 ≤ v2_54.toInt) (h28_ : v2_54.toInt < 3) : 0 ≤ v2_54.toInt ∧ v2_54.toInt < ((3 : Nat) : Int) := by omega
theorem lf_c_X2_takeFrom_2 (v2_54 : Int32) (hv0_54 : 0 ≤ v2_54.toInt) (h28_ : v2_54.toInt < 3) : -2147483648 ≤ v2_54.toInt + 1 ∧ v2_54.toInt + 1 < 2147483648 := by omega
theorem lf_c_X2_takeFrom_4 (v2_54 : Int32) (z44_ : Int32) (h28_ : v2_54.toInt < 3) (h45_ : z44_.toInt = v2_54.toInt + 1) : z44_.toInt ≤ 3 := by omega
theorem lf_c_X2_takeFrom_5 (v2_54 : Int32) (z44_ : Int32) (h28_ : v2_54.toInt < 3) (h45_ : z44_.toInt = v2_54.toInt + 1) : (2147483648 - z44_.toInt).toNat < (2147483648 - v2_54.toInt).toNat := by omega
theorem lf_c_X2_takeFrom_7 : (0 : Int32).toInt ≤ 3 := by have q0 := li_0; omega
set_option maxHeartbeats 4000000 in
set_option maxRecDepth 100000 in
theorem c_X2_takeFrom (l : Launch) (G : va_G) (cy : Nat → ClassId) (ad : rf → Nat) (d : Nat) (b : Nat) (b2 : Nat) (Mz : mM) (hIz : Inv Mz) (hb : b < 3) (hb2 : b2 < 3) : WP CC l G cy ad yX2_takeFrom cX2_takeFrom 3 none (d + 2) 0 [(0, vR (2, b, 0)), (1, vR (2, b2, 0))] [] Mz (fun r M' => Inv M' ∧ FR (S_c_X2_takeFrom b b2) Mz M' ∧ (True) ∧ SP_X2_takeFrom b b2 Mz M') := by
  have hFz : FR (S_c_X2_takeFrom b b2) Mz Mz := FR.self
  refine w_aload_n dX2_takeFrom_0 rfl 0 rfl ?_
  refine w_aload_n dX2_takeFrom_1 rfl 1 rfl ?_
  refine w_getI fl_RX2_7 rfl rfl (ic_2 hb2) dX2_takeFrom_2 (fun z1_ e2_ => ?_)
  refine w_putI CC_nd fl_RX2_7 rfl rfl (ic_2 hb) dX2_takeFrom_5 (fun M3_ hM4_ => ?_)
  have hI5_ := hIz.put hM4_ trivial
  have hF6_ := hFz.put hM4_ (Or.inl ⟨rfl, rfl, rfl⟩)
  refine w_aload_n dX2_takeFrom_8 rfl 0 rfl ?_
  refine w_aload_n dX2_takeFrom_9 rfl 1 rfl ?_
  refine w_getI fl_RX2_13 rfl rfl (ic_2 hb2) dX2_takeFrom_10 (fun z7_ e8_ => ?_)
  refine w_putI CC_nd fl_RX2_13 rfl rfl (ic_2 hb) dX2_takeFrom_13 (fun M9_ hM10_ => ?_)
  have hI11_ := hI5_.put hM10_ trivial
  have hF12_ := hF6_.put hM10_ (Or.inr (Or.inl ⟨rfl, rfl, rfl⟩))
  refine w_aload_n dX2_takeFrom_16 rfl 0 rfl ?_
  refine w_aload_n dX2_takeFrom_17 rfl 1 rfl ?_
  refine w_getI fl_RX2_16 rfl rfl (ic_2 hb2) dX2_takeFrom_18 (fun z13_ e14_ => ?_)
  refine w_putI CC_nd fl_RX2_16 rfl rfl (ic_2 hb) dX2_takeFrom_21 (fun M15_ hM16_ => ?_)
  have hI17_ := hI11_.put hM16_ trivial
  have hF18_ := hF12_.put hM16_ (Or.inr (Or.inr (Or.inl ⟨rfl, rfl, rfl⟩)))
  refine w_aload_n dX2_takeFrom_24 rfl 1 rfl ?_
  refine w_getR (c' := (26, b2, 0)) fl_RX2_21 rfl rfl (ic_2 hb2) dX2_takeFrom_25 rfl ?_
  refine w_iconst (v := 0) dX2_takeFrom_28 (by decide) ?_
  refine w_aload_n dX2_takeFrom_29 rfl 0 rfl ?_
  refine w_getR (c' := (26, b, 0)) fl_RX2_21 rfl rfl (ic_2 hb) dX2_takeFrom_30 rfl ?_
  refine w_iconst (v := 0) dX2_takeFrom_33 (by decide) ?_
  refine w_iconst (v := 5) dX2_takeFrom_34 (by decide) ?_
  refine w_copy CC_nd rfl rfl (ic_26 hb2) rfl rfl (ic_26 hb) m_1267 m_830 m_829 m_98 li_0 li_0 li_5 (by decide) rfl (by omega) dX2_takeFrom_35 (fun M19_ hM20_ => ?_)
  have hI21_ := hI17_.cpy hM20_ (fun _ _ => trivial)
  have hF22_ := hF18_.cpy hM20_ (fun _ => (Or.inr (Or.inr (Or.inr (Or.inl ⟨rfl, rfl⟩)))))
  refine w_aload_n dX2_takeFrom_38 rfl 1 rfl ?_
  refine w_getR (c' := (27, b2, 0)) fl_RX2_25 rfl rfl (ic_2 hb2) dX2_takeFrom_39 rfl ?_
  refine w_iconst (v := 0) dX2_takeFrom_42 (by decide) ?_
  refine w_aload_n dX2_takeFrom_43 rfl 0 rfl ?_
  refine w_getR (c' := (27, b, 0)) fl_RX2_25 rfl rfl (ic_2 hb) dX2_takeFrom_44 rfl ?_
  refine w_iconst (v := 0) dX2_takeFrom_47 (by decide) ?_
  refine w_iconst (v := 5) dX2_takeFrom_48 (by decide) ?_
  refine w_copy CC_nd rfl rfl (ic_27 hb2) rfl rfl (ic_27 hb) m_1267 m_830 m_829 m_98 li_0 li_0 li_5 (by decide) rfl (by omega) dX2_takeFrom_49 (fun M23_ hM24_ => ?_)
  have hI25_ := hI21_.cpy hM24_ (fun _ _ => trivial)
  have hF26_ := hF22_.cpy hM24_ (fun _ => (Or.inr (Or.inr (Or.inr (Or.inr (Or.inl ⟨rfl, rfl⟩))))))
  refine w_iconst (v := 0) dX2_takeFrom_52 (by decide) ?_
  refine w_istore_n (ls' := [(2, vI 0), (0, vR (2, b, 0)), (1, vR (2, b2, 0))]) dX2_takeFrom_53 rfl (by decide) rfl ?_
  have lp27_ : ∀ (nn_54 : Nat) (M_54 : mM) (hI_54 : Inv M_54) (hF_54 : FR (S_c_X2_takeFrom b b2) Mz M_54) (v2_54 : Int32) (hv0_54 : 0 ≤ v2_54.toInt) (hv1_54 : v2_54.toInt ≤ 3) (hL_54 : RCH (fun x_ y_ => ST_X2_takeFrom_54 b b2 Mz x_.1 x_.2 y_.1 y_.2) ((0 : Int32), M23_) (v2_54, M_54)), (2147483648 - v2_54.toInt).toNat < nn_54 → WP CC l G cy ad yX2_takeFrom cX2_takeFrom 3 none (d + 2) 54 [(2, vI v2_54), (0, vR (2, b, 0)), (1, vR (2, b2, 0))] [] M_54 (fun r M' => Inv M' ∧ FR (S_c_X2_takeFrom b b2) Mz M' ∧ (True) ∧ SP_X2_takeFrom b b2 Mz M') := by
    intro nn_54
    induction nn_54 with
    | zero => intro M_54 hI_54 hF_54 v2_54 hv0_54 hv1_54 hL_54 hm_54; exact absurd hm_54 (Nat.not_lt_zero _)
    | succ nn_54 ih_54 =>
      intro M_54 hI_54 hF_54 v2_54 hv0_54 hv1_54 hL_54 hm_54
      refine w_iload_n dX2_takeFrom_54 rfl 0 rfl ?_
      refine w_iconst (v := 3) dX2_takeFrom_55 (by decide) ?_
      refine w_icmp_ge (tgt := 80) dX2_takeFrom_56 (by decide) (rfl : v2_54.toInt = v2_54.toInt) li_3 (fun h28_ => ?_) (fun h28_ => ?_)
      · exact w_vret rfl dX2_takeFrom_80 ⟨hI_54, hF_54, trivial, ⟨z1_, e2_, M3_, hM4_, z7_, e8_, M9_, hM10_, z13_, e14_, M15_, hM16_, M19_, hM20_, M23_, hM24_, v2_54, hv0_54, hv1_54, M_54, hL_54, hI_54, hF_54, h28_, rfl⟩⟩
      · refine w_aload_n dX2_takeFrom_59 rfl 1 rfl ?_
        refine w_getR (c' := (28, b, 0)) fl_RX2_30 rfl rfl (ic_2 hb) dX2_takeFrom_60 rfl ?_
        refine w_iload_n dX2_takeFrom_63 rfl 0 rfl ?_
        refine w_aald rfl rfl rfl (fun _ => rfl) (ic_28 hb) (rfl : v2_54.toInt = v2_54.toInt) (lf_c_X2_takeFrom_0 v2_54 hv0_54 h28_ ) dX2_takeFrom_64 (fun j29_ h30_ h31_ => ?_)
        have h32_ : vF b j29_ := Or.inl ⟨hb, h31_⟩
        refine w_aload_n dX2_takeFrom_65 rfl 2 rfl ?_
        refine w_getR (c' := (28, b2, 0)) fl_RX2_30 rfl rfl (ic_2 hb2) dX2_takeFrom_66 rfl ?_
        refine w_iload_n dX2_takeFrom_69 rfl 0 rfl ?_
        refine w_aald rfl rfl rfl (fun _ => rfl) (ic_28 hb2) (rfl : v2_54.toInt = v2_54.toInt) (lf_c_X2_takeFrom_0 v2_54 hv0_54 h28_ ) dX2_takeFrom_70 (fun j33_ h34_ h35_ => ?_)
        have h36_ : vF b2 j33_ := Or.inl ⟨hb2, h35_⟩
        refine w_callVv (as := [vR (1, b2, j33_)]) (rest := []) (c_X1_takeFrom l G cy ad d b j29_ b2 j33_ M_54 hI_54 h32_ h36_) kV_X1_takeFrom pnn_6 (Nat.le_of_ble_eq_true rfl) m_1268 rfl rfl rfl (ic_1 h32_) rfl rfl (by decide) (Nat.le_of_ble_eq_true rfl) dX2_takeFrom_71 (fun M37_ q38_ => ?_)
        obtain ⟨hI40_, hF41_, h39_, hs43_⟩ := q38_
        have hF42_ := hF_54.tr hF41_ (fun c k => (fun h => h.elim (fun h => (Or.inr (Or.inr (Or.inr (Or.inr (Or.inr (Or.inl ⟨h.1, h.2.1, h.2.2.2⟩))))))) (fun h => h.elim (fun h => (Or.inr (Or.inr (Or.inr (Or.inr (Or.inr (Or.inr (Or.inl ⟨h.1, h.2.1⟩)))))))) (fun h => h.elim))))
        refine w_iincB (j := 0) (f := fun z44_ => [(2, vI z44_), (0, vR (2, b, 0)), (1, vR (2, b2, 0))]) dX2_takeFrom_74 rfl (by decide) (fun _ => rfl) (rfl : v2_54.toInt = v2_54.toInt) li_1 (lf_c_X2_takeFrom_2 v2_54 hv0_54 h28_ ) (fun z44_ h45_ => ?_)
        refine w_goto (tgt := 54) dX2_takeFrom_77 (by decide) ?_
        refine w_loc (ls' := [(2, vI z44_), (0, vR (2, b, 0)), (1, vR (2, b2, 0))]) [0, 1, 2] rfl ?_
        exact ih_54 M37_ hI40_ hF42_ z44_ (lf_c_X5_takeFrom_3 v2_54 z44_ hv0_54 h45_ ) (lf_c_X2_takeFrom_4 v2_54 z44_ h28_ h45_ ) (RCH.tail hL_54 ⟨hv0_54, hv1_54, hI_54, hF_54, h28_, j29_, h30_, h31_, h32_, j33_, h34_, h35_, h36_, M37_, hI40_, hF41_, hs43_, z44_, h45_, rfl, rfl⟩) (Nat.lt_of_lt_of_le (lf_c_X2_takeFrom_5 v2_54 z44_ h28_ h45_ ) (Nat.le_of_lt_succ hm_54))
  exact lp27_ _ M23_ hI25_ hF26_ 0 (lf_c_X5_takeFrom_5 ) (lf_c_X2_takeFrom_7 ) RCH.refl (Nat.lt_succ_self _)
def SP_X3_hasRoom (b : Nat) (Mz : mM) (r_ : Int32) : Prop := ∃ z1_ : Int32, (z1_ = Mz.1 (3, b, 0) 3) ∧ (((7 ≤ z1_.toInt) ∧ r_ = 0) ∨ ((z1_.toInt < 7) ∧ r_ = 1))
set_option maxHeartbeats 4000000 in
set_option maxRecDepth 100000 in
theorem c_X3_hasRoom (l : Launch) (G : va_G) (cy : Nat → ClassId) (ad : rf → Nat) (d : Nat) (b : Nat) (Mz : mM) (hIz : Inv Mz) (hb : b < 3) : WP CC l G cy ad yX3_hasRoom cX3_hasRoom 1 (some .boolean) d 0 [(0, vR (3, b, 0))] [] Mz (fun r M' => Mz = M' ∧ ((0 ≤ r.toInt ∧ r.toInt ≤ 1)) ∧ SP_X3_hasRoom b Mz r) := by
  refine w_aload_n dX3_hasRoom_0 rfl 0 rfl ?_
  refine w_getI fl_RX3_19 rfl rfl (ic_3 hb) dX3_hasRoom_1 (fun z1_ e2_ => ?_)
  refine w_bipush (v := 7) dX3_hasRoom_4 (by decide) ?_
  refine w_icmp_ge (tgt := 13) dX3_hasRoom_6 (by decide) (rfl : z1_.toInt = z1_.toInt) li_7 (fun h3_ => ?_) (fun h3_ => ?_)
  · refine w_iconst (v := 0) dX3_hasRoom_13 (by decide) ?_
    exact w_zret rfl dX3_hasRoom_14 ⟨by decide, by decide⟩ ⟨rfl, ⟨by decide, by decide⟩, ⟨z1_, e2_, (Or.inl ⟨h3_, rfl⟩)⟩⟩
  · refine w_iconst (v := 1) dX3_hasRoom_9 (by decide) ?_
    refine w_goto (tgt := 14) dX3_hasRoom_10 (by decide) ?_
    exact w_zret rfl dX3_hasRoom_14 ⟨by decide, by decide⟩ ⟨rfl, ⟨by decide, by decide⟩, ⟨z1_, e2_, (Or.inr ⟨h3_, rfl⟩)⟩⟩
def S_c_X3_add (b : Nat) : rf → Nat → Prop := fun c k => (c.1 = 30 ∧ c.2.1 = b) ∨ (c.1 = 31 ∧ c.2.1 = b) ∨ (c.1 = 32 ∧ c.2.1 = b) ∨ (c.1 = 3 ∧ c.2.1 = b ∧ k = 3) ∨ False
def SP_X3_add (b : Nat) (v : Int32) (u : Int32) (t : Int32) (Mz : mM) (r_ : Int32) (M_ : mM) : Prop := ∃ z1_ : Int32, (z1_ = Mz.1 (3, b, 0) 3) ∧ (((z1_.toInt < 0) ∧ r_ = (-1) ∧ M_ = Mz) ∨ ((0 ≤ z1_.toInt) ∧ (((z1_.toInt < 7) ∧ ∃ j7_ : Nat, ((j7_ : Int) = z1_.toInt) ∧ ∃ M5_ : mM, (M5_ = up Mz (30, b, 0) j7_ v) ∧ ∃ j13_ : Nat, ((j13_ : Int) = z1_.toInt) ∧ ∃ M11_ : mM, (M11_ = up M5_ (31, b, 0) j13_ u) ∧ ∃ j19_ : Nat, ((j19_ : Int) = z1_.toInt) ∧ ∃ M17_ : mM, (M17_ = up M11_ (32, b, 0) j19_ t) ∧ ∃ z23_ : Int32, (z23_ = M17_.1 (3, b, 0) 3) ∧ ∃ z25_ : Int32, (z25_ = z23_ + (1 : Int32)) ∧ ∃ M27_ : mM, (M27_ = up M17_ (3, b, 0) 3 z25_) ∧ r_ = z1_ ∧ M_ = M27_) ∨ ((7 ≤ z1_.toInt) ∧ r_ = (-1) ∧ M_ = Mz))))
theorem lf_c_X3_add_0 (z1_ : Int32) (h3_ : 0 ≤ z1_.toInt) (h4_ : z1_.toInt < 7) : 0 ≤ z1_.toInt ∧ z1_.toInt < ((7 : Nat) : Int) := by omega
set_option maxHeartbeats 4000000 in
set_option maxRecDepth 100000 in
theorem c_X3_add (l : Launch) (G : va_G) (cy : Nat → ClassId) (ad : rf → Nat) (d : Nat) (b : Nat) (v : Int32) (u : Int32) (t : Int32) (Mz : mM) (hIz : Inv Mz) (hb : b < 3) : WP CC l G cy ad yX3_add cX3_add 5 (some .int) d 0 [(0, vR (3, b, 0)), (1, vI v), (2, vI u), (3, vI t)] [] Mz (fun r M' => Inv M' ∧ FR (S_c_X3_add b) Mz M' ∧ (True) ∧ SP_X3_add b v u t Mz r M') := by
  have hFz : FR (S_c_X3_add b) Mz Mz := FR.self
  refine w_aload_n dX3_add_0 rfl 0 rfl ?_
  refine w_getI fl_RX3_19 rfl rfl (ic_3 hb) dX3_add_1 (fun z1_ e2_ => ?_)
  refine w_istore (ls' := [(4, vI z1_), (0, vR (3, b, 0)), (1, vI v), (2, vI u), (3, vI t)]) dX3_add_4 (by decide) rfl ?_
  refine w_iload dX3_add_6 0 rfl ?_
  refine w_if_lt (tgt := 18) dX3_add_8 (by decide) (rfl : z1_.toInt = z1_.toInt) (fun h3_ => ?_) (fun h3_ => ?_)
  · refine w_iconst (v := (-1)) dX3_add_18 (by decide) ?_
    exact w_iret rfl dX3_add_19 ⟨hIz, hFz, trivial, ⟨z1_, e2_, (Or.inl ⟨h3_, rfl, rfl⟩)⟩⟩
  · refine w_iload dX3_add_11 0 rfl ?_
    refine w_bipush (v := 7) dX3_add_13 (by decide) ?_
    refine w_icmp_lt (tgt := 20) dX3_add_15 (by decide) (rfl : z1_.toInt = z1_.toInt) li_7 (fun h4_ => ?_) (fun h4_ => ?_)
    · refine w_aload_n dX3_add_20 rfl 1 rfl ?_
      refine w_getR (c' := (30, b, 0)) fl_RX3_9 rfl rfl (ic_3 hb) dX3_add_21 rfl ?_
      refine w_iload dX3_add_24 0 rfl ?_
      refine w_iload_n dX3_add_26 rfl 2 rfl ?_
      refine w_iast CC_nd rfl rfl (ic_30 hb) (rfl : z1_.toInt = z1_.toInt) (lf_c_X3_add_0 z1_ h3_ h4_ ) dX3_add_27 (fun j7_ h8_ M5_ hM6_ => ?_)
      have hI9_ := hIz.put hM6_ trivial
      have hF10_ := hFz.put hM6_ (Or.inl ⟨rfl, rfl⟩)
      refine w_aload_n dX3_add_28 rfl 1 rfl ?_
      refine w_getR (c' := (31, b, 0)) fl_RX3_13 rfl rfl (ic_3 hb) dX3_add_29 rfl ?_
      refine w_iload dX3_add_32 0 rfl ?_
      refine w_iload_n dX3_add_34 rfl 3 rfl ?_
      refine w_iast CC_nd rfl rfl (ic_31 hb) (rfl : z1_.toInt = z1_.toInt) (lf_c_X3_add_0 z1_ h3_ h4_ ) dX3_add_35 (fun j13_ h14_ M11_ hM12_ => ?_)
      have hI15_ := hI9_.put hM12_ trivial
      have hF16_ := hF10_.put hM12_ (Or.inr (Or.inl ⟨rfl, rfl⟩))
      refine w_aload_n dX3_add_36 rfl 1 rfl ?_
      refine w_getR (c' := (32, b, 0)) fl_RX3_16 rfl rfl (ic_3 hb) dX3_add_37 rfl ?_
      refine w_iload dX3_add_40 0 rfl ?_
      refine w_iload_n dX3_add_42 rfl 4 rfl ?_
      refine w_iast CC_nd rfl rfl (ic_32 hb) (rfl : z1_.toInt = z1_.toInt) (lf_c_X3_add_0 z1_ h3_ h4_ ) dX3_add_43 (fun j19_ h20_ M17_ hM18_ => ?_)
      have hI21_ := hI15_.put hM18_ trivial
      have hF22_ := hF16_.put hM18_ (Or.inr (Or.inr (Or.inl ⟨rfl, rfl⟩)))
      refine w_aload_n dX3_add_44 rfl 1 rfl ?_
      refine w_dup dX3_add_45 rfl ?_
      refine w_getI fl_RX3_19 rfl rfl (ic_3 hb) dX3_add_46 (fun z23_ e24_ => ?_)
      refine w_iconst (v := 1) dX3_add_49 (by decide) ?_
      refine w_iadd dX3_add_50 (fun z25_ h26_ => ?_)
      refine w_putI CC_nd fl_RX3_19 rfl rfl (ic_3 hb) dX3_add_51 (fun M27_ hM28_ => ?_)
      have hI29_ := hI21_.put hM28_ (fun h => absurd h (by decide))
      have hF30_ := hF22_.put hM28_ (Or.inr (Or.inr (Or.inr (Or.inl ⟨rfl, rfl, rfl⟩))))
      refine w_iload dX3_add_54 0 rfl ?_
      exact w_iret rfl dX3_add_56 ⟨hI29_, hF30_, trivial, ⟨z1_, e2_, (Or.inr ⟨h3_, (Or.inl ⟨h4_, j7_, h8_, M5_, hM6_, j13_, h14_, M11_, hM12_, j19_, h20_, M17_, hM18_, z23_, e24_, z25_, h26_, M27_, hM28_, rfl, rfl⟩)⟩)⟩⟩
    · refine w_iconst (v := (-1)) dX3_add_18 (by decide) ?_
      exact w_iret rfl dX3_add_19 ⟨hIz, hFz, trivial, ⟨z1_, e2_, (Or.inr ⟨h3_, (Or.inr ⟨h4_, rfl, rfl⟩)⟩)⟩⟩
def SP_X3_isBetter (b : Nat) (v : Int32) (Mz : mM) (r_ : Int32) : Prop := ∃ z1_ : Int32, (z1_ = Mz.1 (3, b, 0) 7) ∧ (((v.toInt < z1_.toInt) ∧ r_ = 1) ∨ ((z1_.toInt ≤ v.toInt) ∧ (((¬ v.toInt = z1_.toInt) ∧ r_ = 0) ∨ ((v.toInt = z1_.toInt) ∧ ∃ z7_ : Int32, (z7_ = Mz.1 (5, b, 2) 1) ∧ ∃ z9_ : Int32, (z9_ = Mz.1 (5, b, 3) 1) ∧ (((z9_.toInt ≤ z7_.toInt) ∧ r_ = 0) ∨ ((z7_.toInt < z9_.toInt) ∧ r_ = 1))))))
theorem lf_c_X3_isBetter_0 (Mz : mM) (b : Nat) (v : Int32) (z1_ : Int32) (hb : b < 3) (e2_ : z1_ = Mz.1 (3, b, 0) 7) (h3_ : z1_.toInt ≤ v.toInt) (h6_ : v.toInt = z1_.toInt) : vRw b 2 := by have r_v := rngI v; have r_z1_ := rngI z1_; unfold vRw; omega
theorem lf_c_X3_isBetter_1 (Mz : mM) (b : Nat) (v : Int32) (z1_ : Int32) (z7_ : Int32) (hb : b < 3) (e2_ : z1_ = Mz.1 (3, b, 0) 7) (h3_ : z1_.toInt ≤ v.toInt) (h6_ : v.toInt = z1_.toInt) (e8_ : z7_ = Mz.1 (5, b, 2) 1) : vRw b 3 := by have r_v := rngI v; have r_z1_ := rngI z1_; have r_z7_ := rngI z7_; unfold vRw; omega
set_option maxHeartbeats 4000000 in
set_option maxRecDepth 100000 in
theorem c_X3_isBetter (l : Launch) (G : va_G) (cy : Nat → ClassId) (ad : rf → Nat) (d : Nat) (b : Nat) (v : Int32) (Mz : mM) (hIz : Inv Mz) (hb : b < 3) : WP CC l G cy ad yX3_isBetter cX3_isBetter 2 (some .boolean) d 0 [(0, vR (3, b, 0)), (1, vI v)] [] Mz (fun r M' => Mz = M' ∧ ((0 ≤ r.toInt ∧ r.toInt ≤ 1)) ∧ SP_X3_isBetter b v Mz r) := by
  refine w_iload_n dX3_isBetter_0 rfl 1 rfl ?_
  refine w_aload_n dX3_isBetter_1 rfl 0 rfl ?_
  refine w_getI fl_RX3_38 rfl rfl (ic_3 hb) dX3_isBetter_2 (fun z1_ e2_ => ?_)
  refine w_icmp_lt (tgt := 33) dX3_isBetter_5 (by decide) (rfl : v.toInt = v.toInt) (rfl : z1_.toInt = z1_.toInt) (fun h3_ => ?_) (fun h3_ => ?_)
  · refine w_iconst (v := 1) dX3_isBetter_33 (by decide) ?_
    refine w_goto (tgt := 38) dX3_isBetter_34 (by decide) ?_
    exact w_zret rfl dX3_isBetter_38 ⟨by decide, by decide⟩ ⟨rfl, ⟨by decide, by decide⟩, ⟨z1_, e2_, (Or.inl ⟨h3_, rfl⟩)⟩⟩
  · refine w_iload_n dX3_isBetter_8 rfl 1 rfl ?_
    refine w_aload_n dX3_isBetter_9 rfl 0 rfl ?_
    refine w_getI fl_RX3_38 rfl rfl (ic_3 hb) dX3_isBetter_10 (fun z4_ e5_ => ?_)
    obtain rfl : z1_ = z4_ := e2_.trans e5_.symm
    refine w_icmp_ne (tgt := 37) dX3_isBetter_13 (by decide) (rfl : v.toInt = v.toInt) (rfl : z1_.toInt = z1_.toInt) (fun h6_ => ?_) (fun h6_ => ?_)
    · refine w_iconst (v := 0) dX3_isBetter_37 (by decide) ?_
      exact w_zret rfl dX3_isBetter_38 ⟨by decide, by decide⟩ ⟨rfl, ⟨by decide, by decide⟩, ⟨z1_, e2_, (Or.inr ⟨h3_, (Or.inl ⟨h6_, rfl⟩)⟩)⟩⟩
    · refine w_aload_n dX3_isBetter_16 rfl 0 rfl ?_
      refine w_getR (c' := (5, b, 2)) fl_RX3_28 rfl rfl (ic_3 hb) dX3_isBetter_17 rfl ?_
      refine w_getI fl_RX3_70 rfl rfl (ic_5 (lf_c_X3_isBetter_0 Mz b v z1_ hb e2_ h3_ h6_ )) dX3_isBetter_20 (fun z7_ e8_ => ?_)
      refine w_aload_n dX3_isBetter_23 rfl 0 rfl ?_
      refine w_getR (c' := (5, b, 3)) fl_RX3_32 rfl rfl (ic_3 hb) dX3_isBetter_24 rfl ?_
      refine w_getI fl_RX3_70 rfl rfl (ic_5 (lf_c_X3_isBetter_1 Mz b v z1_ z7_ hb e2_ h3_ h6_ e8_ )) dX3_isBetter_27 (fun z9_ e10_ => ?_)
      refine w_icmp_ge (tgt := 37) dX3_isBetter_30 (by decide) (rfl : z7_.toInt = z7_.toInt) (rfl : z9_.toInt = z9_.toInt) (fun h11_ => ?_) (fun h11_ => ?_)
      · refine w_iconst (v := 0) dX3_isBetter_37 (by decide) ?_
        exact w_zret rfl dX3_isBetter_38 ⟨by decide, by decide⟩ ⟨rfl, ⟨by decide, by decide⟩, ⟨z1_, e2_, (Or.inr ⟨h3_, (Or.inr ⟨h6_, z7_, e8_, z9_, e10_, (Or.inl ⟨h11_, rfl⟩)⟩)⟩)⟩⟩
      · refine w_iconst (v := 1) dX3_isBetter_33 (by decide) ?_
        refine w_goto (tgt := 38) dX3_isBetter_34 (by decide) ?_
        exact w_zret rfl dX3_isBetter_38 ⟨by decide, by decide⟩ ⟨rfl, ⟨by decide, by decide⟩, ⟨z1_, e2_, (Or.inr ⟨h3_, (Or.inr ⟨h6_, z7_, e8_, z9_, e10_, (Or.inr ⟨h11_, rfl⟩)⟩)⟩)⟩⟩
def S_c_X3_takeFrom (b : Nat) (b2 : Nat) : rf → Nat → Prop := fun c k => (c.1 = 30 ∧ c.2.1 = b) ∨ (c.1 = 31 ∧ c.2.1 = b) ∨ (c.1 = 32 ∧ c.2.1 = b) ∨ (c.1 = 3 ∧ c.2.1 = b ∧ k = 3) ∨ False
def SP_X3_takeFrom (b : Nat) (b2 : Nat) (Mz : mM) (M_ : mM) : Prop := ∃ M1_ : mM, (M1_ = cp Mz (30, b2, 0) (30, b, 0) (0 : Int32).toNatClampNeg (0 : Int32).toNatClampNeg (7 : Int32).toNatClampNeg) ∧ ∃ M5_ : mM, (M5_ = cp M1_ (31, b2, 0) (31, b, 0) (0 : Int32).toNatClampNeg (0 : Int32).toNatClampNeg (7 : Int32).toNatClampNeg) ∧ ∃ M9_ : mM, (M9_ = cp M5_ (32, b2, 0) (32, b, 0) (0 : Int32).toNatClampNeg (0 : Int32).toNatClampNeg (7 : Int32).toNatClampNeg) ∧ ∃ z13_ : Int32, (z13_ = M9_.1 (3, b2, 0) 3) ∧ ∃ M15_ : mM, (M15_ = up M9_ (3, b, 0) 3 z13_) ∧ M_ = M15_
set_option maxHeartbeats 4000000 in
set_option maxRecDepth 100000 in
theorem c_X3_takeFrom (l : Launch) (G : va_G) (cy : Nat → ClassId) (ad : rf → Nat) (d : Nat) (b : Nat) (b2 : Nat) (Mz : mM) (hIz : Inv Mz) (hb : b < 3) (hb2 : b2 < 3) : WP CC l G cy ad yX3_takeFrom cX3_takeFrom 2 none (d + 1) 0 [(0, vR (3, b, 0)), (1, vR (3, b2, 0))] [] Mz (fun r M' => Inv M' ∧ FR (S_c_X3_takeFrom b b2) Mz M' ∧ (True) ∧ SP_X3_takeFrom b b2 Mz M') := by
  have hFz : FR (S_c_X3_takeFrom b b2) Mz Mz := FR.self
  refine w_aload_n dX3_takeFrom_0 rfl 1 rfl ?_
  refine w_getR (c' := (30, b2, 0)) fl_RX3_9 rfl rfl (ic_3 hb2) dX3_takeFrom_1 rfl ?_
  refine w_iconst (v := 0) dX3_takeFrom_4 (by decide) ?_
  refine w_aload_n dX3_takeFrom_5 rfl 0 rfl ?_
  refine w_getR (c' := (30, b, 0)) fl_RX3_9 rfl rfl (ic_3 hb) dX3_takeFrom_6 rfl ?_
  refine w_iconst (v := 0) dX3_takeFrom_9 (by decide) ?_
  refine w_bipush (v := 7) dX3_takeFrom_10 (by decide) ?_
  refine w_copy CC_nd rfl rfl (ic_30 hb2) rfl rfl (ic_30 hb) m_1273 m_830 m_829 m_98 li_0 li_0 li_7 (by decide) rfl (by omega) dX3_takeFrom_12 (fun M1_ hM2_ => ?_)
  have hI3_ := hIz.cpy hM2_ (fun _ _ => trivial)
  have hF4_ := hFz.cpy hM2_ (fun _ => (Or.inl ⟨rfl, rfl⟩))
  refine w_aload_n dX3_takeFrom_15 rfl 1 rfl ?_
  refine w_getR (c' := (31, b2, 0)) fl_RX3_13 rfl rfl (ic_3 hb2) dX3_takeFrom_16 rfl ?_
  refine w_iconst (v := 0) dX3_takeFrom_19 (by decide) ?_
  refine w_aload_n dX3_takeFrom_20 rfl 0 rfl ?_
  refine w_getR (c' := (31, b, 0)) fl_RX3_13 rfl rfl (ic_3 hb) dX3_takeFrom_21 rfl ?_
  refine w_iconst (v := 0) dX3_takeFrom_24 (by decide) ?_
  refine w_bipush (v := 7) dX3_takeFrom_25 (by decide) ?_
  refine w_copy CC_nd rfl rfl (ic_31 hb2) rfl rfl (ic_31 hb) m_1273 m_830 m_829 m_98 li_0 li_0 li_7 (by decide) rfl (by omega) dX3_takeFrom_27 (fun M5_ hM6_ => ?_)
  have hI7_ := hI3_.cpy hM6_ (fun _ _ => trivial)
  have hF8_ := hF4_.cpy hM6_ (fun _ => (Or.inr (Or.inl ⟨rfl, rfl⟩)))
  refine w_aload_n dX3_takeFrom_30 rfl 1 rfl ?_
  refine w_getR (c' := (32, b2, 0)) fl_RX3_16 rfl rfl (ic_3 hb2) dX3_takeFrom_31 rfl ?_
  refine w_iconst (v := 0) dX3_takeFrom_34 (by decide) ?_
  refine w_aload_n dX3_takeFrom_35 rfl 0 rfl ?_
  refine w_getR (c' := (32, b, 0)) fl_RX3_16 rfl rfl (ic_3 hb) dX3_takeFrom_36 rfl ?_
  refine w_iconst (v := 0) dX3_takeFrom_39 (by decide) ?_
  refine w_bipush (v := 7) dX3_takeFrom_40 (by decide) ?_
  refine w_copy CC_nd rfl rfl (ic_32 hb2) rfl rfl (ic_32 hb) m_1273 m_830 m_829 m_98 li_0 li_0 li_7 (by decide) rfl (by omega) dX3_takeFrom_42 (fun M9_ hM10_ => ?_)
  have hI11_ := hI7_.cpy hM10_ (fun _ _ => trivial)
  have hF12_ := hF8_.cpy hM10_ (fun _ => (Or.inr (Or.inr (Or.inl ⟨rfl, rfl⟩))))
  refine w_aload_n dX3_takeFrom_45 rfl 0 rfl ?_
  refine w_aload_n dX3_takeFrom_46 rfl 1 rfl ?_
  refine w_getI fl_RX3_19 rfl rfl (ic_3 hb2) dX3_takeFrom_47 (fun z13_ e14_ => ?_)
  refine w_putI CC_nd fl_RX3_19 rfl rfl (ic_3 hb) dX3_takeFrom_50 (fun M15_ hM16_ => ?_)
  have hI17_ := hI11_.put hM16_ (fun h => absurd h (by decide))
  have hF18_ := hF12_.put hM16_ (Or.inr (Or.inr (Or.inr (Or.inl ⟨rfl, rfl, rfl⟩))))
  exact w_vret rfl dX3_takeFrom_53 ⟨hI17_, hF18_, trivial, ⟨M1_, hM2_, M5_, hM6_, M9_, hM10_, z13_, e14_, M15_, hM16_, rfl⟩⟩
end
section
/-! words of the tables that are used, by their places; decode rows; fields -/
theorem m_14 : Cond.selects yX10_letWalkerGo.cls yX10_letWalkerGo yX10_letWalkerGo ∈ BASE := bmem 14 (by decide +kernel) rfl
theorem m_15 : Cond.selects yX10_goOn.cls yX10_goOn yX10_goOn ∈ BASE := bmem 15 (by decide +kernel) rfl
set_option maxRecDepth 20000 in
theorem m_80 : Cond.initialized RX10 ∈ BASE := bmT1 2 rfl rfl
set_option maxRecDepth 20000 in
theorem m_84 : Cond.initialized RX3 ∈ BASE := bmT1 6 rfl rfl
set_option maxRecDepth 20000 in
theorem m_309 : Cond.fieldLink RX10 10 "ClickStreet$World" "street" "LClickStreet$Street;" ∈ BASE := bmT1 231 rfl rfl
set_option maxRecDepth 20000 in
theorem m_312 : Cond.fieldLink RX10 19 "ClickStreet$World" "laws" "LClickStreet$Laws;" ∈ BASE := bmT1 234 rfl rfl
set_option maxRecDepth 20000 in
theorem m_315 : Cond.fieldLink RX10 26 "ClickStreet$World" "lessons" "LClickStreet$Lessons;" ∈ BASE := bmT1 237 rfl rfl
set_option maxRecDepth 20000 in
theorem m_317 : Cond.fieldLink RX10 37 "ClickStreet$World" "tape" "LClickStreet$Row;" ∈ BASE := bmT1 239 rfl rfl
set_option maxRecDepth 20000 in
theorem m_319 : Cond.fieldLink RX10 41 "ClickStreet$World" "waiting" "LClickStreet$Row;" ∈ BASE := bmT2 1 rfl rfl
set_option maxRecDepth 20000 in
theorem m_321 : Cond.fieldLink RX10 46 "ClickStreet$World" "walkers" "[LClickStreet$Walker;" ∈ BASE := bmT2 3 rfl rfl
set_option maxRecDepth 20000 in
theorem m_324 : Cond.fieldLink RX10 50 "ClickStreet$World" "walkerCount" "I" ∈ BASE := bmT2 6 rfl rfl
set_option maxRecDepth 20000 in
theorem m_326 : Cond.fieldLink RX10 54 "ClickStreet$World" "now" "I" ∈ BASE := bmT2 8 rfl rfl
set_option maxRecDepth 20000 in
theorem m_600 : Cond.methodLink RX10 58 yX9_begin ∈ BASE := bmT3 42 rfl rfl
set_option maxRecDepth 20000 in
theorem m_601 : Cond.instanceMethod yX9_begin ∈ BASE := bmT3 43 rfl rfl
set_option maxRecDepth 20000 in
theorem m_602 : Cond.selects yX9_begin.cls yX9_begin yX9_begin ∈ BASE := bmT3 44 rfl rfl
set_option maxRecDepth 20000 in
theorem m_603 : Cond.code yX9_begin cX9_begin 5 none ∈ BASE := bmT3 45 rfl rfl
set_option maxRecDepth 20000 in
theorem m_604 : Cond.methodLink RX10 62 yX7_settle ∈ BASE := bmT3 46 rfl rfl
set_option maxRecDepth 20000 in
theorem m_610 : Cond.instanceMethod yX10_hasWalker ∈ BASE := bmT3 52 rfl rfl
set_option maxRecDepth 20000 in
theorem m_611 : Cond.selects yX10_hasWalker.cls yX10_hasWalker yX10_hasWalker ∈ BASE := bmT3 53 rfl rfl
set_option maxRecDepth 20000 in
theorem m_612 : Cond.code yX10_hasWalker cX10_hasWalker 2 (some .boolean) ∈ BASE := bmT3 54 rfl rfl
set_option maxRecDepth 20000 in
theorem m_640 : Cond.instanceMethod yX9_isOf ∈ BASE := bmT3 82 rfl rfl
set_option maxRecDepth 20000 in
theorem m_641 : Cond.selects yX9_isOf.cls yX9_isOf yX9_isOf ∈ BASE := bmT3 83 rfl rfl
set_option maxRecDepth 20000 in
theorem m_642 : Cond.code yX9_isOf cX9_isOf 4 (some .boolean) ∈ BASE := bmT3 84 rfl rfl
set_option maxRecDepth 20000 in
theorem m_844 : Cond.instanceMethod yX10_echoYards ∈ BASE := bmT4 46 rfl rfl
set_option maxRecDepth 20000 in
theorem m_845 : Cond.selects yX10_echoYards.cls yX10_echoYards yX10_echoYards ∈ BASE := bmT4 47 rfl rfl
set_option maxRecDepth 20000 in
theorem m_846 : Cond.code yX10_echoYards cX10_echoYards 7 (some .int) ∈ BASE := bmT4 48 rfl rfl
set_option maxRecDepth 20000 in
theorem m_847 : Cond.methodLink RX10 76 yX10_hasWalker ∈ BASE := bmT4 49 rfl rfl
set_option maxRecDepth 20000 in
theorem m_848 : Cond.methodLink RX10 80 yX9_reach ∈ BASE := bmT4 50 rfl rfl
set_option maxRecDepth 20000 in
theorem m_849 : Cond.methodLink RX10 84 yX7_cellFrom ∈ BASE := bmT4 51 rfl rfl
set_option maxRecDepth 20000 in
theorem m_857 : Cond.methodLink RX10 88 yX10_isFreeBut ∈ BASE := bmT4 59 rfl rfl
set_option maxRecDepth 20000 in
theorem m_858 : Cond.instanceMethod yX10_isFreeBut ∈ BASE := bmT4 60 rfl rfl
set_option maxRecDepth 20000 in
theorem m_859 : Cond.selects yX10_isFreeBut.cls yX10_isFreeBut yX10_isFreeBut ∈ BASE := bmT4 61 rfl rfl
set_option maxRecDepth 20000 in
theorem m_860 : Cond.code yX10_isFreeBut cX10_isFreeBut 4 (some .boolean) ∈ BASE := bmT4 62 rfl rfl
set_option maxRecDepth 20000 in
theorem m_865 : Cond.methodLink RX10 92 yX10_echoYards ∈ BASE := bmT4 67 rfl rfl
set_option maxRecDepth 20000 in
theorem m_866 : Cond.methodLink RX10 112 yX2_late ∈ BASE := bmT4 68 rfl rfl
set_option maxRecDepth 20000 in
theorem m_869 : Cond.methodLink RX10 95 yX7_kindIn ∈ BASE := bmT4 71 rfl rfl
set_option maxRecDepth 20000 in
theorem m_870 : Cond.instanceMethod yX7_kindIn ∈ BASE := bmT4 72 rfl rfl
set_option maxRecDepth 20000 in
theorem m_871 : Cond.selects yX7_kindIn.cls yX7_kindIn yX7_kindIn ∈ BASE := bmT4 73 rfl rfl
set_option maxRecDepth 20000 in
theorem m_872 : Cond.code yX7_kindIn cX7_kindIn 3 (some .int) ∈ BASE := bmT4 74 rfl rfl
set_option maxRecDepth 20000 in
theorem m_873 : Cond.methodLink RX10 116 yX2_strength ∈ BASE := bmT4 75 rfl rfl
set_option maxRecDepth 20000 in
theorem m_887 : Cond.methodLink RX10 99 yX9_ears ∈ BASE := bmT4 89 rfl rfl
set_option maxRecDepth 20000 in
theorem m_888 : Cond.methodLink RX10 122 yX2_isHeard ∈ BASE := bmT4 90 rfl rfl
set_option maxRecDepth 20000 in
theorem m_897 : Cond.instanceMethod yX10_makeClick ∈ BASE := bmT4 99 rfl rfl
set_option maxRecDepth 20000 in
theorem m_898 : Cond.selects yX10_makeClick.cls yX10_makeClick yX10_makeClick ∈ BASE := bmT4 100 rfl rfl
set_option maxRecDepth 20000 in
theorem m_899 : Cond.code yX10_makeClick cX10_makeClick 7 (some .int) ∈ BASE := bmT4 101 rfl rfl
set_option maxRecDepth 20000 in
theorem m_900 : Cond.methodLink RX10 126 yX10_heardYards ∈ BASE := bmT4 102 rfl rfl
set_option maxRecDepth 20000 in
theorem m_901 : Cond.instanceMethod yX10_heardYards ∈ BASE := bmT4 103 rfl rfl
set_option maxRecDepth 20000 in
theorem m_902 : Cond.selects yX10_heardYards.cls yX10_heardYards yX10_heardYards ∈ BASE := bmT4 104 rfl rfl
set_option maxRecDepth 20000 in
theorem m_903 : Cond.code yX10_heardYards cX10_heardYards 7 (some .int) ∈ BASE := bmT4 105 rfl rfl
set_option maxRecDepth 20000 in
theorem m_904 : Cond.methodLink RX10 102 yX9_ownClick ∈ BASE := bmT4 106 rfl rfl
set_option maxRecDepth 20000 in
theorem m_905 : Cond.instanceMethod yX9_ownClick ∈ BASE := bmT4 107 rfl rfl
set_option maxRecDepth 20000 in
theorem m_906 : Cond.selects yX9_ownClick.cls yX9_ownClick yX9_ownClick ∈ BASE := bmT4 108 rfl rfl
set_option maxRecDepth 20000 in
theorem m_907 : Cond.code yX9_ownClick cX9_ownClick 1 (some .int) ∈ BASE := bmT4 109 rfl rfl
set_option maxRecDepth 20000 in
theorem m_908 : Cond.methodLink RX10 105 yX2_hears ∈ BASE := bmT4 110 rfl rfl
set_option maxRecDepth 20000 in
theorem m_915 : Cond.methodLink RX10 129 yX9_addYes ∈ BASE := bmT4 117 rfl rfl
set_option maxRecDepth 20000 in
theorem m_916 : Cond.instanceMethod yX9_addYes ∈ BASE := bmT4 118 rfl rfl
set_option maxRecDepth 20000 in
theorem m_917 : Cond.selects yX9_addYes.cls yX9_addYes yX9_addYes ∈ BASE := bmT4 119 rfl rfl
set_option maxRecDepth 20000 in
theorem m_918 : Cond.code yX9_addYes cX9_addYes 3 none ∈ BASE := bmT4 120 rfl rfl
set_option maxRecDepth 20000 in
theorem m_921 : Cond.methodLink RX10 132 yX9_addNo ∈ BASE := bmT4 123 rfl rfl
set_option maxRecDepth 20000 in
theorem m_922 : Cond.instanceMethod yX9_addNo ∈ BASE := bmT4 124 rfl rfl
set_option maxRecDepth 20000 in
theorem m_923 : Cond.selects yX9_addNo.cls yX9_addNo yX9_addNo ∈ BASE := bmT4 125 rfl rfl
set_option maxRecDepth 20000 in
theorem m_924 : Cond.code yX9_addNo cX9_addNo 2 none ∈ BASE := bmT4 126 rfl rfl
set_option maxRecDepth 20000 in
theorem m_941 : Cond.methodLink RX10 135 yX9_held ∈ BASE := bmT4 143 rfl rfl
set_option maxRecDepth 20000 in
theorem m_1029 : Cond.methodLink RX10 141 yX7_letThingsGo ∈ BASE := bmT4 231 rfl rfl
set_option maxRecDepth 20000 in
theorem m_1030 : Cond.instanceMethod yX7_letThingsGo ∈ BASE := bmT4 232 rfl rfl
set_option maxRecDepth 20000 in
theorem m_1031 : Cond.selects yX7_letThingsGo.cls yX7_letThingsGo yX7_letThingsGo ∈ BASE := bmT4 233 rfl rfl
set_option maxRecDepth 20000 in
theorem m_1032 : Cond.code yX7_letThingsGo cX7_letThingsGo 4 none ∈ BASE := bmT4 234 rfl rfl
set_option maxRecDepth 20000 in
theorem m_1039 : Cond.methodLink RX10 148 yX10_letWalkerGo ∈ BASE := bmT5 1 rfl rfl
set_option maxRecDepth 20000 in
theorem m_1041 : Cond.instanceMethod yX10_letWalkerGo ∈ BASE := bmT5 3 rfl rfl
set_option maxRecDepth 20000 in
theorem m_1042 : Cond.code yX10_letWalkerGo cX10_letWalkerGo 8 none ∈ BASE := bmT5 4 rfl rfl
set_option maxRecDepth 20000 in
theorem m_1043 : Cond.methodLink RX10 154 yX9_isOf ∈ BASE := bmT5 5 rfl rfl
set_option maxRecDepth 20000 in
theorem m_1044 : Cond.methodLink RX10 157 yX10_makeClick ∈ BASE := bmT5 6 rfl rfl
set_option maxRecDepth 20000 in
theorem m_1045 : Cond.methodLink RX10 160 yX9_yardsToFull ∈ BASE := bmT5 7 rfl rfl
set_option maxRecDepth 20000 in
theorem m_1046 : Cond.instanceMethod yX9_yardsToFull ∈ BASE := bmT5 8 rfl rfl
set_option maxRecDepth 20000 in
theorem m_1047 : Cond.selects yX9_yardsToFull.cls yX9_yardsToFull yX9_yardsToFull ∈ BASE := bmT5 9 rfl rfl
set_option maxRecDepth 20000 in
theorem m_1048 : Cond.code yX9_yardsToFull cX9_yardsToFull 3 (some .int) ∈ BASE := bmT5 10 rfl rfl
set_option maxRecDepth 20000 in
theorem m_1050 : Cond.methodLink RX10 163 yX2_habitValue ∈ BASE := bmT5 12 rfl rfl
set_option maxRecDepth 20000 in
theorem m_1051 : Cond.instanceMethod yX2_habitValue ∈ BASE := bmT5 13 rfl rfl
set_option maxRecDepth 20000 in
theorem m_1052 : Cond.selects yX2_habitValue.cls yX2_habitValue yX2_habitValue ∈ BASE := bmT5 14 rfl rfl
set_option maxRecDepth 20000 in
theorem m_1053 : Cond.code yX2_habitValue cX2_habitValue 6 (some .int) ∈ BASE := bmT5 15 rfl rfl
set_option maxRecDepth 20000 in
theorem m_1054 : Cond.methodLink RX10 167 yJM_floorMod ∈ BASE := bmT5 16 rfl rfl
set_option maxRecDepth 20000 in
theorem m_1055 : Cond.static yJM_floorMod ∈ BASE := bmT5 17 rfl rfl
set_option maxRecDepth 20000 in
theorem m_1056 : Cond.code yJM_floorMod cJM_floorMod 3 (some .int) ∈ BASE := bmT5 18 rfl rfl
set_option maxRecDepth 20000 in
theorem m_1057 : Cond.methodLink RX10 172 yX10_goOn ∈ BASE := bmT5 19 rfl rfl
set_option maxRecDepth 20000 in
theorem m_1059 : Cond.instanceMethod yX10_goOn ∈ BASE := bmT5 21 rfl rfl
set_option maxRecDepth 20000 in
theorem m_1060 : Cond.code yX10_goOn cX10_goOn 5 none ∈ BASE := bmT5 22 rfl rfl
set_option maxRecDepth 20000 in
theorem m_1061 : Cond.methodLink RX10 178 yX9_speed ∈ BASE := bmT5 23 rfl rfl
set_option maxRecDepth 20000 in
theorem m_1062 : Cond.methodLink RX10 181 yX7_isFree ∈ BASE := bmT5 24 rfl rfl
set_option maxRecDepth 20000 in
theorem m_1063 : Cond.methodLink RX10 175 yX9_turn ∈ BASE := bmT5 25 rfl rfl
set_option maxRecDepth 20000 in
theorem m_1064 : Cond.instanceMethod yX9_turn ∈ BASE := bmT5 26 rfl rfl
set_option maxRecDepth 20000 in
theorem m_1065 : Cond.selects yX9_turn.cls yX9_turn yX9_turn ∈ BASE := bmT5 27 rfl rfl
set_option maxRecDepth 20000 in
theorem m_1066 : Cond.code yX9_turn cX9_turn 2 none ∈ BASE := bmT5 28 rfl rfl
set_option maxRecDepth 20000 in
theorem m_1106 : Cond.methodLink RX10 138 yX9_yardsHeldFree ∈ BASE := bmT5 68 rfl rfl
set_option maxRecDepth 20000 in
theorem m_1107 : Cond.instanceMethod yX9_yardsHeldFree ∈ BASE := bmT5 69 rfl rfl
set_option maxRecDepth 20000 in
theorem m_1108 : Cond.selects yX9_yardsHeldFree.cls yX9_yardsHeldFree yX9_yardsHeldFree ∈ BASE := bmT5 70 rfl rfl
set_option maxRecDepth 20000 in
theorem m_1109 : Cond.code yX9_yardsHeldFree cX9_yardsHeldFree 2 (some .int) ∈ BASE := bmT5 71 rfl rfl
set_option maxRecDepth 20000 in
theorem m_1143 : Cond.instanceMethod yX5_takeFrom ∈ BASE := bmT5 105 rfl rfl
set_option maxRecDepth 20000 in
theorem m_1144 : Cond.selects yX5_takeFrom.cls yX5_takeFrom yX5_takeFrom ∈ BASE := bmT5 106 rfl rfl
set_option maxRecDepth 20000 in
theorem m_1145 : Cond.code yX5_takeFrom cX5_takeFrom 3 none ∈ BASE := bmT5 107 rfl rfl
set_option maxRecDepth 20000 in
theorem m_1258 : Cond.methodLink RX10 184 yX7_takeFrom ∈ BASE := bmT5 220 rfl rfl
set_option maxRecDepth 20000 in
theorem m_1259 : Cond.instanceMethod yX7_takeFrom ∈ BASE := bmT5 221 rfl rfl
set_option maxRecDepth 20000 in
theorem m_1260 : Cond.selects yX7_takeFrom.cls yX7_takeFrom yX7_takeFrom ∈ BASE := bmT5 222 rfl rfl
set_option maxRecDepth 20000 in
theorem m_1261 : Cond.code yX7_takeFrom cX7_takeFrom 2 none ∈ BASE := bmT5 223 rfl rfl
set_option maxRecDepth 20000 in
theorem m_1263 : Cond.methodLink RX10 188 yX2_takeFrom ∈ BASE := bmT5 225 rfl rfl
set_option maxRecDepth 20000 in
theorem m_1264 : Cond.instanceMethod yX2_takeFrom ∈ BASE := bmT5 226 rfl rfl
set_option maxRecDepth 20000 in
theorem m_1265 : Cond.selects yX2_takeFrom.cls yX2_takeFrom yX2_takeFrom ∈ BASE := bmT5 227 rfl rfl
set_option maxRecDepth 20000 in
theorem m_1266 : Cond.code yX2_takeFrom cX2_takeFrom 3 none ∈ BASE := bmT5 228 rfl rfl
set_option maxRecDepth 20000 in
theorem m_1269 : Cond.methodLink RX10 191 yX3_takeFrom ∈ BASE := bmT5 231 rfl rfl
set_option maxRecDepth 20000 in
theorem m_1270 : Cond.instanceMethod yX3_takeFrom ∈ BASE := bmT5 232 rfl rfl
set_option maxRecDepth 20000 in
theorem m_1271 : Cond.selects yX3_takeFrom.cls yX3_takeFrom yX3_takeFrom ∈ BASE := bmT5 233 rfl rfl
set_option maxRecDepth 20000 in
theorem m_1272 : Cond.code yX3_takeFrom cX3_takeFrom 2 none ∈ BASE := bmT5 234 rfl rfl
set_option maxRecDepth 20000 in
theorem m_1274 : Cond.methodLink RX10 194 yX5_takeFrom ∈ BASE := bmT5 236 rfl rfl
set_option maxRecDepth 20000 in
theorem m_1275 : Cond.methodLink RX10 197 yX9_takeFrom ∈ BASE := bmT5 237 rfl rfl
set_option maxRecDepth 20000 in
theorem m_1276 : Cond.instanceMethod yX9_takeFrom ∈ BASE := bmT5 238 rfl rfl
set_option maxRecDepth 20000 in
theorem m_1277 : Cond.selects yX9_takeFrom.cls yX9_takeFrom yX9_takeFrom ∈ BASE := bmT5 239 rfl rfl
set_option maxRecDepth 20000 in
theorem m_1278 : Cond.code yX9_takeFrom cX9_takeFrom 2 none ∈ BASE := bmT6 0 rfl rfl
theorem kV_X10_echoYards : KV yX10_echoYards cX10_echoYards 7 (some .int) 3 := ⟨m_844, m_845, m_80, m_846, nhM_7, nhV_7, pdn_3⟩
theorem kV_X10_goOn : KV yX10_goOn cX10_goOn 5 none 1 := ⟨m_1059, m_15, m_80, m_1060, nhM_7, nhV_7, pdn_4⟩
theorem kV_X10_hasWalker : KV yX10_hasWalker cX10_hasWalker 2 (some .boolean) 1 := ⟨m_610, m_611, m_80, m_612, nhM_7, nhV_7, pdn_1⟩
theorem kV_X10_heardYards : KV yX10_heardYards cX10_heardYards 7 (some .int) 3 := ⟨m_901, m_902, m_80, m_903, nhM_7, nhV_7, pdn_3⟩
theorem kV_X10_isFreeBut : KV yX10_isFreeBut cX10_isFreeBut 4 (some .boolean) 2 := ⟨m_858, m_859, m_80, m_860, nhM_7, nhV_7, pdn_7⟩
theorem kV_X10_letWalkerGo : KV yX10_letWalkerGo cX10_letWalkerGo 8 none 1 := ⟨m_1041, m_14, m_80, m_1042, nhM_7, nhV_7, pdn_4⟩
theorem kV_X10_makeClick : KV yX10_makeClick cX10_makeClick 7 (some .int) 1 := ⟨m_897, m_898, m_80, m_899, nhM_7, nhV_7, pdn_2⟩
theorem kV_X2_habitValue : KV yX2_habitValue cX2_habitValue 6 (some .int) 5 := ⟨m_1051, m_1052, m_82, m_1053, nhM_5, nhV_5, pdn_14⟩
theorem kV_X2_takeFrom : KV yX2_takeFrom cX2_takeFrom 3 none 1 := ⟨m_1264, m_1265, m_82, m_1266, nhM_5, nhV_5, pdn_15⟩
theorem kV_X3_takeFrom : KV yX3_takeFrom cX3_takeFrom 2 none 1 := ⟨m_1270, m_1271, m_84, m_1272, nhM_8, nhV_8, pdn_16⟩
theorem kV_X5_takeFrom : KV yX5_takeFrom cX5_takeFrom 3 none 1 := ⟨m_1143, m_1144, m_85, m_1145, nhM_2, nhV_2, pdn_17⟩
theorem kV_X7_kindIn : KV yX7_kindIn cX7_kindIn 3 (some .int) 1 := ⟨m_870, m_871, m_81, m_872, nhM_1, nhV_1, pdn_2⟩
theorem kV_X7_letThingsGo : KV yX7_letThingsGo cX7_letThingsGo 4 none 1 := ⟨m_1030, m_1031, m_81, m_1032, nhM_1, nhV_1, pdn_4⟩
theorem kV_X7_takeFrom : KV yX7_takeFrom cX7_takeFrom 2 none 1 := ⟨m_1259, m_1260, m_81, m_1261, nhM_1, nhV_1, pdn_18⟩
theorem kV_X9_addNo : KV yX9_addNo cX9_addNo 2 none 1 := ⟨m_922, m_923, m_87, m_924, nhM_3, nhV_3, pdn_4⟩
theorem kV_X9_addYes : KV yX9_addYes cX9_addYes 3 none 2 := ⟨m_916, m_917, m_87, m_918, nhM_3, nhV_3, pdn_5⟩
theorem kV_X9_begin : KV yX9_begin cX9_begin 5 none 3 := ⟨m_601, m_602, m_87, m_603, nhM_3, nhV_3, pdn_19⟩
theorem kV_X9_isOf : KV yX9_isOf cX9_isOf 4 (some .boolean) 1 := ⟨m_640, m_641, m_87, m_642, nhM_3, nhV_3, pdn_1⟩
theorem kV_X9_ownClick : KV yX9_ownClick cX9_ownClick 1 (some .int) 0 := ⟨m_905, m_906, m_87, m_907, nhM_3, nhV_3, pdn_6⟩
theorem kV_X9_takeFrom : KV yX9_takeFrom cX9_takeFrom 2 none 1 := ⟨m_1276, m_1277, m_87, m_1278, nhM_3, nhV_3, pdn_20⟩
theorem kV_X9_turn : KV yX9_turn cX9_turn 2 none 1 := ⟨m_1064, m_1065, m_87, m_1066, nhM_3, nhV_3, pdn_4⟩
theorem kV_X9_yardsHeldFree : KV yX9_yardsHeldFree cX9_yardsHeldFree 2 (some .int) 0 := ⟨m_1107, m_1108, m_87, m_1109, nhM_3, nhV_3, pdn_6⟩
theorem kV_X9_yardsToFull : KV yX9_yardsToFull cX9_yardsToFull 3 (some .int) 1 := ⟨m_1046, m_1047, m_87, m_1048, nhM_3, nhV_3, pdn_2⟩
theorem inB10 : ∀ w ∈ u_ws RX10 TX10 8, w ∈ BASE := bmems (u_ws RX10 TX10 8) [328, 330, 332, 334, 336, 338, 340, 342] (by decide +kernel) (by decide +kernel)
theorem fl_RX10_10 : FLK RX10 10 10 0 (.object "ClickStreet$Street") true := ⟨RX10, TX10, 8, tyX10, rfl, inB10, tyX10_ok, nmX10, by decide, rfl, rfl, Or.inl m_309⟩
theorem fl_RX10_109 : FLK RX10 109 9 1 .int false := ⟨RX9, TX9, 11, tyX9, rfl, inB9, tyX9_ok, nmX9, by decide, rfl, rfl, Or.inr ⟨"ClickStreet", List.mem_of_getElem? (l := NFs) (i := 15) rfl⟩⟩
theorem fl_RX10_119 : FLK RX10 119 9 2 .int false := ⟨RX9, TX9, 11, tyX9, rfl, inB9, tyX9_ok, nmX9, by decide, rfl, rfl, Or.inr ⟨"ClickStreet", List.mem_of_getElem? (l := NFs) (i := 17) rfl⟩⟩
theorem fl_RX10_144 : FLK RX10 144 9 6 .boolean false := ⟨RX9, TX9, 11, tyX9, rfl, inB9, tyX9_ok, nmX9, by decide, rfl, rfl, Or.inr ⟨"ClickStreet", List.mem_of_getElem? (l := NFs) (i := 24) rfl⟩⟩
theorem fl_RX10_151 : FLK RX10 151 9 5 .int false := ⟨RX9, TX9, 11, tyX9, rfl, inB9, tyX9_ok, nmX9, by decide, rfl, rfl, Or.inr ⟨"ClickStreet", List.mem_of_getElem? (l := NFs) (i := 23) rfl⟩⟩
theorem fl_RX10_19 : FLK RX10 19 10 1 (.object "ClickStreet$Laws") true := ⟨RX10, TX10, 8, tyX10, rfl, inB10, tyX10_ok, nmX10, by decide, rfl, rfl, Or.inl m_312⟩
theorem fl_RX10_26 : FLK RX10 26 10 2 (.object "ClickStreet$Lessons") true := ⟨RX10, TX10, 8, tyX10, rfl, inB10, tyX10_ok, nmX10, by decide, rfl, rfl, Or.inl m_315⟩
theorem fl_RX10_37 : FLK RX10 37 10 3 (.object "ClickStreet$Row") true := ⟨RX10, TX10, 8, tyX10, rfl, inB10, tyX10_ok, nmX10, by decide, rfl, rfl, Or.inl m_317⟩
theorem fl_RX10_41 : FLK RX10 41 10 4 (.object "ClickStreet$Row") true := ⟨RX10, TX10, 8, tyX10, rfl, inB10, tyX10_ok, nmX10, by decide, rfl, rfl, Or.inl m_319⟩
theorem fl_RX10_46 : FLK RX10 46 10 5 (.array (.object "ClickStreet$Walker")) true := ⟨RX10, TX10, 8, tyX10, rfl, inB10, tyX10_ok, nmX10, by decide, rfl, rfl, Or.inl m_321⟩
theorem fl_RX10_50 : FLK RX10 50 10 6 .int false := ⟨RX10, TX10, 8, tyX10, rfl, inB10, tyX10_ok, nmX10, by decide, rfl, rfl, Or.inl m_324⟩
theorem fl_RX10_54 : FLK RX10 54 10 7 .int false := ⟨RX10, TX10, 8, tyX10, rfl, inB10, tyX10_ok, nmX10, by decide, rfl, rfl, Or.inl m_326⟩
theorem fl_RX10_66 : FLK RX10 66 9 7 .int false := ⟨RX9, TX9, 11, tyX9, rfl, inB9, tyX9_ok, nmX9, by decide, rfl, rfl, Or.inr ⟨"ClickStreet", List.mem_of_getElem? (l := NFs) (i := 26) rfl⟩⟩
theorem fl_RX10_69 : FLK RX10 69 9 8 .int false := ⟨RX9, TX9, 11, tyX9, rfl, inB9, tyX9_ok, nmX9, by decide, rfl, rfl, Or.inr ⟨"ClickStreet", List.mem_of_getElem? (l := NFs) (i := 27) rfl⟩⟩
theorem fl_RX10_72 : FLK RX10 72 7 0 (.array .int) true := ⟨RX7, TX7, 6, tyX7, rfl, inB7, tyX7_ok, nmX7, by decide, rfl, rfl, Or.inr ⟨"ClickStreet", List.mem_of_getElem? (l := NFs) (i := 0) rfl⟩⟩
theorem ch_cX10_addWalker_0 : (cX10_addWalker.data.toList.drop 0).take 36 = [42, 180, 0, 50, 54, 4, 21, 4, 155, 0, 10, 21, 4, 16, 8, 161, 0, 5, 2, 172, 42, 180, 0, 46, 21, 4, 50, 27, 28, 29, 182, 0, 58, 42, 180, 0] := by decide +kernel
theorem dX10_addWalker_0 : decode cX10_addWalker 0 = .ok (.aload_n 0, 1) := do_42 (rdb (p := 0) (i := 0) ch_cX10_addWalker_0 rfl)
theorem dX10_addWalker_1 : decode cX10_addWalker 1 = .ok (.getfield 50, 3) := do_180 (rdb (p := 0) (i := 1) ch_cX10_addWalker_0 rfl) (rdb (p := 0) (i := 2) ch_cX10_addWalker_0 rfl) (rdb (p := 0) (i := 3) ch_cX10_addWalker_0 rfl) rfl
theorem dX10_addWalker_4 : decode cX10_addWalker 4 = .ok (.istore 4, 2) := do_54 (rdb (p := 0) (i := 4) ch_cX10_addWalker_0 rfl) (rdb (p := 0) (i := 5) ch_cX10_addWalker_0 rfl)
theorem dX10_addWalker_6 : decode cX10_addWalker 6 = .ok (.iload 4, 2) := do_21 (rdb (p := 0) (i := 6) ch_cX10_addWalker_0 rfl) (rdb (p := 0) (i := 7) ch_cX10_addWalker_0 rfl)
theorem dX10_addWalker_8 : decode cX10_addWalker 8 = .ok (.ifCond .lt 10, 3) := do_155 (rdb (p := 0) (i := 8) ch_cX10_addWalker_0 rfl) (rdb (p := 0) (i := 9) ch_cX10_addWalker_0 rfl) (rdb (p := 0) (i := 10) ch_cX10_addWalker_0 rfl) (by decide +kernel)
theorem dX10_addWalker_11 : decode cX10_addWalker 11 = .ok (.iload 4, 2) := do_21 (rdb (p := 0) (i := 11) ch_cX10_addWalker_0 rfl) (rdb (p := 0) (i := 12) ch_cX10_addWalker_0 rfl)
theorem dX10_addWalker_13 : decode cX10_addWalker 13 = .ok (.bipush 8, 2) := do_16 (rdb (p := 0) (i := 13) ch_cX10_addWalker_0 rfl) (rdb (p := 0) (i := 14) ch_cX10_addWalker_0 rfl) (by decide +kernel)
theorem dX10_addWalker_15 : decode cX10_addWalker 15 = .ok (.if_icmp .lt 5, 3) := do_161 (rdb (p := 0) (i := 15) ch_cX10_addWalker_0 rfl) (rdb (p := 0) (i := 16) ch_cX10_addWalker_0 rfl) (rdb (p := 0) (i := 17) ch_cX10_addWalker_0 rfl) (by decide +kernel)
theorem dX10_addWalker_18 : decode cX10_addWalker 18 = .ok (.iconst (-1), 1) := do_2 (rdb (p := 0) (i := 18) ch_cX10_addWalker_0 rfl)
theorem dX10_addWalker_19 : decode cX10_addWalker 19 = .ok (.ireturn, 1) := do_172 (rdb (p := 0) (i := 19) ch_cX10_addWalker_0 rfl)
theorem dX10_addWalker_20 : decode cX10_addWalker 20 = .ok (.aload_n 0, 1) := do_42 (rdb (p := 0) (i := 20) ch_cX10_addWalker_0 rfl)
theorem dX10_addWalker_21 : decode cX10_addWalker 21 = .ok (.getfield 46, 3) := do_180 (rdb (p := 0) (i := 21) ch_cX10_addWalker_0 rfl) (rdb (p := 0) (i := 22) ch_cX10_addWalker_0 rfl) (rdb (p := 0) (i := 23) ch_cX10_addWalker_0 rfl) rfl
theorem dX10_addWalker_24 : decode cX10_addWalker 24 = .ok (.iload 4, 2) := do_21 (rdb (p := 0) (i := 24) ch_cX10_addWalker_0 rfl) (rdb (p := 0) (i := 25) ch_cX10_addWalker_0 rfl)
theorem dX10_addWalker_26 : decode cX10_addWalker 26 = .ok (.aaload, 1) := do_50 (rdb (p := 0) (i := 26) ch_cX10_addWalker_0 rfl)
theorem dX10_addWalker_27 : decode cX10_addWalker 27 = .ok (.iload_n 1, 1) := do_27 (rdb (p := 0) (i := 27) ch_cX10_addWalker_0 rfl)
theorem dX10_addWalker_28 : decode cX10_addWalker 28 = .ok (.iload_n 2, 1) := do_28 (rdb (p := 0) (i := 28) ch_cX10_addWalker_0 rfl)
theorem dX10_addWalker_29 : decode cX10_addWalker 29 = .ok (.iload_n 3, 1) := do_29 (rdb (p := 0) (i := 29) ch_cX10_addWalker_0 rfl)
theorem dX10_addWalker_30 : decode cX10_addWalker 30 = .ok (.invokevirtual 58, 3) := do_182 (rdb (p := 0) (i := 30) ch_cX10_addWalker_0 rfl) (rdb (p := 0) (i := 31) ch_cX10_addWalker_0 rfl) (rdb (p := 0) (i := 32) ch_cX10_addWalker_0 rfl) rfl
theorem ch_cX10_addWalker_32 : (cX10_addWalker.data.toList.drop 32).take 36 = [58, 42, 180, 0, 10, 28, 16, 100, 21, 4, 96, 182, 0, 62, 42, 89, 180, 0, 50, 4, 96, 181, 0, 50, 21, 4, 172] := by decide +kernel
theorem dX10_addWalker_33 : decode cX10_addWalker 33 = .ok (.aload_n 0, 1) := do_42 (rdb (p := 32) (i := 1) ch_cX10_addWalker_32 rfl)
theorem dX10_addWalker_34 : decode cX10_addWalker 34 = .ok (.getfield 10, 3) := do_180 (rdb (p := 32) (i := 2) ch_cX10_addWalker_32 rfl) (rdb (p := 32) (i := 3) ch_cX10_addWalker_32 rfl) (rdb (p := 32) (i := 4) ch_cX10_addWalker_32 rfl) rfl
theorem dX10_addWalker_37 : decode cX10_addWalker 37 = .ok (.iload_n 2, 1) := do_28 (rdb (p := 32) (i := 5) ch_cX10_addWalker_32 rfl)
theorem dX10_addWalker_38 : decode cX10_addWalker 38 = .ok (.bipush 100, 2) := do_16 (rdb (p := 32) (i := 6) ch_cX10_addWalker_32 rfl) (rdb (p := 32) (i := 7) ch_cX10_addWalker_32 rfl) (by decide +kernel)
theorem dX10_addWalker_40 : decode cX10_addWalker 40 = .ok (.iload 4, 2) := do_21 (rdb (p := 32) (i := 8) ch_cX10_addWalker_32 rfl) (rdb (p := 32) (i := 9) ch_cX10_addWalker_32 rfl)
theorem dX10_addWalker_42 : decode cX10_addWalker 42 = .ok (.iadd, 1) := do_96 (rdb (p := 32) (i := 10) ch_cX10_addWalker_32 rfl)
theorem dX10_addWalker_43 : decode cX10_addWalker 43 = .ok (.invokevirtual 62, 3) := do_182 (rdb (p := 32) (i := 11) ch_cX10_addWalker_32 rfl) (rdb (p := 32) (i := 12) ch_cX10_addWalker_32 rfl) (rdb (p := 32) (i := 13) ch_cX10_addWalker_32 rfl) rfl
theorem dX10_addWalker_46 : decode cX10_addWalker 46 = .ok (.aload_n 0, 1) := do_42 (rdb (p := 32) (i := 14) ch_cX10_addWalker_32 rfl)
theorem dX10_addWalker_47 : decode cX10_addWalker 47 = .ok (.dup, 1) := do_89 (rdb (p := 32) (i := 15) ch_cX10_addWalker_32 rfl)
theorem dX10_addWalker_48 : decode cX10_addWalker 48 = .ok (.getfield 50, 3) := do_180 (rdb (p := 32) (i := 16) ch_cX10_addWalker_32 rfl) (rdb (p := 32) (i := 17) ch_cX10_addWalker_32 rfl) (rdb (p := 32) (i := 18) ch_cX10_addWalker_32 rfl) rfl
theorem dX10_addWalker_51 : decode cX10_addWalker 51 = .ok (.iconst 1, 1) := do_4 (rdb (p := 32) (i := 19) ch_cX10_addWalker_32 rfl)
theorem dX10_addWalker_52 : decode cX10_addWalker 52 = .ok (.iadd, 1) := do_96 (rdb (p := 32) (i := 20) ch_cX10_addWalker_32 rfl)
theorem dX10_addWalker_53 : decode cX10_addWalker 53 = .ok (.putfield 50, 3) := do_181 (rdb (p := 32) (i := 21) ch_cX10_addWalker_32 rfl) (rdb (p := 32) (i := 22) ch_cX10_addWalker_32 rfl) (rdb (p := 32) (i := 23) ch_cX10_addWalker_32 rfl) rfl
theorem dX10_addWalker_56 : decode cX10_addWalker 56 = .ok (.iload 4, 2) := do_21 (rdb (p := 32) (i := 24) ch_cX10_addWalker_32 rfl) (rdb (p := 32) (i := 25) ch_cX10_addWalker_32 rfl)
theorem dX10_addWalker_58 : decode cX10_addWalker 58 = .ok (.ireturn, 1) := do_172 (rdb (p := 32) (i := 26) ch_cX10_addWalker_32 rfl)
theorem dX10_countBumps_0 : decode cX10_countBumps 0 = .ok (.iconst 0, 1) := by decide +kernel
theorem dX10_countBumps_1 : decode cX10_countBumps 1 = .ok (.istore_n 1, 1) := by decide +kernel
theorem dX10_countBumps_2 : decode cX10_countBumps 2 = .ok (.iconst 0, 1) := by decide +kernel
theorem dX10_countBumps_3 : decode cX10_countBumps 3 = .ok (.istore_n 2, 1) := by decide +kernel
theorem dX10_countBumps_4 : decode cX10_countBumps 4 = .ok (.iload_n 2, 1) := by decide +kernel
theorem dX10_countBumps_5 : decode cX10_countBumps 5 = .ok (.aload_n 0, 1) := by decide +kernel
theorem dX10_countBumps_6 : decode cX10_countBumps 6 = .ok (.getfield 50, 3) := by decide +kernel
theorem dX10_countBumps_9 : decode cX10_countBumps 9 = .ok (.if_icmp .ge 27, 3) := by decide +kernel
theorem dX10_countBumps_12 : decode cX10_countBumps 12 = .ok (.iload_n 2, 1) := by decide +kernel
theorem dX10_countBumps_13 : decode cX10_countBumps 13 = .ok (.bipush 8, 2) := by decide +kernel
theorem dX10_countBumps_15 : decode cX10_countBumps 15 = .ok (.if_icmp .ge 21, 3) := by decide +kernel
theorem dX10_countBumps_18 : decode cX10_countBumps 18 = .ok (.iload_n 1, 1) := by decide +kernel
theorem dX10_countBumps_19 : decode cX10_countBumps 19 = .ok (.aload_n 0, 1) := by decide +kernel
theorem dX10_countBumps_20 : decode cX10_countBumps 20 = .ok (.getfield 46, 3) := by decide +kernel
theorem dX10_countBumps_23 : decode cX10_countBumps 23 = .ok (.iload_n 2, 1) := by decide +kernel
theorem dX10_countBumps_24 : decode cX10_countBumps 24 = .ok (.aaload, 1) := by decide +kernel
theorem dX10_countBumps_25 : decode cX10_countBumps 25 = .ok (.getfield 66, 3) := by decide +kernel
theorem dX10_countBumps_28 : decode cX10_countBumps 28 = .ok (.iadd, 1) := by decide +kernel
theorem dX10_countBumps_29 : decode cX10_countBumps 29 = .ok (.istore_n 1, 1) := by decide +kernel
theorem dX10_countBumps_30 : decode cX10_countBumps 30 = .ok (.iinc 2 1, 3) := by decide +kernel
theorem dX10_countBumps_33 : decode cX10_countBumps 33 = .ok (.goto (-29), 3) := by decide +kernel
theorem dX10_countBumps_36 : decode cX10_countBumps 36 = .ok (.iload_n 1, 1) := by decide +kernel
theorem dX10_countBumps_37 : decode cX10_countBumps 37 = .ok (.ireturn, 1) := by decide +kernel
theorem dX10_countClicks_0 : decode cX10_countClicks 0 = .ok (.iconst 0, 1) := by decide +kernel
theorem dX10_countClicks_1 : decode cX10_countClicks 1 = .ok (.istore_n 1, 1) := by decide +kernel
theorem dX10_countClicks_2 : decode cX10_countClicks 2 = .ok (.iconst 0, 1) := by decide +kernel
theorem dX10_countClicks_3 : decode cX10_countClicks 3 = .ok (.istore_n 2, 1) := by decide +kernel
theorem dX10_countClicks_4 : decode cX10_countClicks 4 = .ok (.iload_n 2, 1) := by decide +kernel
theorem dX10_countClicks_5 : decode cX10_countClicks 5 = .ok (.aload_n 0, 1) := by decide +kernel
theorem dX10_countClicks_6 : decode cX10_countClicks 6 = .ok (.getfield 50, 3) := by decide +kernel
theorem dX10_countClicks_9 : decode cX10_countClicks 9 = .ok (.if_icmp .ge 27, 3) := by decide +kernel
theorem dX10_countClicks_12 : decode cX10_countClicks 12 = .ok (.iload_n 2, 1) := by decide +kernel
theorem dX10_countClicks_13 : decode cX10_countClicks 13 = .ok (.bipush 8, 2) := by decide +kernel
theorem dX10_countClicks_15 : decode cX10_countClicks 15 = .ok (.if_icmp .ge 21, 3) := by decide +kernel
theorem dX10_countClicks_18 : decode cX10_countClicks 18 = .ok (.iload_n 1, 1) := by decide +kernel
theorem dX10_countClicks_19 : decode cX10_countClicks 19 = .ok (.aload_n 0, 1) := by decide +kernel
theorem dX10_countClicks_20 : decode cX10_countClicks 20 = .ok (.getfield 46, 3) := by decide +kernel
theorem dX10_countClicks_23 : decode cX10_countClicks 23 = .ok (.iload_n 2, 1) := by decide +kernel
theorem dX10_countClicks_24 : decode cX10_countClicks 24 = .ok (.aaload, 1) := by decide +kernel
theorem dX10_countClicks_25 : decode cX10_countClicks 25 = .ok (.getfield 69, 3) := by decide +kernel
theorem dX10_countClicks_28 : decode cX10_countClicks 28 = .ok (.iadd, 1) := by decide +kernel
theorem dX10_countClicks_29 : decode cX10_countClicks 29 = .ok (.istore_n 1, 1) := by decide +kernel
theorem dX10_countClicks_30 : decode cX10_countClicks 30 = .ok (.iinc 2 1, 3) := by decide +kernel
theorem dX10_countClicks_33 : decode cX10_countClicks 33 = .ok (.goto (-29), 3) := by decide +kernel
theorem dX10_countClicks_36 : decode cX10_countClicks 36 = .ok (.iload_n 1, 1) := by decide +kernel
theorem dX10_countClicks_37 : decode cX10_countClicks 37 = .ok (.ireturn, 1) := by decide +kernel
theorem ch_cX10_countWrong_0 : (cX10_countWrong.data.toList.drop 0).take 36 = [42, 27, 182, 0, 76, 154, 0, 5, 3, 172, 3, 61, 3, 62, 29, 17, 0, 192, 162, 0, 52, 42, 180, 0, 46, 27, 50, 29, 182, 0, 135, 54, 4, 42, 27, 29] := by decide +kernel
theorem dX10_countWrong_0 : decode cX10_countWrong 0 = .ok (.aload_n 0, 1) := do_42 (rdb (p := 0) (i := 0) ch_cX10_countWrong_0 rfl)
theorem dX10_countWrong_1 : decode cX10_countWrong 1 = .ok (.iload_n 1, 1) := do_27 (rdb (p := 0) (i := 1) ch_cX10_countWrong_0 rfl)
theorem dX10_countWrong_2 : decode cX10_countWrong 2 = .ok (.invokevirtual 76, 3) := do_182 (rdb (p := 0) (i := 2) ch_cX10_countWrong_0 rfl) (rdb (p := 0) (i := 3) ch_cX10_countWrong_0 rfl) (rdb (p := 0) (i := 4) ch_cX10_countWrong_0 rfl) rfl
theorem dX10_countWrong_5 : decode cX10_countWrong 5 = .ok (.ifCond .ne 5, 3) := do_154 (rdb (p := 0) (i := 5) ch_cX10_countWrong_0 rfl) (rdb (p := 0) (i := 6) ch_cX10_countWrong_0 rfl) (rdb (p := 0) (i := 7) ch_cX10_countWrong_0 rfl) (by decide +kernel)
theorem dX10_countWrong_8 : decode cX10_countWrong 8 = .ok (.iconst 0, 1) := do_3 (rdb (p := 0) (i := 8) ch_cX10_countWrong_0 rfl)
theorem dX10_countWrong_9 : decode cX10_countWrong 9 = .ok (.ireturn, 1) := do_172 (rdb (p := 0) (i := 9) ch_cX10_countWrong_0 rfl)
theorem dX10_countWrong_10 : decode cX10_countWrong 10 = .ok (.iconst 0, 1) := do_3 (rdb (p := 0) (i := 10) ch_cX10_countWrong_0 rfl)
theorem dX10_countWrong_11 : decode cX10_countWrong 11 = .ok (.istore_n 2, 1) := do_61 (rdb (p := 0) (i := 11) ch_cX10_countWrong_0 rfl)
theorem dX10_countWrong_12 : decode cX10_countWrong 12 = .ok (.iconst 0, 1) := do_3 (rdb (p := 0) (i := 12) ch_cX10_countWrong_0 rfl)
theorem dX10_countWrong_13 : decode cX10_countWrong 13 = .ok (.istore_n 3, 1) := do_62 (rdb (p := 0) (i := 13) ch_cX10_countWrong_0 rfl)
theorem dX10_countWrong_14 : decode cX10_countWrong 14 = .ok (.iload_n 3, 1) := do_29 (rdb (p := 0) (i := 14) ch_cX10_countWrong_0 rfl)
theorem dX10_countWrong_15 : decode cX10_countWrong 15 = .ok (.sipush 192, 3) := do_17 (rdb (p := 0) (i := 15) ch_cX10_countWrong_0 rfl) (rdb (p := 0) (i := 16) ch_cX10_countWrong_0 rfl) (rdb (p := 0) (i := 17) ch_cX10_countWrong_0 rfl) (by decide +kernel)
theorem dX10_countWrong_18 : decode cX10_countWrong 18 = .ok (.if_icmp .ge 52, 3) := do_162 (rdb (p := 0) (i := 18) ch_cX10_countWrong_0 rfl) (rdb (p := 0) (i := 19) ch_cX10_countWrong_0 rfl) (rdb (p := 0) (i := 20) ch_cX10_countWrong_0 rfl) (by decide +kernel)
theorem dX10_countWrong_21 : decode cX10_countWrong 21 = .ok (.aload_n 0, 1) := do_42 (rdb (p := 0) (i := 21) ch_cX10_countWrong_0 rfl)
theorem dX10_countWrong_22 : decode cX10_countWrong 22 = .ok (.getfield 46, 3) := do_180 (rdb (p := 0) (i := 22) ch_cX10_countWrong_0 rfl) (rdb (p := 0) (i := 23) ch_cX10_countWrong_0 rfl) (rdb (p := 0) (i := 24) ch_cX10_countWrong_0 rfl) rfl
theorem dX10_countWrong_25 : decode cX10_countWrong 25 = .ok (.iload_n 1, 1) := do_27 (rdb (p := 0) (i := 25) ch_cX10_countWrong_0 rfl)
theorem dX10_countWrong_26 : decode cX10_countWrong 26 = .ok (.aaload, 1) := do_50 (rdb (p := 0) (i := 26) ch_cX10_countWrong_0 rfl)
theorem dX10_countWrong_27 : decode cX10_countWrong 27 = .ok (.iload_n 3, 1) := do_29 (rdb (p := 0) (i := 27) ch_cX10_countWrong_0 rfl)
theorem dX10_countWrong_28 : decode cX10_countWrong 28 = .ok (.invokevirtual 135, 3) := do_182 (rdb (p := 0) (i := 28) ch_cX10_countWrong_0 rfl) (rdb (p := 0) (i := 29) ch_cX10_countWrong_0 rfl) (rdb (p := 0) (i := 30) ch_cX10_countWrong_0 rfl) rfl
theorem dX10_countWrong_31 : decode cX10_countWrong 31 = .ok (.istore 4, 2) := do_54 (rdb (p := 0) (i := 31) ch_cX10_countWrong_0 rfl) (rdb (p := 0) (i := 32) ch_cX10_countWrong_0 rfl)
theorem ch_cX10_countWrong_32 : (cX10_countWrong.data.toList.drop 32).take 36 = [4, 42, 27, 29, 182, 0, 88, 153, 0, 7, 4, 167, 0, 4, 5, 54, 5, 21, 4, 153, 0, 13, 21, 4, 21, 5, 159, 0, 6, 132, 2, 1, 132, 3, 1, 167] := by decide +kernel
theorem dX10_countWrong_33 : decode cX10_countWrong 33 = .ok (.aload_n 0, 1) := do_42 (rdb (p := 32) (i := 1) ch_cX10_countWrong_32 rfl)
theorem dX10_countWrong_34 : decode cX10_countWrong 34 = .ok (.iload_n 1, 1) := do_27 (rdb (p := 32) (i := 2) ch_cX10_countWrong_32 rfl)
theorem dX10_countWrong_35 : decode cX10_countWrong 35 = .ok (.iload_n 3, 1) := do_29 (rdb (p := 32) (i := 3) ch_cX10_countWrong_32 rfl)
theorem dX10_countWrong_36 : decode cX10_countWrong 36 = .ok (.invokevirtual 88, 3) := do_182 (rdb (p := 32) (i := 4) ch_cX10_countWrong_32 rfl) (rdb (p := 32) (i := 5) ch_cX10_countWrong_32 rfl) (rdb (p := 32) (i := 6) ch_cX10_countWrong_32 rfl) rfl
theorem dX10_countWrong_39 : decode cX10_countWrong 39 = .ok (.ifCond .eq 7, 3) := do_153 (rdb (p := 32) (i := 7) ch_cX10_countWrong_32 rfl) (rdb (p := 32) (i := 8) ch_cX10_countWrong_32 rfl) (rdb (p := 32) (i := 9) ch_cX10_countWrong_32 rfl) (by decide +kernel)
theorem dX10_countWrong_42 : decode cX10_countWrong 42 = .ok (.iconst 1, 1) := do_4 (rdb (p := 32) (i := 10) ch_cX10_countWrong_32 rfl)
theorem dX10_countWrong_43 : decode cX10_countWrong 43 = .ok (.goto 4, 3) := do_167 (rdb (p := 32) (i := 11) ch_cX10_countWrong_32 rfl) (rdb (p := 32) (i := 12) ch_cX10_countWrong_32 rfl) (rdb (p := 32) (i := 13) ch_cX10_countWrong_32 rfl) (by decide +kernel)
theorem dX10_countWrong_46 : decode cX10_countWrong 46 = .ok (.iconst 2, 1) := do_5 (rdb (p := 32) (i := 14) ch_cX10_countWrong_32 rfl)
theorem dX10_countWrong_47 : decode cX10_countWrong 47 = .ok (.istore 5, 2) := do_54 (rdb (p := 32) (i := 15) ch_cX10_countWrong_32 rfl) (rdb (p := 32) (i := 16) ch_cX10_countWrong_32 rfl)
theorem dX10_countWrong_49 : decode cX10_countWrong 49 = .ok (.iload 4, 2) := do_21 (rdb (p := 32) (i := 17) ch_cX10_countWrong_32 rfl) (rdb (p := 32) (i := 18) ch_cX10_countWrong_32 rfl)
theorem dX10_countWrong_51 : decode cX10_countWrong 51 = .ok (.ifCond .eq 13, 3) := do_153 (rdb (p := 32) (i := 19) ch_cX10_countWrong_32 rfl) (rdb (p := 32) (i := 20) ch_cX10_countWrong_32 rfl) (rdb (p := 32) (i := 21) ch_cX10_countWrong_32 rfl) (by decide +kernel)
theorem dX10_countWrong_54 : decode cX10_countWrong 54 = .ok (.iload 4, 2) := do_21 (rdb (p := 32) (i := 22) ch_cX10_countWrong_32 rfl) (rdb (p := 32) (i := 23) ch_cX10_countWrong_32 rfl)
theorem dX10_countWrong_56 : decode cX10_countWrong 56 = .ok (.iload 5, 2) := do_21 (rdb (p := 32) (i := 24) ch_cX10_countWrong_32 rfl) (rdb (p := 32) (i := 25) ch_cX10_countWrong_32 rfl)
theorem dX10_countWrong_58 : decode cX10_countWrong 58 = .ok (.if_icmp .eq 6, 3) := do_159 (rdb (p := 32) (i := 26) ch_cX10_countWrong_32 rfl) (rdb (p := 32) (i := 27) ch_cX10_countWrong_32 rfl) (rdb (p := 32) (i := 28) ch_cX10_countWrong_32 rfl) (by decide +kernel)
theorem dX10_countWrong_61 : decode cX10_countWrong 61 = .ok (.iinc 2 1, 3) := do_132 (rdb (p := 32) (i := 29) ch_cX10_countWrong_32 rfl) (rdb (p := 32) (i := 30) ch_cX10_countWrong_32 rfl) (rdb (p := 32) (i := 31) ch_cX10_countWrong_32 rfl) (by decide +kernel)
theorem ch_cX10_countWrong_64 : (cX10_countWrong.data.toList.drop 64).take 36 = [132, 3, 1, 167, 255, 203, 28, 172] := by decide +kernel
theorem dX10_countWrong_64 : decode cX10_countWrong 64 = .ok (.iinc 3 1, 3) := do_132 (rdb (p := 64) (i := 0) ch_cX10_countWrong_64 rfl) (rdb (p := 64) (i := 1) ch_cX10_countWrong_64 rfl) (rdb (p := 64) (i := 2) ch_cX10_countWrong_64 rfl) (by decide +kernel)
theorem dX10_countWrong_67 : decode cX10_countWrong 67 = .ok (.goto (-53), 3) := do_167 (rdb (p := 64) (i := 3) ch_cX10_countWrong_64 rfl) (rdb (p := 64) (i := 4) ch_cX10_countWrong_64 rfl) (rdb (p := 64) (i := 5) ch_cX10_countWrong_64 rfl) (by decide +kernel)
theorem dX10_countWrong_70 : decode cX10_countWrong 70 = .ok (.iload_n 2, 1) := do_28 (rdb (p := 64) (i := 6) ch_cX10_countWrong_64 rfl)
theorem dX10_countWrong_71 : decode cX10_countWrong 71 = .ok (.ireturn, 1) := do_172 (rdb (p := 64) (i := 7) ch_cX10_countWrong_64 rfl)
theorem ch_cX10_echoFact_0 : (cX10_echoFact.data.toList.drop 0).take 36 = [42, 27, 182, 0, 76, 154, 0, 5, 3, 172, 42, 180, 0, 46, 27, 50, 58, 5, 42, 27, 25, 5, 180, 0, 109, 29, 182, 0, 92, 54, 6, 29, 21, 6, 184, 0] := by decide +kernel
theorem dX10_echoFact_0 : decode cX10_echoFact 0 = .ok (.aload_n 0, 1) := do_42 (rdb (p := 0) (i := 0) ch_cX10_echoFact_0 rfl)
theorem dX10_echoFact_1 : decode cX10_echoFact 1 = .ok (.iload_n 1, 1) := do_27 (rdb (p := 0) (i := 1) ch_cX10_echoFact_0 rfl)
theorem dX10_echoFact_2 : decode cX10_echoFact 2 = .ok (.invokevirtual 76, 3) := do_182 (rdb (p := 0) (i := 2) ch_cX10_echoFact_0 rfl) (rdb (p := 0) (i := 3) ch_cX10_echoFact_0 rfl) (rdb (p := 0) (i := 4) ch_cX10_echoFact_0 rfl) rfl
theorem dX10_echoFact_5 : decode cX10_echoFact 5 = .ok (.ifCond .ne 5, 3) := do_154 (rdb (p := 0) (i := 5) ch_cX10_echoFact_0 rfl) (rdb (p := 0) (i := 6) ch_cX10_echoFact_0 rfl) (rdb (p := 0) (i := 7) ch_cX10_echoFact_0 rfl) (by decide +kernel)
theorem dX10_echoFact_8 : decode cX10_echoFact 8 = .ok (.iconst 0, 1) := do_3 (rdb (p := 0) (i := 8) ch_cX10_echoFact_0 rfl)
theorem dX10_echoFact_9 : decode cX10_echoFact 9 = .ok (.ireturn, 1) := do_172 (rdb (p := 0) (i := 9) ch_cX10_echoFact_0 rfl)
theorem dX10_echoFact_10 : decode cX10_echoFact 10 = .ok (.aload_n 0, 1) := do_42 (rdb (p := 0) (i := 10) ch_cX10_echoFact_0 rfl)
theorem dX10_echoFact_11 : decode cX10_echoFact 11 = .ok (.getfield 46, 3) := do_180 (rdb (p := 0) (i := 11) ch_cX10_echoFact_0 rfl) (rdb (p := 0) (i := 12) ch_cX10_echoFact_0 rfl) (rdb (p := 0) (i := 13) ch_cX10_echoFact_0 rfl) rfl
theorem dX10_echoFact_14 : decode cX10_echoFact 14 = .ok (.iload_n 1, 1) := do_27 (rdb (p := 0) (i := 14) ch_cX10_echoFact_0 rfl)
theorem dX10_echoFact_15 : decode cX10_echoFact 15 = .ok (.aaload, 1) := do_50 (rdb (p := 0) (i := 15) ch_cX10_echoFact_0 rfl)
theorem dX10_echoFact_16 : decode cX10_echoFact 16 = .ok (.astore 5, 2) := do_58 (rdb (p := 0) (i := 16) ch_cX10_echoFact_0 rfl) (rdb (p := 0) (i := 17) ch_cX10_echoFact_0 rfl)
theorem dX10_echoFact_18 : decode cX10_echoFact 18 = .ok (.aload_n 0, 1) := do_42 (rdb (p := 0) (i := 18) ch_cX10_echoFact_0 rfl)
theorem dX10_echoFact_19 : decode cX10_echoFact 19 = .ok (.iload_n 1, 1) := do_27 (rdb (p := 0) (i := 19) ch_cX10_echoFact_0 rfl)
theorem dX10_echoFact_20 : decode cX10_echoFact 20 = .ok (.aload 5, 2) := do_25 (rdb (p := 0) (i := 20) ch_cX10_echoFact_0 rfl) (rdb (p := 0) (i := 21) ch_cX10_echoFact_0 rfl)
theorem dX10_echoFact_22 : decode cX10_echoFact 22 = .ok (.getfield 109, 3) := do_180 (rdb (p := 0) (i := 22) ch_cX10_echoFact_0 rfl) (rdb (p := 0) (i := 23) ch_cX10_echoFact_0 rfl) (rdb (p := 0) (i := 24) ch_cX10_echoFact_0 rfl) rfl
theorem dX10_echoFact_25 : decode cX10_echoFact 25 = .ok (.iload_n 3, 1) := do_29 (rdb (p := 0) (i := 25) ch_cX10_echoFact_0 rfl)
theorem dX10_echoFact_26 : decode cX10_echoFact 26 = .ok (.invokevirtual 92, 3) := do_182 (rdb (p := 0) (i := 26) ch_cX10_echoFact_0 rfl) (rdb (p := 0) (i := 27) ch_cX10_echoFact_0 rfl) (rdb (p := 0) (i := 28) ch_cX10_echoFact_0 rfl) rfl
theorem dX10_echoFact_29 : decode cX10_echoFact 29 = .ok (.istore 6, 2) := do_54 (rdb (p := 0) (i := 29) ch_cX10_echoFact_0 rfl) (rdb (p := 0) (i := 30) ch_cX10_echoFact_0 rfl)
theorem dX10_echoFact_31 : decode cX10_echoFact 31 = .ok (.iload_n 3, 1) := do_29 (rdb (p := 0) (i := 31) ch_cX10_echoFact_0 rfl)
theorem ch_cX10_echoFact_32 : (cX10_echoFact.data.toList.drop 32).take 36 = [21, 6, 184, 0, 112, 54, 7, 42, 180, 0, 19, 42, 180, 0, 10, 25, 5, 180, 0, 109, 29, 21, 6, 184, 0, 84, 182, 0, 95, 28, 21, 6, 182, 0, 116, 54] := by decide +kernel
theorem dX10_echoFact_32 : decode cX10_echoFact 32 = .ok (.iload 6, 2) := do_21 (rdb (p := 32) (i := 0) ch_cX10_echoFact_32 rfl) (rdb (p := 32) (i := 1) ch_cX10_echoFact_32 rfl)
theorem dX10_echoFact_34 : decode cX10_echoFact 34 = .ok (.invokestatic 112, 3) := do_184 (rdb (p := 32) (i := 2) ch_cX10_echoFact_32 rfl) (rdb (p := 32) (i := 3) ch_cX10_echoFact_32 rfl) (rdb (p := 32) (i := 4) ch_cX10_echoFact_32 rfl) rfl
theorem dX10_echoFact_37 : decode cX10_echoFact 37 = .ok (.istore 7, 2) := do_54 (rdb (p := 32) (i := 5) ch_cX10_echoFact_32 rfl) (rdb (p := 32) (i := 6) ch_cX10_echoFact_32 rfl)
theorem dX10_echoFact_39 : decode cX10_echoFact 39 = .ok (.aload_n 0, 1) := do_42 (rdb (p := 32) (i := 7) ch_cX10_echoFact_32 rfl)
theorem dX10_echoFact_40 : decode cX10_echoFact 40 = .ok (.getfield 19, 3) := do_180 (rdb (p := 32) (i := 8) ch_cX10_echoFact_32 rfl) (rdb (p := 32) (i := 9) ch_cX10_echoFact_32 rfl) (rdb (p := 32) (i := 10) ch_cX10_echoFact_32 rfl) rfl
theorem dX10_echoFact_43 : decode cX10_echoFact 43 = .ok (.aload_n 0, 1) := do_42 (rdb (p := 32) (i := 11) ch_cX10_echoFact_32 rfl)
theorem dX10_echoFact_44 : decode cX10_echoFact 44 = .ok (.getfield 10, 3) := do_180 (rdb (p := 32) (i := 12) ch_cX10_echoFact_32 rfl) (rdb (p := 32) (i := 13) ch_cX10_echoFact_32 rfl) (rdb (p := 32) (i := 14) ch_cX10_echoFact_32 rfl) rfl
theorem dX10_echoFact_47 : decode cX10_echoFact 47 = .ok (.aload 5, 2) := do_25 (rdb (p := 32) (i := 15) ch_cX10_echoFact_32 rfl) (rdb (p := 32) (i := 16) ch_cX10_echoFact_32 rfl)
theorem dX10_echoFact_49 : decode cX10_echoFact 49 = .ok (.getfield 109, 3) := do_180 (rdb (p := 32) (i := 17) ch_cX10_echoFact_32 rfl) (rdb (p := 32) (i := 18) ch_cX10_echoFact_32 rfl) (rdb (p := 32) (i := 19) ch_cX10_echoFact_32 rfl) rfl
theorem dX10_echoFact_52 : decode cX10_echoFact 52 = .ok (.iload_n 3, 1) := do_29 (rdb (p := 32) (i := 20) ch_cX10_echoFact_32 rfl)
theorem dX10_echoFact_53 : decode cX10_echoFact 53 = .ok (.iload 6, 2) := do_21 (rdb (p := 32) (i := 21) ch_cX10_echoFact_32 rfl) (rdb (p := 32) (i := 22) ch_cX10_echoFact_32 rfl)
theorem dX10_echoFact_55 : decode cX10_echoFact 55 = .ok (.invokestatic 84, 3) := do_184 (rdb (p := 32) (i := 23) ch_cX10_echoFact_32 rfl) (rdb (p := 32) (i := 24) ch_cX10_echoFact_32 rfl) (rdb (p := 32) (i := 25) ch_cX10_echoFact_32 rfl) rfl
theorem dX10_echoFact_58 : decode cX10_echoFact 58 = .ok (.invokevirtual 95, 3) := do_182 (rdb (p := 32) (i := 26) ch_cX10_echoFact_32 rfl) (rdb (p := 32) (i := 27) ch_cX10_echoFact_32 rfl) (rdb (p := 32) (i := 28) ch_cX10_echoFact_32 rfl) rfl
theorem dX10_echoFact_61 : decode cX10_echoFact 61 = .ok (.iload_n 2, 1) := do_28 (rdb (p := 32) (i := 29) ch_cX10_echoFact_32 rfl)
theorem dX10_echoFact_62 : decode cX10_echoFact 62 = .ok (.iload 6, 2) := do_21 (rdb (p := 32) (i := 30) ch_cX10_echoFact_32 rfl) (rdb (p := 32) (i := 31) ch_cX10_echoFact_32 rfl)
theorem ch_cX10_echoFact_64 : (cX10_echoFact.data.toList.drop 64).take 36 = [182, 0, 116, 54, 8, 29, 25, 5, 180, 0, 119, 100, 16, 7, 126, 54, 9, 21, 4, 170, 0, 0, 0, 80, 0, 0, 0, 0, 0, 0, 0, 4, 0, 0, 0, 33] := by decide +kernel
theorem dX10_echoFact_64 : decode cX10_echoFact 64 = .ok (.invokevirtual 116, 3) := do_182 (rdb (p := 64) (i := 0) ch_cX10_echoFact_64 rfl) (rdb (p := 64) (i := 1) ch_cX10_echoFact_64 rfl) (rdb (p := 64) (i := 2) ch_cX10_echoFact_64 rfl) rfl
theorem dX10_echoFact_67 : decode cX10_echoFact 67 = .ok (.istore 8, 2) := do_54 (rdb (p := 64) (i := 3) ch_cX10_echoFact_64 rfl) (rdb (p := 64) (i := 4) ch_cX10_echoFact_64 rfl)
theorem dX10_echoFact_69 : decode cX10_echoFact 69 = .ok (.iload_n 3, 1) := do_29 (rdb (p := 64) (i := 5) ch_cX10_echoFact_64 rfl)
theorem dX10_echoFact_70 : decode cX10_echoFact 70 = .ok (.aload 5, 2) := do_25 (rdb (p := 64) (i := 6) ch_cX10_echoFact_64 rfl) (rdb (p := 64) (i := 7) ch_cX10_echoFact_64 rfl)
theorem dX10_echoFact_72 : decode cX10_echoFact 72 = .ok (.getfield 119, 3) := do_180 (rdb (p := 64) (i := 8) ch_cX10_echoFact_64 rfl) (rdb (p := 64) (i := 9) ch_cX10_echoFact_64 rfl) (rdb (p := 64) (i := 10) ch_cX10_echoFact_64 rfl) rfl
theorem dX10_echoFact_75 : decode cX10_echoFact 75 = .ok (.isub, 1) := do_100 (rdb (p := 64) (i := 11) ch_cX10_echoFact_64 rfl)
theorem dX10_echoFact_76 : decode cX10_echoFact 76 = .ok (.bipush 7, 2) := do_16 (rdb (p := 64) (i := 12) ch_cX10_echoFact_64 rfl) (rdb (p := 64) (i := 13) ch_cX10_echoFact_64 rfl) (by decide +kernel)
theorem dX10_echoFact_78 : decode cX10_echoFact 78 = .ok (.iand, 1) := do_126 (rdb (p := 64) (i := 14) ch_cX10_echoFact_64 rfl)
theorem dX10_echoFact_79 : decode cX10_echoFact 79 = .ok (.istore 9, 2) := do_54 (rdb (p := 64) (i := 15) ch_cX10_echoFact_64 rfl) (rdb (p := 64) (i := 16) ch_cX10_echoFact_64 rfl)
theorem dX10_echoFact_81 : decode cX10_echoFact 81 = .ok (.iload 4, 2) := do_21 (rdb (p := 64) (i := 17) ch_cX10_echoFact_64 rfl) (rdb (p := 64) (i := 18) ch_cX10_echoFact_64 rfl)
theorem dX10_echoFact_83 : decode cX10_echoFact 83 = .ok (.tableswitch 80 0 4 #[33, 36, 39, 42, 64], 33) := by decide +kernel
theorem ch_cX10_echoFact_96 : (cX10_echoFact.data.toList.drop 96).take 36 = [0, 0, 0, 33, 0, 0, 0, 36, 0, 0, 0, 39, 0, 0, 0, 42, 0, 0, 0, 64, 21, 6, 172, 21, 7, 172, 21, 8, 172, 21, 9, 4, 161, 0, 16, 21] := by decide +kernel
theorem dX10_echoFact_116 : decode cX10_echoFact 116 = .ok (.iload 6, 2) := do_21 (rdb (p := 96) (i := 20) ch_cX10_echoFact_96 rfl) (rdb (p := 96) (i := 21) ch_cX10_echoFact_96 rfl)
theorem dX10_echoFact_118 : decode cX10_echoFact 118 = .ok (.ireturn, 1) := do_172 (rdb (p := 96) (i := 22) ch_cX10_echoFact_96 rfl)
theorem dX10_echoFact_119 : decode cX10_echoFact 119 = .ok (.iload 7, 2) := do_21 (rdb (p := 96) (i := 23) ch_cX10_echoFact_96 rfl) (rdb (p := 96) (i := 24) ch_cX10_echoFact_96 rfl)
theorem dX10_echoFact_121 : decode cX10_echoFact 121 = .ok (.ireturn, 1) := do_172 (rdb (p := 96) (i := 25) ch_cX10_echoFact_96 rfl)
theorem dX10_echoFact_122 : decode cX10_echoFact 122 = .ok (.iload 8, 2) := do_21 (rdb (p := 96) (i := 26) ch_cX10_echoFact_96 rfl) (rdb (p := 96) (i := 27) ch_cX10_echoFact_96 rfl)
theorem dX10_echoFact_124 : decode cX10_echoFact 124 = .ok (.ireturn, 1) := do_172 (rdb (p := 96) (i := 28) ch_cX10_echoFact_96 rfl)
theorem dX10_echoFact_125 : decode cX10_echoFact 125 = .ok (.iload 9, 2) := do_21 (rdb (p := 96) (i := 29) ch_cX10_echoFact_96 rfl) (rdb (p := 96) (i := 30) ch_cX10_echoFact_96 rfl)
theorem dX10_echoFact_127 : decode cX10_echoFact 127 = .ok (.iconst 1, 1) := do_4 (rdb (p := 96) (i := 31) ch_cX10_echoFact_96 rfl)
theorem ch_cX10_echoFact_128 : (cX10_echoFact.data.toList.drop 128).take 36 = [161, 0, 16, 21, 9, 6, 163, 0, 10, 21, 8, 5, 108, 167, 0, 5, 21, 8, 172, 21, 9, 8, 161, 0, 10, 21, 8, 5, 108, 167, 0, 5, 21, 8, 172, 42] := by decide +kernel
theorem dX10_echoFact_128 : decode cX10_echoFact 128 = .ok (.if_icmp .lt 16, 3) := do_161 (rdb (p := 128) (i := 0) ch_cX10_echoFact_128 rfl) (rdb (p := 128) (i := 1) ch_cX10_echoFact_128 rfl) (rdb (p := 128) (i := 2) ch_cX10_echoFact_128 rfl) (by decide +kernel)
theorem dX10_echoFact_131 : decode cX10_echoFact 131 = .ok (.iload 9, 2) := do_21 (rdb (p := 128) (i := 3) ch_cX10_echoFact_128 rfl) (rdb (p := 128) (i := 4) ch_cX10_echoFact_128 rfl)
theorem dX10_echoFact_133 : decode cX10_echoFact 133 = .ok (.iconst 3, 1) := do_6 (rdb (p := 128) (i := 5) ch_cX10_echoFact_128 rfl)
theorem dX10_echoFact_134 : decode cX10_echoFact 134 = .ok (.if_icmp .gt 10, 3) := do_163 (rdb (p := 128) (i := 6) ch_cX10_echoFact_128 rfl) (rdb (p := 128) (i := 7) ch_cX10_echoFact_128 rfl) (rdb (p := 128) (i := 8) ch_cX10_echoFact_128 rfl) (by decide +kernel)
theorem dX10_echoFact_137 : decode cX10_echoFact 137 = .ok (.iload 8, 2) := do_21 (rdb (p := 128) (i := 9) ch_cX10_echoFact_128 rfl) (rdb (p := 128) (i := 10) ch_cX10_echoFact_128 rfl)
theorem dX10_echoFact_139 : decode cX10_echoFact 139 = .ok (.iconst 2, 1) := do_5 (rdb (p := 128) (i := 11) ch_cX10_echoFact_128 rfl)
theorem dX10_echoFact_140 : decode cX10_echoFact 140 = .ok (.idiv, 1) := do_108 (rdb (p := 128) (i := 12) ch_cX10_echoFact_128 rfl)
theorem dX10_echoFact_141 : decode cX10_echoFact 141 = .ok (.goto 5, 3) := do_167 (rdb (p := 128) (i := 13) ch_cX10_echoFact_128 rfl) (rdb (p := 128) (i := 14) ch_cX10_echoFact_128 rfl) (rdb (p := 128) (i := 15) ch_cX10_echoFact_128 rfl) (by decide +kernel)
theorem dX10_echoFact_144 : decode cX10_echoFact 144 = .ok (.iload 8, 2) := do_21 (rdb (p := 128) (i := 16) ch_cX10_echoFact_128 rfl) (rdb (p := 128) (i := 17) ch_cX10_echoFact_128 rfl)
theorem dX10_echoFact_146 : decode cX10_echoFact 146 = .ok (.ireturn, 1) := do_172 (rdb (p := 128) (i := 18) ch_cX10_echoFact_128 rfl)
theorem dX10_echoFact_147 : decode cX10_echoFact 147 = .ok (.iload 9, 2) := do_21 (rdb (p := 128) (i := 19) ch_cX10_echoFact_128 rfl) (rdb (p := 128) (i := 20) ch_cX10_echoFact_128 rfl)
theorem dX10_echoFact_149 : decode cX10_echoFact 149 = .ok (.iconst 5, 1) := do_8 (rdb (p := 128) (i := 21) ch_cX10_echoFact_128 rfl)
theorem dX10_echoFact_150 : decode cX10_echoFact 150 = .ok (.if_icmp .lt 10, 3) := do_161 (rdb (p := 128) (i := 22) ch_cX10_echoFact_128 rfl) (rdb (p := 128) (i := 23) ch_cX10_echoFact_128 rfl) (rdb (p := 128) (i := 24) ch_cX10_echoFact_128 rfl) (by decide +kernel)
theorem dX10_echoFact_153 : decode cX10_echoFact 153 = .ok (.iload 8, 2) := do_21 (rdb (p := 128) (i := 25) ch_cX10_echoFact_128 rfl) (rdb (p := 128) (i := 26) ch_cX10_echoFact_128 rfl)
theorem dX10_echoFact_155 : decode cX10_echoFact 155 = .ok (.iconst 2, 1) := do_5 (rdb (p := 128) (i := 27) ch_cX10_echoFact_128 rfl)
theorem dX10_echoFact_156 : decode cX10_echoFact 156 = .ok (.idiv, 1) := do_108 (rdb (p := 128) (i := 28) ch_cX10_echoFact_128 rfl)
theorem dX10_echoFact_157 : decode cX10_echoFact 157 = .ok (.goto 5, 3) := do_167 (rdb (p := 128) (i := 29) ch_cX10_echoFact_128 rfl) (rdb (p := 128) (i := 30) ch_cX10_echoFact_128 rfl) (rdb (p := 128) (i := 31) ch_cX10_echoFact_128 rfl) (by decide +kernel)
theorem ch_cX10_echoFact_160 : (cX10_echoFact.data.toList.drop 160).take 36 = [21, 8, 172, 42, 180, 0, 19, 25, 5, 182, 0, 99, 28, 21, 7, 21, 8, 182, 0, 122, 153, 0, 7, 4, 167, 0, 4, 3, 172] := by decide +kernel
theorem dX10_echoFact_160 : decode cX10_echoFact 160 = .ok (.iload 8, 2) := do_21 (rdb (p := 160) (i := 0) ch_cX10_echoFact_160 rfl) (rdb (p := 160) (i := 1) ch_cX10_echoFact_160 rfl)
theorem dX10_echoFact_162 : decode cX10_echoFact 162 = .ok (.ireturn, 1) := do_172 (rdb (p := 160) (i := 2) ch_cX10_echoFact_160 rfl)
theorem dX10_echoFact_163 : decode cX10_echoFact 163 = .ok (.aload_n 0, 1) := do_42 (rdb (p := 160) (i := 3) ch_cX10_echoFact_160 rfl)
theorem dX10_echoFact_164 : decode cX10_echoFact 164 = .ok (.getfield 19, 3) := do_180 (rdb (p := 160) (i := 4) ch_cX10_echoFact_160 rfl) (rdb (p := 160) (i := 5) ch_cX10_echoFact_160 rfl) (rdb (p := 160) (i := 6) ch_cX10_echoFact_160 rfl) rfl
theorem dX10_echoFact_167 : decode cX10_echoFact 167 = .ok (.aload 5, 2) := do_25 (rdb (p := 160) (i := 7) ch_cX10_echoFact_160 rfl) (rdb (p := 160) (i := 8) ch_cX10_echoFact_160 rfl)
theorem dX10_echoFact_169 : decode cX10_echoFact 169 = .ok (.invokevirtual 99, 3) := do_182 (rdb (p := 160) (i := 9) ch_cX10_echoFact_160 rfl) (rdb (p := 160) (i := 10) ch_cX10_echoFact_160 rfl) (rdb (p := 160) (i := 11) ch_cX10_echoFact_160 rfl) rfl
theorem dX10_echoFact_172 : decode cX10_echoFact 172 = .ok (.iload_n 2, 1) := do_28 (rdb (p := 160) (i := 12) ch_cX10_echoFact_160 rfl)
theorem dX10_echoFact_173 : decode cX10_echoFact 173 = .ok (.iload 7, 2) := do_21 (rdb (p := 160) (i := 13) ch_cX10_echoFact_160 rfl) (rdb (p := 160) (i := 14) ch_cX10_echoFact_160 rfl)
theorem dX10_echoFact_175 : decode cX10_echoFact 175 = .ok (.iload 8, 2) := do_21 (rdb (p := 160) (i := 15) ch_cX10_echoFact_160 rfl) (rdb (p := 160) (i := 16) ch_cX10_echoFact_160 rfl)
theorem dX10_echoFact_177 : decode cX10_echoFact 177 = .ok (.invokevirtual 122, 3) := do_182 (rdb (p := 160) (i := 17) ch_cX10_echoFact_160 rfl) (rdb (p := 160) (i := 18) ch_cX10_echoFact_160 rfl) (rdb (p := 160) (i := 19) ch_cX10_echoFact_160 rfl) rfl
theorem dX10_echoFact_180 : decode cX10_echoFact 180 = .ok (.ifCond .eq 7, 3) := do_153 (rdb (p := 160) (i := 20) ch_cX10_echoFact_160 rfl) (rdb (p := 160) (i := 21) ch_cX10_echoFact_160 rfl) (rdb (p := 160) (i := 22) ch_cX10_echoFact_160 rfl) (by decide +kernel)
theorem dX10_echoFact_183 : decode cX10_echoFact 183 = .ok (.iconst 1, 1) := do_4 (rdb (p := 160) (i := 23) ch_cX10_echoFact_160 rfl)
theorem dX10_echoFact_184 : decode cX10_echoFact 184 = .ok (.goto 4, 3) := do_167 (rdb (p := 160) (i := 24) ch_cX10_echoFact_160 rfl) (rdb (p := 160) (i := 25) ch_cX10_echoFact_160 rfl) (rdb (p := 160) (i := 26) ch_cX10_echoFact_160 rfl) (by decide +kernel)
theorem dX10_echoFact_187 : decode cX10_echoFact 187 = .ok (.iconst 0, 1) := do_3 (rdb (p := 160) (i := 27) ch_cX10_echoFact_160 rfl)
theorem dX10_echoFact_188 : decode cX10_echoFact 188 = .ok (.ireturn, 1) := do_172 (rdb (p := 160) (i := 28) ch_cX10_echoFact_160 rfl)
theorem ch_cX10_echoYards_0 : (cX10_echoYards.data.toList.drop 0).take 36 = [42, 27, 182, 0, 76, 153, 0, 15, 42, 180, 0, 46, 27, 50, 182, 0, 80, 167, 0, 4, 3, 54, 4, 4, 54, 5, 21, 5, 21, 4, 163, 0, 38, 28, 29, 21] := by decide +kernel
theorem dX10_echoYards_0 : decode cX10_echoYards 0 = .ok (.aload_n 0, 1) := do_42 (rdb (p := 0) (i := 0) ch_cX10_echoYards_0 rfl)
theorem dX10_echoYards_1 : decode cX10_echoYards 1 = .ok (.iload_n 1, 1) := do_27 (rdb (p := 0) (i := 1) ch_cX10_echoYards_0 rfl)
theorem dX10_echoYards_2 : decode cX10_echoYards 2 = .ok (.invokevirtual 76, 3) := do_182 (rdb (p := 0) (i := 2) ch_cX10_echoYards_0 rfl) (rdb (p := 0) (i := 3) ch_cX10_echoYards_0 rfl) (rdb (p := 0) (i := 4) ch_cX10_echoYards_0 rfl) rfl
theorem dX10_echoYards_5 : decode cX10_echoYards 5 = .ok (.ifCond .eq 15, 3) := do_153 (rdb (p := 0) (i := 5) ch_cX10_echoYards_0 rfl) (rdb (p := 0) (i := 6) ch_cX10_echoYards_0 rfl) (rdb (p := 0) (i := 7) ch_cX10_echoYards_0 rfl) (by decide +kernel)
theorem dX10_echoYards_8 : decode cX10_echoYards 8 = .ok (.aload_n 0, 1) := do_42 (rdb (p := 0) (i := 8) ch_cX10_echoYards_0 rfl)
theorem dX10_echoYards_9 : decode cX10_echoYards 9 = .ok (.getfield 46, 3) := do_180 (rdb (p := 0) (i := 9) ch_cX10_echoYards_0 rfl) (rdb (p := 0) (i := 10) ch_cX10_echoYards_0 rfl) (rdb (p := 0) (i := 11) ch_cX10_echoYards_0 rfl) rfl
theorem dX10_echoYards_12 : decode cX10_echoYards 12 = .ok (.iload_n 1, 1) := do_27 (rdb (p := 0) (i := 12) ch_cX10_echoYards_0 rfl)
theorem dX10_echoYards_13 : decode cX10_echoYards 13 = .ok (.aaload, 1) := do_50 (rdb (p := 0) (i := 13) ch_cX10_echoYards_0 rfl)
theorem dX10_echoYards_14 : decode cX10_echoYards 14 = .ok (.invokevirtual 80, 3) := do_182 (rdb (p := 0) (i := 14) ch_cX10_echoYards_0 rfl) (rdb (p := 0) (i := 15) ch_cX10_echoYards_0 rfl) (rdb (p := 0) (i := 16) ch_cX10_echoYards_0 rfl) rfl
theorem dX10_echoYards_17 : decode cX10_echoYards 17 = .ok (.goto 4, 3) := do_167 (rdb (p := 0) (i := 17) ch_cX10_echoYards_0 rfl) (rdb (p := 0) (i := 18) ch_cX10_echoYards_0 rfl) (rdb (p := 0) (i := 19) ch_cX10_echoYards_0 rfl) (by decide +kernel)
theorem dX10_echoYards_20 : decode cX10_echoYards 20 = .ok (.iconst 0, 1) := do_3 (rdb (p := 0) (i := 20) ch_cX10_echoYards_0 rfl)
theorem dX10_echoYards_21 : decode cX10_echoYards 21 = .ok (.istore 4, 2) := do_54 (rdb (p := 0) (i := 21) ch_cX10_echoYards_0 rfl) (rdb (p := 0) (i := 22) ch_cX10_echoYards_0 rfl)
theorem dX10_echoYards_23 : decode cX10_echoYards 23 = .ok (.iconst 1, 1) := do_4 (rdb (p := 0) (i := 23) ch_cX10_echoYards_0 rfl)
theorem dX10_echoYards_24 : decode cX10_echoYards 24 = .ok (.istore 5, 2) := do_54 (rdb (p := 0) (i := 24) ch_cX10_echoYards_0 rfl) (rdb (p := 0) (i := 25) ch_cX10_echoYards_0 rfl)
theorem dX10_echoYards_26 : decode cX10_echoYards 26 = .ok (.iload 5, 2) := do_21 (rdb (p := 0) (i := 26) ch_cX10_echoYards_0 rfl) (rdb (p := 0) (i := 27) ch_cX10_echoYards_0 rfl)
theorem dX10_echoYards_28 : decode cX10_echoYards 28 = .ok (.iload 4, 2) := do_21 (rdb (p := 0) (i := 28) ch_cX10_echoYards_0 rfl) (rdb (p := 0) (i := 29) ch_cX10_echoYards_0 rfl)
theorem dX10_echoYards_30 : decode cX10_echoYards 30 = .ok (.if_icmp .gt 38, 3) := do_163 (rdb (p := 0) (i := 30) ch_cX10_echoYards_0 rfl) (rdb (p := 0) (i := 31) ch_cX10_echoYards_0 rfl) (rdb (p := 0) (i := 32) ch_cX10_echoYards_0 rfl) (by decide +kernel)
theorem ch_cX10_echoYards_32 : (cX10_echoYards.data.toList.drop 32).take 36 = [38, 28, 29, 21, 5, 184, 0, 84, 54, 6, 21, 6, 156, 0, 5, 3, 172, 42, 27, 21, 6, 182, 0, 88, 154, 0, 6, 21, 5, 172, 132, 5, 1, 167, 255, 217] := by decide +kernel
theorem dX10_echoYards_33 : decode cX10_echoYards 33 = .ok (.iload_n 2, 1) := do_28 (rdb (p := 32) (i := 1) ch_cX10_echoYards_32 rfl)
theorem dX10_echoYards_34 : decode cX10_echoYards 34 = .ok (.iload_n 3, 1) := do_29 (rdb (p := 32) (i := 2) ch_cX10_echoYards_32 rfl)
theorem dX10_echoYards_35 : decode cX10_echoYards 35 = .ok (.iload 5, 2) := do_21 (rdb (p := 32) (i := 3) ch_cX10_echoYards_32 rfl) (rdb (p := 32) (i := 4) ch_cX10_echoYards_32 rfl)
theorem dX10_echoYards_37 : decode cX10_echoYards 37 = .ok (.invokestatic 84, 3) := do_184 (rdb (p := 32) (i := 5) ch_cX10_echoYards_32 rfl) (rdb (p := 32) (i := 6) ch_cX10_echoYards_32 rfl) (rdb (p := 32) (i := 7) ch_cX10_echoYards_32 rfl) rfl
theorem dX10_echoYards_40 : decode cX10_echoYards 40 = .ok (.istore 6, 2) := do_54 (rdb (p := 32) (i := 8) ch_cX10_echoYards_32 rfl) (rdb (p := 32) (i := 9) ch_cX10_echoYards_32 rfl)
theorem dX10_echoYards_42 : decode cX10_echoYards 42 = .ok (.iload 6, 2) := do_21 (rdb (p := 32) (i := 10) ch_cX10_echoYards_32 rfl) (rdb (p := 32) (i := 11) ch_cX10_echoYards_32 rfl)
theorem dX10_echoYards_44 : decode cX10_echoYards 44 = .ok (.ifCond .ge 5, 3) := do_156 (rdb (p := 32) (i := 12) ch_cX10_echoYards_32 rfl) (rdb (p := 32) (i := 13) ch_cX10_echoYards_32 rfl) (rdb (p := 32) (i := 14) ch_cX10_echoYards_32 rfl) (by decide +kernel)
theorem dX10_echoYards_47 : decode cX10_echoYards 47 = .ok (.iconst 0, 1) := do_3 (rdb (p := 32) (i := 15) ch_cX10_echoYards_32 rfl)
theorem dX10_echoYards_48 : decode cX10_echoYards 48 = .ok (.ireturn, 1) := do_172 (rdb (p := 32) (i := 16) ch_cX10_echoYards_32 rfl)
theorem dX10_echoYards_49 : decode cX10_echoYards 49 = .ok (.aload_n 0, 1) := do_42 (rdb (p := 32) (i := 17) ch_cX10_echoYards_32 rfl)
theorem dX10_echoYards_50 : decode cX10_echoYards 50 = .ok (.iload_n 1, 1) := do_27 (rdb (p := 32) (i := 18) ch_cX10_echoYards_32 rfl)
theorem dX10_echoYards_51 : decode cX10_echoYards 51 = .ok (.iload 6, 2) := do_21 (rdb (p := 32) (i := 19) ch_cX10_echoYards_32 rfl) (rdb (p := 32) (i := 20) ch_cX10_echoYards_32 rfl)
theorem dX10_echoYards_53 : decode cX10_echoYards 53 = .ok (.invokevirtual 88, 3) := do_182 (rdb (p := 32) (i := 21) ch_cX10_echoYards_32 rfl) (rdb (p := 32) (i := 22) ch_cX10_echoYards_32 rfl) (rdb (p := 32) (i := 23) ch_cX10_echoYards_32 rfl) rfl
theorem dX10_echoYards_56 : decode cX10_echoYards 56 = .ok (.ifCond .ne 6, 3) := do_154 (rdb (p := 32) (i := 24) ch_cX10_echoYards_32 rfl) (rdb (p := 32) (i := 25) ch_cX10_echoYards_32 rfl) (rdb (p := 32) (i := 26) ch_cX10_echoYards_32 rfl) (by decide +kernel)
theorem dX10_echoYards_59 : decode cX10_echoYards 59 = .ok (.iload 5, 2) := do_21 (rdb (p := 32) (i := 27) ch_cX10_echoYards_32 rfl) (rdb (p := 32) (i := 28) ch_cX10_echoYards_32 rfl)
theorem dX10_echoYards_61 : decode cX10_echoYards 61 = .ok (.ireturn, 1) := do_172 (rdb (p := 32) (i := 29) ch_cX10_echoYards_32 rfl)
theorem dX10_echoYards_62 : decode cX10_echoYards 62 = .ok (.iinc 5 1, 3) := do_132 (rdb (p := 32) (i := 30) ch_cX10_echoYards_32 rfl) (rdb (p := 32) (i := 31) ch_cX10_echoYards_32 rfl) (rdb (p := 32) (i := 32) ch_cX10_echoYards_32 rfl) (by decide +kernel)
theorem ch_cX10_echoYards_64 : (cX10_echoYards.data.toList.drop 64).take 36 = [1, 167, 255, 217, 3, 172] := by decide +kernel
theorem dX10_echoYards_65 : decode cX10_echoYards 65 = .ok (.goto (-39), 3) := do_167 (rdb (p := 64) (i := 1) ch_cX10_echoYards_64 rfl) (rdb (p := 64) (i := 2) ch_cX10_echoYards_64 rfl) (rdb (p := 64) (i := 3) ch_cX10_echoYards_64 rfl) (by decide +kernel)
theorem dX10_echoYards_68 : decode cX10_echoYards 68 = .ok (.iconst 0, 1) := do_3 (rdb (p := 64) (i := 4) ch_cX10_echoYards_64 rfl)
theorem dX10_echoYards_69 : decode cX10_echoYards 69 = .ok (.ireturn, 1) := do_172 (rdb (p := 64) (i := 5) ch_cX10_echoYards_64 rfl)
theorem ch_cX10_goOn_0 : (cX10_goOn.data.toList.drop 0).take 36 = [42, 27, 182, 0, 76, 154, 0, 4, 177, 42, 180, 0, 46, 27, 50, 77, 3, 62, 29, 44, 182, 0, 178, 162, 0, 84, 44, 180, 0, 109, 44, 180, 0, 119, 4, 184] := by decide +kernel
theorem dX10_goOn_0 : decode cX10_goOn 0 = .ok (.aload_n 0, 1) := do_42 (rdb (p := 0) (i := 0) ch_cX10_goOn_0 rfl)
theorem dX10_goOn_1 : decode cX10_goOn 1 = .ok (.iload_n 1, 1) := do_27 (rdb (p := 0) (i := 1) ch_cX10_goOn_0 rfl)
theorem dX10_goOn_2 : decode cX10_goOn 2 = .ok (.invokevirtual 76, 3) := do_182 (rdb (p := 0) (i := 2) ch_cX10_goOn_0 rfl) (rdb (p := 0) (i := 3) ch_cX10_goOn_0 rfl) (rdb (p := 0) (i := 4) ch_cX10_goOn_0 rfl) rfl
theorem dX10_goOn_5 : decode cX10_goOn 5 = .ok (.ifCond .ne 4, 3) := do_154 (rdb (p := 0) (i := 5) ch_cX10_goOn_0 rfl) (rdb (p := 0) (i := 6) ch_cX10_goOn_0 rfl) (rdb (p := 0) (i := 7) ch_cX10_goOn_0 rfl) (by decide +kernel)
theorem dX10_goOn_8 : decode cX10_goOn 8 = .ok (.return_, 1) := do_177 (rdb (p := 0) (i := 8) ch_cX10_goOn_0 rfl)
theorem dX10_goOn_9 : decode cX10_goOn 9 = .ok (.aload_n 0, 1) := do_42 (rdb (p := 0) (i := 9) ch_cX10_goOn_0 rfl)
theorem dX10_goOn_10 : decode cX10_goOn 10 = .ok (.getfield 46, 3) := do_180 (rdb (p := 0) (i := 10) ch_cX10_goOn_0 rfl) (rdb (p := 0) (i := 11) ch_cX10_goOn_0 rfl) (rdb (p := 0) (i := 12) ch_cX10_goOn_0 rfl) rfl
theorem dX10_goOn_13 : decode cX10_goOn 13 = .ok (.iload_n 1, 1) := do_27 (rdb (p := 0) (i := 13) ch_cX10_goOn_0 rfl)
theorem dX10_goOn_14 : decode cX10_goOn 14 = .ok (.aaload, 1) := do_50 (rdb (p := 0) (i := 14) ch_cX10_goOn_0 rfl)
theorem dX10_goOn_15 : decode cX10_goOn 15 = .ok (.astore_n 2, 1) := do_77 (rdb (p := 0) (i := 15) ch_cX10_goOn_0 rfl)
theorem dX10_goOn_16 : decode cX10_goOn 16 = .ok (.iconst 0, 1) := do_3 (rdb (p := 0) (i := 16) ch_cX10_goOn_0 rfl)
theorem dX10_goOn_17 : decode cX10_goOn 17 = .ok (.istore_n 3, 1) := do_62 (rdb (p := 0) (i := 17) ch_cX10_goOn_0 rfl)
theorem dX10_goOn_18 : decode cX10_goOn 18 = .ok (.iload_n 3, 1) := do_29 (rdb (p := 0) (i := 18) ch_cX10_goOn_0 rfl)
theorem dX10_goOn_19 : decode cX10_goOn 19 = .ok (.aload_n 2, 1) := do_44 (rdb (p := 0) (i := 19) ch_cX10_goOn_0 rfl)
theorem dX10_goOn_20 : decode cX10_goOn 20 = .ok (.invokevirtual 178, 3) := do_182 (rdb (p := 0) (i := 20) ch_cX10_goOn_0 rfl) (rdb (p := 0) (i := 21) ch_cX10_goOn_0 rfl) (rdb (p := 0) (i := 22) ch_cX10_goOn_0 rfl) rfl
theorem dX10_goOn_23 : decode cX10_goOn 23 = .ok (.if_icmp .ge 84, 3) := do_162 (rdb (p := 0) (i := 23) ch_cX10_goOn_0 rfl) (rdb (p := 0) (i := 24) ch_cX10_goOn_0 rfl) (rdb (p := 0) (i := 25) ch_cX10_goOn_0 rfl) (by decide +kernel)
theorem dX10_goOn_26 : decode cX10_goOn 26 = .ok (.aload_n 2, 1) := do_44 (rdb (p := 0) (i := 26) ch_cX10_goOn_0 rfl)
theorem dX10_goOn_27 : decode cX10_goOn 27 = .ok (.getfield 109, 3) := do_180 (rdb (p := 0) (i := 27) ch_cX10_goOn_0 rfl) (rdb (p := 0) (i := 28) ch_cX10_goOn_0 rfl) (rdb (p := 0) (i := 29) ch_cX10_goOn_0 rfl) rfl
theorem dX10_goOn_30 : decode cX10_goOn 30 = .ok (.aload_n 2, 1) := do_44 (rdb (p := 0) (i := 30) ch_cX10_goOn_0 rfl)
theorem dX10_goOn_31 : decode cX10_goOn 31 = .ok (.getfield 119, 3) := do_180 (rdb (p := 0) (i := 31) ch_cX10_goOn_0 rfl) (rdb (p := 0) (i := 32) ch_cX10_goOn_0 rfl) (rdb (p := 0) (i := 33) ch_cX10_goOn_0 rfl) rfl
theorem ch_cX10_goOn_32 : (cX10_goOn.data.toList.drop 32).take 36 = [0, 119, 4, 184, 0, 84, 54, 4, 42, 180, 0, 10, 21, 4, 182, 0, 181, 154, 0, 21, 44, 89, 180, 0, 66, 4, 96, 181, 0, 66, 44, 21, 4, 6, 182, 0] := by decide +kernel
theorem dX10_goOn_34 : decode cX10_goOn 34 = .ok (.iconst 1, 1) := do_4 (rdb (p := 32) (i := 2) ch_cX10_goOn_32 rfl)
theorem dX10_goOn_35 : decode cX10_goOn 35 = .ok (.invokestatic 84, 3) := do_184 (rdb (p := 32) (i := 3) ch_cX10_goOn_32 rfl) (rdb (p := 32) (i := 4) ch_cX10_goOn_32 rfl) (rdb (p := 32) (i := 5) ch_cX10_goOn_32 rfl) rfl
theorem dX10_goOn_38 : decode cX10_goOn 38 = .ok (.istore 4, 2) := do_54 (rdb (p := 32) (i := 6) ch_cX10_goOn_32 rfl) (rdb (p := 32) (i := 7) ch_cX10_goOn_32 rfl)
theorem dX10_goOn_40 : decode cX10_goOn 40 = .ok (.aload_n 0, 1) := do_42 (rdb (p := 32) (i := 8) ch_cX10_goOn_32 rfl)
theorem dX10_goOn_41 : decode cX10_goOn 41 = .ok (.getfield 10, 3) := do_180 (rdb (p := 32) (i := 9) ch_cX10_goOn_32 rfl) (rdb (p := 32) (i := 10) ch_cX10_goOn_32 rfl) (rdb (p := 32) (i := 11) ch_cX10_goOn_32 rfl) rfl
theorem dX10_goOn_44 : decode cX10_goOn 44 = .ok (.iload 4, 2) := do_21 (rdb (p := 32) (i := 12) ch_cX10_goOn_32 rfl) (rdb (p := 32) (i := 13) ch_cX10_goOn_32 rfl)
theorem dX10_goOn_46 : decode cX10_goOn 46 = .ok (.invokevirtual 181, 3) := do_182 (rdb (p := 32) (i := 14) ch_cX10_goOn_32 rfl) (rdb (p := 32) (i := 15) ch_cX10_goOn_32 rfl) (rdb (p := 32) (i := 16) ch_cX10_goOn_32 rfl) rfl
theorem dX10_goOn_49 : decode cX10_goOn 49 = .ok (.ifCond .ne 21, 3) := do_154 (rdb (p := 32) (i := 17) ch_cX10_goOn_32 rfl) (rdb (p := 32) (i := 18) ch_cX10_goOn_32 rfl) (rdb (p := 32) (i := 19) ch_cX10_goOn_32 rfl) (by decide +kernel)
theorem dX10_goOn_52 : decode cX10_goOn 52 = .ok (.aload_n 2, 1) := do_44 (rdb (p := 32) (i := 20) ch_cX10_goOn_32 rfl)
theorem dX10_goOn_53 : decode cX10_goOn 53 = .ok (.dup, 1) := do_89 (rdb (p := 32) (i := 21) ch_cX10_goOn_32 rfl)
theorem dX10_goOn_54 : decode cX10_goOn 54 = .ok (.getfield 66, 3) := do_180 (rdb (p := 32) (i := 22) ch_cX10_goOn_32 rfl) (rdb (p := 32) (i := 23) ch_cX10_goOn_32 rfl) (rdb (p := 32) (i := 24) ch_cX10_goOn_32 rfl) rfl
theorem dX10_goOn_57 : decode cX10_goOn 57 = .ok (.iconst 1, 1) := do_4 (rdb (p := 32) (i := 25) ch_cX10_goOn_32 rfl)
theorem dX10_goOn_58 : decode cX10_goOn 58 = .ok (.iadd, 1) := do_96 (rdb (p := 32) (i := 26) ch_cX10_goOn_32 rfl)
theorem dX10_goOn_59 : decode cX10_goOn 59 = .ok (.putfield 66, 3) := do_181 (rdb (p := 32) (i := 27) ch_cX10_goOn_32 rfl) (rdb (p := 32) (i := 28) ch_cX10_goOn_32 rfl) (rdb (p := 32) (i := 29) ch_cX10_goOn_32 rfl) rfl
theorem dX10_goOn_62 : decode cX10_goOn 62 = .ok (.aload_n 2, 1) := do_44 (rdb (p := 32) (i := 30) ch_cX10_goOn_32 rfl)
theorem dX10_goOn_63 : decode cX10_goOn 63 = .ok (.iload 4, 2) := do_21 (rdb (p := 32) (i := 31) ch_cX10_goOn_32 rfl) (rdb (p := 32) (i := 32) ch_cX10_goOn_32 rfl)
theorem ch_cX10_goOn_64 : (cX10_goOn.data.toList.drop 64).take 36 = [4, 6, 182, 0, 129, 177, 42, 180, 0, 10, 44, 180, 0, 109, 2, 182, 0, 62, 42, 180, 0, 10, 21, 4, 16, 100, 27, 96, 182, 0, 62, 44, 21, 4, 181, 0] := by decide +kernel
theorem dX10_goOn_65 : decode cX10_goOn 65 = .ok (.iconst 3, 1) := do_6 (rdb (p := 64) (i := 1) ch_cX10_goOn_64 rfl)
theorem dX10_goOn_66 : decode cX10_goOn 66 = .ok (.invokevirtual 129, 3) := do_182 (rdb (p := 64) (i := 2) ch_cX10_goOn_64 rfl) (rdb (p := 64) (i := 3) ch_cX10_goOn_64 rfl) (rdb (p := 64) (i := 4) ch_cX10_goOn_64 rfl) rfl
theorem dX10_goOn_69 : decode cX10_goOn 69 = .ok (.return_, 1) := do_177 (rdb (p := 64) (i := 5) ch_cX10_goOn_64 rfl)
theorem dX10_goOn_70 : decode cX10_goOn 70 = .ok (.aload_n 0, 1) := do_42 (rdb (p := 64) (i := 6) ch_cX10_goOn_64 rfl)
theorem dX10_goOn_71 : decode cX10_goOn 71 = .ok (.getfield 10, 3) := do_180 (rdb (p := 64) (i := 7) ch_cX10_goOn_64 rfl) (rdb (p := 64) (i := 8) ch_cX10_goOn_64 rfl) (rdb (p := 64) (i := 9) ch_cX10_goOn_64 rfl) rfl
theorem dX10_goOn_74 : decode cX10_goOn 74 = .ok (.aload_n 2, 1) := do_44 (rdb (p := 64) (i := 10) ch_cX10_goOn_64 rfl)
theorem dX10_goOn_75 : decode cX10_goOn 75 = .ok (.getfield 109, 3) := do_180 (rdb (p := 64) (i := 11) ch_cX10_goOn_64 rfl) (rdb (p := 64) (i := 12) ch_cX10_goOn_64 rfl) (rdb (p := 64) (i := 13) ch_cX10_goOn_64 rfl) rfl
theorem dX10_goOn_78 : decode cX10_goOn 78 = .ok (.iconst (-1), 1) := do_2 (rdb (p := 64) (i := 14) ch_cX10_goOn_64 rfl)
theorem dX10_goOn_79 : decode cX10_goOn 79 = .ok (.invokevirtual 62, 3) := do_182 (rdb (p := 64) (i := 15) ch_cX10_goOn_64 rfl) (rdb (p := 64) (i := 16) ch_cX10_goOn_64 rfl) (rdb (p := 64) (i := 17) ch_cX10_goOn_64 rfl) rfl
theorem dX10_goOn_82 : decode cX10_goOn 82 = .ok (.aload_n 0, 1) := do_42 (rdb (p := 64) (i := 18) ch_cX10_goOn_64 rfl)
theorem dX10_goOn_83 : decode cX10_goOn 83 = .ok (.getfield 10, 3) := do_180 (rdb (p := 64) (i := 19) ch_cX10_goOn_64 rfl) (rdb (p := 64) (i := 20) ch_cX10_goOn_64 rfl) (rdb (p := 64) (i := 21) ch_cX10_goOn_64 rfl) rfl
theorem dX10_goOn_86 : decode cX10_goOn 86 = .ok (.iload 4, 2) := do_21 (rdb (p := 64) (i := 22) ch_cX10_goOn_64 rfl) (rdb (p := 64) (i := 23) ch_cX10_goOn_64 rfl)
theorem dX10_goOn_88 : decode cX10_goOn 88 = .ok (.bipush 100, 2) := do_16 (rdb (p := 64) (i := 24) ch_cX10_goOn_64 rfl) (rdb (p := 64) (i := 25) ch_cX10_goOn_64 rfl) (by decide +kernel)
theorem dX10_goOn_90 : decode cX10_goOn 90 = .ok (.iload_n 1, 1) := do_27 (rdb (p := 64) (i := 26) ch_cX10_goOn_64 rfl)
theorem dX10_goOn_91 : decode cX10_goOn 91 = .ok (.iadd, 1) := do_96 (rdb (p := 64) (i := 27) ch_cX10_goOn_64 rfl)
theorem dX10_goOn_92 : decode cX10_goOn 92 = .ok (.invokevirtual 62, 3) := do_182 (rdb (p := 64) (i := 28) ch_cX10_goOn_64 rfl) (rdb (p := 64) (i := 29) ch_cX10_goOn_64 rfl) (rdb (p := 64) (i := 30) ch_cX10_goOn_64 rfl) rfl
theorem dX10_goOn_95 : decode cX10_goOn 95 = .ok (.aload_n 2, 1) := do_44 (rdb (p := 64) (i := 31) ch_cX10_goOn_64 rfl)
theorem ch_cX10_goOn_96 : (cX10_goOn.data.toList.drop 96).take 36 = [21, 4, 181, 0, 109, 132, 3, 1, 167, 255, 170, 177] := by decide +kernel
theorem dX10_goOn_96 : decode cX10_goOn 96 = .ok (.iload 4, 2) := do_21 (rdb (p := 96) (i := 0) ch_cX10_goOn_96 rfl) (rdb (p := 96) (i := 1) ch_cX10_goOn_96 rfl)
theorem dX10_goOn_98 : decode cX10_goOn 98 = .ok (.putfield 109, 3) := do_181 (rdb (p := 96) (i := 2) ch_cX10_goOn_96 rfl) (rdb (p := 96) (i := 3) ch_cX10_goOn_96 rfl) (rdb (p := 96) (i := 4) ch_cX10_goOn_96 rfl) rfl
theorem dX10_goOn_101 : decode cX10_goOn 101 = .ok (.iinc 3 1, 3) := do_132 (rdb (p := 96) (i := 5) ch_cX10_goOn_96 rfl) (rdb (p := 96) (i := 6) ch_cX10_goOn_96 rfl) (rdb (p := 96) (i := 7) ch_cX10_goOn_96 rfl) (by decide +kernel)
theorem dX10_goOn_104 : decode cX10_goOn 104 = .ok (.goto (-86), 3) := do_167 (rdb (p := 96) (i := 8) ch_cX10_goOn_96 rfl) (rdb (p := 96) (i := 9) ch_cX10_goOn_96 rfl) (rdb (p := 96) (i := 10) ch_cX10_goOn_96 rfl) (by decide +kernel)
theorem dX10_goOn_107 : decode cX10_goOn 107 = .ok (.return_, 1) := do_177 (rdb (p := 96) (i := 11) ch_cX10_goOn_96 rfl)
theorem dX10_hasWalker_0 : decode cX10_hasWalker 0 = .ok (.iload_n 1, 1) := by decide +kernel
theorem dX10_hasWalker_1 : decode cX10_hasWalker 1 = .ok (.ifCond .lt 21, 3) := by decide +kernel
theorem dX10_hasWalker_4 : decode cX10_hasWalker 4 = .ok (.iload_n 1, 1) := by decide +kernel
theorem dX10_hasWalker_5 : decode cX10_hasWalker 5 = .ok (.aload_n 0, 1) := by decide +kernel
theorem dX10_hasWalker_6 : decode cX10_hasWalker 6 = .ok (.getfield 50, 3) := by decide +kernel
theorem dX10_hasWalker_9 : decode cX10_hasWalker 9 = .ok (.if_icmp .ge 13, 3) := by decide +kernel
theorem dX10_hasWalker_12 : decode cX10_hasWalker 12 = .ok (.iload_n 1, 1) := by decide +kernel
theorem dX10_hasWalker_13 : decode cX10_hasWalker 13 = .ok (.bipush 8, 2) := by decide +kernel
theorem dX10_hasWalker_15 : decode cX10_hasWalker 15 = .ok (.if_icmp .ge 7, 3) := by decide +kernel
theorem dX10_hasWalker_18 : decode cX10_hasWalker 18 = .ok (.iconst 1, 1) := by decide +kernel
theorem dX10_hasWalker_19 : decode cX10_hasWalker 19 = .ok (.goto 4, 3) := by decide +kernel
theorem dX10_hasWalker_22 : decode cX10_hasWalker 22 = .ok (.iconst 0, 1) := by decide +kernel
theorem dX10_hasWalker_23 : decode cX10_hasWalker 23 = .ok (.ireturn, 1) := by decide +kernel
theorem ch_cX10_heardYards_0 : (cX10_heardYards.data.toList.drop 0).take 36 = [42, 27, 28, 29, 182, 0, 92, 54, 4, 21, 4, 153, 0, 11, 42, 27, 182, 0, 76, 154, 0, 5, 3, 172, 42, 180, 0, 46, 27, 50, 58, 5, 42, 180, 0, 10] := by decide +kernel
theorem dX10_heardYards_0 : decode cX10_heardYards 0 = .ok (.aload_n 0, 1) := do_42 (rdb (p := 0) (i := 0) ch_cX10_heardYards_0 rfl)
theorem dX10_heardYards_1 : decode cX10_heardYards 1 = .ok (.iload_n 1, 1) := do_27 (rdb (p := 0) (i := 1) ch_cX10_heardYards_0 rfl)
theorem dX10_heardYards_2 : decode cX10_heardYards 2 = .ok (.iload_n 2, 1) := do_28 (rdb (p := 0) (i := 2) ch_cX10_heardYards_0 rfl)
theorem dX10_heardYards_3 : decode cX10_heardYards 3 = .ok (.iload_n 3, 1) := do_29 (rdb (p := 0) (i := 3) ch_cX10_heardYards_0 rfl)
theorem dX10_heardYards_4 : decode cX10_heardYards 4 = .ok (.invokevirtual 92, 3) := do_182 (rdb (p := 0) (i := 4) ch_cX10_heardYards_0 rfl) (rdb (p := 0) (i := 5) ch_cX10_heardYards_0 rfl) (rdb (p := 0) (i := 6) ch_cX10_heardYards_0 rfl) rfl
theorem dX10_heardYards_7 : decode cX10_heardYards 7 = .ok (.istore 4, 2) := do_54 (rdb (p := 0) (i := 7) ch_cX10_heardYards_0 rfl) (rdb (p := 0) (i := 8) ch_cX10_heardYards_0 rfl)
theorem dX10_heardYards_9 : decode cX10_heardYards 9 = .ok (.iload 4, 2) := do_21 (rdb (p := 0) (i := 9) ch_cX10_heardYards_0 rfl) (rdb (p := 0) (i := 10) ch_cX10_heardYards_0 rfl)
theorem dX10_heardYards_11 : decode cX10_heardYards 11 = .ok (.ifCond .eq 11, 3) := do_153 (rdb (p := 0) (i := 11) ch_cX10_heardYards_0 rfl) (rdb (p := 0) (i := 12) ch_cX10_heardYards_0 rfl) (rdb (p := 0) (i := 13) ch_cX10_heardYards_0 rfl) (by decide +kernel)
theorem dX10_heardYards_14 : decode cX10_heardYards 14 = .ok (.aload_n 0, 1) := do_42 (rdb (p := 0) (i := 14) ch_cX10_heardYards_0 rfl)
theorem dX10_heardYards_15 : decode cX10_heardYards 15 = .ok (.iload_n 1, 1) := do_27 (rdb (p := 0) (i := 15) ch_cX10_heardYards_0 rfl)
theorem dX10_heardYards_16 : decode cX10_heardYards 16 = .ok (.invokevirtual 76, 3) := do_182 (rdb (p := 0) (i := 16) ch_cX10_heardYards_0 rfl) (rdb (p := 0) (i := 17) ch_cX10_heardYards_0 rfl) (rdb (p := 0) (i := 18) ch_cX10_heardYards_0 rfl) rfl
theorem dX10_heardYards_19 : decode cX10_heardYards 19 = .ok (.ifCond .ne 5, 3) := do_154 (rdb (p := 0) (i := 19) ch_cX10_heardYards_0 rfl) (rdb (p := 0) (i := 20) ch_cX10_heardYards_0 rfl) (rdb (p := 0) (i := 21) ch_cX10_heardYards_0 rfl) (by decide +kernel)
theorem dX10_heardYards_22 : decode cX10_heardYards 22 = .ok (.iconst 0, 1) := do_3 (rdb (p := 0) (i := 22) ch_cX10_heardYards_0 rfl)
theorem dX10_heardYards_23 : decode cX10_heardYards 23 = .ok (.ireturn, 1) := do_172 (rdb (p := 0) (i := 23) ch_cX10_heardYards_0 rfl)
theorem dX10_heardYards_24 : decode cX10_heardYards 24 = .ok (.aload_n 0, 1) := do_42 (rdb (p := 0) (i := 24) ch_cX10_heardYards_0 rfl)
theorem dX10_heardYards_25 : decode cX10_heardYards 25 = .ok (.getfield 46, 3) := do_180 (rdb (p := 0) (i := 25) ch_cX10_heardYards_0 rfl) (rdb (p := 0) (i := 26) ch_cX10_heardYards_0 rfl) (rdb (p := 0) (i := 27) ch_cX10_heardYards_0 rfl) rfl
theorem dX10_heardYards_28 : decode cX10_heardYards 28 = .ok (.iload_n 1, 1) := do_27 (rdb (p := 0) (i := 28) ch_cX10_heardYards_0 rfl)
theorem dX10_heardYards_29 : decode cX10_heardYards 29 = .ok (.aaload, 1) := do_50 (rdb (p := 0) (i := 29) ch_cX10_heardYards_0 rfl)
theorem dX10_heardYards_30 : decode cX10_heardYards 30 = .ok (.astore 5, 2) := do_58 (rdb (p := 0) (i := 30) ch_cX10_heardYards_0 rfl) (rdb (p := 0) (i := 31) ch_cX10_heardYards_0 rfl)
theorem ch_cX10_heardYards_32 : (cX10_heardYards.data.toList.drop 32).take 36 = [42, 180, 0, 10, 28, 29, 21, 4, 184, 0, 84, 182, 0, 95, 54, 6, 42, 180, 0, 19, 25, 5, 182, 0, 99, 21, 6, 25, 5, 182, 0, 102, 21, 4, 29, 182] := by decide +kernel
theorem dX10_heardYards_32 : decode cX10_heardYards 32 = .ok (.aload_n 0, 1) := do_42 (rdb (p := 32) (i := 0) ch_cX10_heardYards_32 rfl)
theorem dX10_heardYards_33 : decode cX10_heardYards 33 = .ok (.getfield 10, 3) := do_180 (rdb (p := 32) (i := 1) ch_cX10_heardYards_32 rfl) (rdb (p := 32) (i := 2) ch_cX10_heardYards_32 rfl) (rdb (p := 32) (i := 3) ch_cX10_heardYards_32 rfl) rfl
theorem dX10_heardYards_36 : decode cX10_heardYards 36 = .ok (.iload_n 2, 1) := do_28 (rdb (p := 32) (i := 4) ch_cX10_heardYards_32 rfl)
theorem dX10_heardYards_37 : decode cX10_heardYards 37 = .ok (.iload_n 3, 1) := do_29 (rdb (p := 32) (i := 5) ch_cX10_heardYards_32 rfl)
theorem dX10_heardYards_38 : decode cX10_heardYards 38 = .ok (.iload 4, 2) := do_21 (rdb (p := 32) (i := 6) ch_cX10_heardYards_32 rfl) (rdb (p := 32) (i := 7) ch_cX10_heardYards_32 rfl)
theorem dX10_heardYards_40 : decode cX10_heardYards 40 = .ok (.invokestatic 84, 3) := do_184 (rdb (p := 32) (i := 8) ch_cX10_heardYards_32 rfl) (rdb (p := 32) (i := 9) ch_cX10_heardYards_32 rfl) (rdb (p := 32) (i := 10) ch_cX10_heardYards_32 rfl) rfl
theorem dX10_heardYards_43 : decode cX10_heardYards 43 = .ok (.invokevirtual 95, 3) := do_182 (rdb (p := 32) (i := 11) ch_cX10_heardYards_32 rfl) (rdb (p := 32) (i := 12) ch_cX10_heardYards_32 rfl) (rdb (p := 32) (i := 13) ch_cX10_heardYards_32 rfl) rfl
theorem dX10_heardYards_46 : decode cX10_heardYards 46 = .ok (.istore 6, 2) := do_54 (rdb (p := 32) (i := 14) ch_cX10_heardYards_32 rfl) (rdb (p := 32) (i := 15) ch_cX10_heardYards_32 rfl)
theorem dX10_heardYards_48 : decode cX10_heardYards 48 = .ok (.aload_n 0, 1) := do_42 (rdb (p := 32) (i := 16) ch_cX10_heardYards_32 rfl)
theorem dX10_heardYards_49 : decode cX10_heardYards 49 = .ok (.getfield 19, 3) := do_180 (rdb (p := 32) (i := 17) ch_cX10_heardYards_32 rfl) (rdb (p := 32) (i := 18) ch_cX10_heardYards_32 rfl) (rdb (p := 32) (i := 19) ch_cX10_heardYards_32 rfl) rfl
theorem dX10_heardYards_52 : decode cX10_heardYards 52 = .ok (.aload 5, 2) := do_25 (rdb (p := 32) (i := 20) ch_cX10_heardYards_32 rfl) (rdb (p := 32) (i := 21) ch_cX10_heardYards_32 rfl)
theorem dX10_heardYards_54 : decode cX10_heardYards 54 = .ok (.invokevirtual 99, 3) := do_182 (rdb (p := 32) (i := 22) ch_cX10_heardYards_32 rfl) (rdb (p := 32) (i := 23) ch_cX10_heardYards_32 rfl) (rdb (p := 32) (i := 24) ch_cX10_heardYards_32 rfl) rfl
theorem dX10_heardYards_57 : decode cX10_heardYards 57 = .ok (.iload 6, 2) := do_21 (rdb (p := 32) (i := 25) ch_cX10_heardYards_32 rfl) (rdb (p := 32) (i := 26) ch_cX10_heardYards_32 rfl)
theorem dX10_heardYards_59 : decode cX10_heardYards 59 = .ok (.aload 5, 2) := do_25 (rdb (p := 32) (i := 27) ch_cX10_heardYards_32 rfl) (rdb (p := 32) (i := 28) ch_cX10_heardYards_32 rfl)
theorem dX10_heardYards_61 : decode cX10_heardYards 61 = .ok (.invokevirtual 102, 3) := do_182 (rdb (p := 32) (i := 29) ch_cX10_heardYards_32 rfl) (rdb (p := 32) (i := 30) ch_cX10_heardYards_32 rfl) (rdb (p := 32) (i := 31) ch_cX10_heardYards_32 rfl) rfl
theorem ch_cX10_heardYards_64 : (cX10_heardYards.data.toList.drop 64).take 36 = [21, 4, 29, 182, 0, 105, 153, 0, 8, 21, 4, 167, 0, 4, 3, 172] := by decide +kernel
theorem dX10_heardYards_64 : decode cX10_heardYards 64 = .ok (.iload 4, 2) := do_21 (rdb (p := 64) (i := 0) ch_cX10_heardYards_64 rfl) (rdb (p := 64) (i := 1) ch_cX10_heardYards_64 rfl)
theorem dX10_heardYards_66 : decode cX10_heardYards 66 = .ok (.iload_n 3, 1) := do_29 (rdb (p := 64) (i := 2) ch_cX10_heardYards_64 rfl)
theorem dX10_heardYards_67 : decode cX10_heardYards 67 = .ok (.invokevirtual 105, 3) := do_182 (rdb (p := 64) (i := 3) ch_cX10_heardYards_64 rfl) (rdb (p := 64) (i := 4) ch_cX10_heardYards_64 rfl) (rdb (p := 64) (i := 5) ch_cX10_heardYards_64 rfl) rfl
theorem dX10_heardYards_70 : decode cX10_heardYards 70 = .ok (.ifCond .eq 8, 3) := do_153 (rdb (p := 64) (i := 6) ch_cX10_heardYards_64 rfl) (rdb (p := 64) (i := 7) ch_cX10_heardYards_64 rfl) (rdb (p := 64) (i := 8) ch_cX10_heardYards_64 rfl) (by decide +kernel)
theorem dX10_heardYards_73 : decode cX10_heardYards 73 = .ok (.iload 4, 2) := do_21 (rdb (p := 64) (i := 9) ch_cX10_heardYards_64 rfl) (rdb (p := 64) (i := 10) ch_cX10_heardYards_64 rfl)
theorem dX10_heardYards_75 : decode cX10_heardYards 75 = .ok (.goto 4, 3) := do_167 (rdb (p := 64) (i := 11) ch_cX10_heardYards_64 rfl) (rdb (p := 64) (i := 12) ch_cX10_heardYards_64 rfl) (rdb (p := 64) (i := 13) ch_cX10_heardYards_64 rfl) (by decide +kernel)
theorem dX10_heardYards_78 : decode cX10_heardYards 78 = .ok (.iconst 0, 1) := do_3 (rdb (p := 64) (i := 14) ch_cX10_heardYards_64 rfl)
theorem dX10_heardYards_79 : decode cX10_heardYards 79 = .ok (.ireturn, 1) := do_172 (rdb (p := 64) (i := 15) ch_cX10_heardYards_64 rfl)
theorem ch_cX10_isFreeBut_0 : (cX10_isFreeBut.data.toList.drop 0).take 36 = [28, 155, 0, 10, 28, 17, 0, 192, 161, 0, 5, 3, 172, 42, 180, 0, 10, 180, 0, 72, 28, 46, 62, 29, 2, 159, 0, 11, 29, 16, 100, 27, 96, 160, 0, 7] := by decide +kernel
theorem dX10_isFreeBut_0 : decode cX10_isFreeBut 0 = .ok (.iload_n 2, 1) := do_28 (rdb (p := 0) (i := 0) ch_cX10_isFreeBut_0 rfl)
theorem dX10_isFreeBut_1 : decode cX10_isFreeBut 1 = .ok (.ifCond .lt 10, 3) := do_155 (rdb (p := 0) (i := 1) ch_cX10_isFreeBut_0 rfl) (rdb (p := 0) (i := 2) ch_cX10_isFreeBut_0 rfl) (rdb (p := 0) (i := 3) ch_cX10_isFreeBut_0 rfl) (by decide +kernel)
theorem dX10_isFreeBut_4 : decode cX10_isFreeBut 4 = .ok (.iload_n 2, 1) := do_28 (rdb (p := 0) (i := 4) ch_cX10_isFreeBut_0 rfl)
theorem dX10_isFreeBut_5 : decode cX10_isFreeBut 5 = .ok (.sipush 192, 3) := do_17 (rdb (p := 0) (i := 5) ch_cX10_isFreeBut_0 rfl) (rdb (p := 0) (i := 6) ch_cX10_isFreeBut_0 rfl) (rdb (p := 0) (i := 7) ch_cX10_isFreeBut_0 rfl) (by decide +kernel)
theorem dX10_isFreeBut_8 : decode cX10_isFreeBut 8 = .ok (.if_icmp .lt 5, 3) := do_161 (rdb (p := 0) (i := 8) ch_cX10_isFreeBut_0 rfl) (rdb (p := 0) (i := 9) ch_cX10_isFreeBut_0 rfl) (rdb (p := 0) (i := 10) ch_cX10_isFreeBut_0 rfl) (by decide +kernel)
theorem dX10_isFreeBut_11 : decode cX10_isFreeBut 11 = .ok (.iconst 0, 1) := do_3 (rdb (p := 0) (i := 11) ch_cX10_isFreeBut_0 rfl)
theorem dX10_isFreeBut_12 : decode cX10_isFreeBut 12 = .ok (.ireturn, 1) := do_172 (rdb (p := 0) (i := 12) ch_cX10_isFreeBut_0 rfl)
theorem dX10_isFreeBut_13 : decode cX10_isFreeBut 13 = .ok (.aload_n 0, 1) := do_42 (rdb (p := 0) (i := 13) ch_cX10_isFreeBut_0 rfl)
theorem dX10_isFreeBut_14 : decode cX10_isFreeBut 14 = .ok (.getfield 10, 3) := do_180 (rdb (p := 0) (i := 14) ch_cX10_isFreeBut_0 rfl) (rdb (p := 0) (i := 15) ch_cX10_isFreeBut_0 rfl) (rdb (p := 0) (i := 16) ch_cX10_isFreeBut_0 rfl) rfl
theorem dX10_isFreeBut_17 : decode cX10_isFreeBut 17 = .ok (.getfield 72, 3) := do_180 (rdb (p := 0) (i := 17) ch_cX10_isFreeBut_0 rfl) (rdb (p := 0) (i := 18) ch_cX10_isFreeBut_0 rfl) (rdb (p := 0) (i := 19) ch_cX10_isFreeBut_0 rfl) rfl
theorem dX10_isFreeBut_20 : decode cX10_isFreeBut 20 = .ok (.iload_n 2, 1) := do_28 (rdb (p := 0) (i := 20) ch_cX10_isFreeBut_0 rfl)
theorem dX10_isFreeBut_21 : decode cX10_isFreeBut 21 = .ok (.iaload, 1) := do_46 (rdb (p := 0) (i := 21) ch_cX10_isFreeBut_0 rfl)
theorem dX10_isFreeBut_22 : decode cX10_isFreeBut 22 = .ok (.istore_n 3, 1) := do_62 (rdb (p := 0) (i := 22) ch_cX10_isFreeBut_0 rfl)
theorem dX10_isFreeBut_23 : decode cX10_isFreeBut 23 = .ok (.iload_n 3, 1) := do_29 (rdb (p := 0) (i := 23) ch_cX10_isFreeBut_0 rfl)
theorem dX10_isFreeBut_24 : decode cX10_isFreeBut 24 = .ok (.iconst (-1), 1) := do_2 (rdb (p := 0) (i := 24) ch_cX10_isFreeBut_0 rfl)
theorem dX10_isFreeBut_25 : decode cX10_isFreeBut 25 = .ok (.if_icmp .eq 11, 3) := do_159 (rdb (p := 0) (i := 25) ch_cX10_isFreeBut_0 rfl) (rdb (p := 0) (i := 26) ch_cX10_isFreeBut_0 rfl) (rdb (p := 0) (i := 27) ch_cX10_isFreeBut_0 rfl) (by decide +kernel)
theorem dX10_isFreeBut_28 : decode cX10_isFreeBut 28 = .ok (.iload_n 3, 1) := do_29 (rdb (p := 0) (i := 28) ch_cX10_isFreeBut_0 rfl)
theorem dX10_isFreeBut_29 : decode cX10_isFreeBut 29 = .ok (.bipush 100, 2) := do_16 (rdb (p := 0) (i := 29) ch_cX10_isFreeBut_0 rfl) (rdb (p := 0) (i := 30) ch_cX10_isFreeBut_0 rfl) (by decide +kernel)
theorem dX10_isFreeBut_31 : decode cX10_isFreeBut 31 = .ok (.iload_n 1, 1) := do_27 (rdb (p := 0) (i := 31) ch_cX10_isFreeBut_0 rfl)
theorem ch_cX10_isFreeBut_32 : (cX10_isFreeBut.data.toList.drop 32).take 36 = [96, 160, 0, 7, 4, 167, 0, 4, 3, 172] := by decide +kernel
theorem dX10_isFreeBut_32 : decode cX10_isFreeBut 32 = .ok (.iadd, 1) := do_96 (rdb (p := 32) (i := 0) ch_cX10_isFreeBut_32 rfl)
theorem dX10_isFreeBut_33 : decode cX10_isFreeBut 33 = .ok (.if_icmp .ne 7, 3) := do_160 (rdb (p := 32) (i := 1) ch_cX10_isFreeBut_32 rfl) (rdb (p := 32) (i := 2) ch_cX10_isFreeBut_32 rfl) (rdb (p := 32) (i := 3) ch_cX10_isFreeBut_32 rfl) (by decide +kernel)
theorem dX10_isFreeBut_36 : decode cX10_isFreeBut 36 = .ok (.iconst 1, 1) := do_4 (rdb (p := 32) (i := 4) ch_cX10_isFreeBut_32 rfl)
theorem dX10_isFreeBut_37 : decode cX10_isFreeBut 37 = .ok (.goto 4, 3) := do_167 (rdb (p := 32) (i := 5) ch_cX10_isFreeBut_32 rfl) (rdb (p := 32) (i := 6) ch_cX10_isFreeBut_32 rfl) (rdb (p := 32) (i := 7) ch_cX10_isFreeBut_32 rfl) (by decide +kernel)
theorem dX10_isFreeBut_40 : decode cX10_isFreeBut 40 = .ok (.iconst 0, 1) := do_3 (rdb (p := 32) (i := 8) ch_cX10_isFreeBut_32 rfl)
theorem dX10_isFreeBut_41 : decode cX10_isFreeBut 41 = .ok (.ireturn, 1) := do_172 (rdb (p := 32) (i := 9) ch_cX10_isFreeBut_32 rfl)
theorem ch_cX10_letWalkerGo_0 : (cX10_letWalkerGo.data.toList.drop 0).take 36 = [42, 27, 182, 0, 76, 154, 0, 4, 177, 42, 180, 0, 46, 27, 50, 77, 44, 180, 0, 151, 62, 29, 158, 0, 26, 42, 180, 0, 54, 29, 112, 154, 0, 17, 44, 4] := by decide +kernel
theorem dX10_letWalkerGo_0 : decode cX10_letWalkerGo 0 = .ok (.aload_n 0, 1) := do_42 (rdb (p := 0) (i := 0) ch_cX10_letWalkerGo_0 rfl)
theorem dX10_letWalkerGo_1 : decode cX10_letWalkerGo 1 = .ok (.iload_n 1, 1) := do_27 (rdb (p := 0) (i := 1) ch_cX10_letWalkerGo_0 rfl)
theorem dX10_letWalkerGo_2 : decode cX10_letWalkerGo 2 = .ok (.invokevirtual 76, 3) := do_182 (rdb (p := 0) (i := 2) ch_cX10_letWalkerGo_0 rfl) (rdb (p := 0) (i := 3) ch_cX10_letWalkerGo_0 rfl) (rdb (p := 0) (i := 4) ch_cX10_letWalkerGo_0 rfl) rfl
theorem dX10_letWalkerGo_5 : decode cX10_letWalkerGo 5 = .ok (.ifCond .ne 4, 3) := do_154 (rdb (p := 0) (i := 5) ch_cX10_letWalkerGo_0 rfl) (rdb (p := 0) (i := 6) ch_cX10_letWalkerGo_0 rfl) (rdb (p := 0) (i := 7) ch_cX10_letWalkerGo_0 rfl) (by decide +kernel)
theorem dX10_letWalkerGo_8 : decode cX10_letWalkerGo 8 = .ok (.return_, 1) := do_177 (rdb (p := 0) (i := 8) ch_cX10_letWalkerGo_0 rfl)
theorem dX10_letWalkerGo_9 : decode cX10_letWalkerGo 9 = .ok (.aload_n 0, 1) := do_42 (rdb (p := 0) (i := 9) ch_cX10_letWalkerGo_0 rfl)
theorem dX10_letWalkerGo_10 : decode cX10_letWalkerGo 10 = .ok (.getfield 46, 3) := do_180 (rdb (p := 0) (i := 10) ch_cX10_letWalkerGo_0 rfl) (rdb (p := 0) (i := 11) ch_cX10_letWalkerGo_0 rfl) (rdb (p := 0) (i := 12) ch_cX10_letWalkerGo_0 rfl) rfl
theorem dX10_letWalkerGo_13 : decode cX10_letWalkerGo 13 = .ok (.iload_n 1, 1) := do_27 (rdb (p := 0) (i := 13) ch_cX10_letWalkerGo_0 rfl)
theorem dX10_letWalkerGo_14 : decode cX10_letWalkerGo 14 = .ok (.aaload, 1) := do_50 (rdb (p := 0) (i := 14) ch_cX10_letWalkerGo_0 rfl)
theorem dX10_letWalkerGo_15 : decode cX10_letWalkerGo 15 = .ok (.astore_n 2, 1) := do_77 (rdb (p := 0) (i := 15) ch_cX10_letWalkerGo_0 rfl)
theorem dX10_letWalkerGo_16 : decode cX10_letWalkerGo 16 = .ok (.aload_n 2, 1) := do_44 (rdb (p := 0) (i := 16) ch_cX10_letWalkerGo_0 rfl)
theorem dX10_letWalkerGo_17 : decode cX10_letWalkerGo 17 = .ok (.getfield 151, 3) := do_180 (rdb (p := 0) (i := 17) ch_cX10_letWalkerGo_0 rfl) (rdb (p := 0) (i := 18) ch_cX10_letWalkerGo_0 rfl) (rdb (p := 0) (i := 19) ch_cX10_letWalkerGo_0 rfl) rfl
theorem dX10_letWalkerGo_20 : decode cX10_letWalkerGo 20 = .ok (.istore_n 3, 1) := do_62 (rdb (p := 0) (i := 20) ch_cX10_letWalkerGo_0 rfl)
theorem dX10_letWalkerGo_21 : decode cX10_letWalkerGo 21 = .ok (.iload_n 3, 1) := do_29 (rdb (p := 0) (i := 21) ch_cX10_letWalkerGo_0 rfl)
theorem dX10_letWalkerGo_22 : decode cX10_letWalkerGo 22 = .ok (.ifCond .le 26, 3) := do_158 (rdb (p := 0) (i := 22) ch_cX10_letWalkerGo_0 rfl) (rdb (p := 0) (i := 23) ch_cX10_letWalkerGo_0 rfl) (rdb (p := 0) (i := 24) ch_cX10_letWalkerGo_0 rfl) (by decide +kernel)
theorem dX10_letWalkerGo_25 : decode cX10_letWalkerGo 25 = .ok (.aload_n 0, 1) := do_42 (rdb (p := 0) (i := 25) ch_cX10_letWalkerGo_0 rfl)
theorem dX10_letWalkerGo_26 : decode cX10_letWalkerGo 26 = .ok (.getfield 54, 3) := do_180 (rdb (p := 0) (i := 26) ch_cX10_letWalkerGo_0 rfl) (rdb (p := 0) (i := 27) ch_cX10_letWalkerGo_0 rfl) (rdb (p := 0) (i := 28) ch_cX10_letWalkerGo_0 rfl) rfl
theorem dX10_letWalkerGo_29 : decode cX10_letWalkerGo 29 = .ok (.iload_n 3, 1) := do_29 (rdb (p := 0) (i := 29) ch_cX10_letWalkerGo_0 rfl)
theorem dX10_letWalkerGo_30 : decode cX10_letWalkerGo 30 = .ok (.irem, 1) := do_112 (rdb (p := 0) (i := 30) ch_cX10_letWalkerGo_0 rfl)
theorem dX10_letWalkerGo_31 : decode cX10_letWalkerGo 31 = .ok (.ifCond .ne 17, 3) := do_154 (rdb (p := 0) (i := 31) ch_cX10_letWalkerGo_0 rfl) (rdb (p := 0) (i := 32) ch_cX10_letWalkerGo_0 rfl) (rdb (p := 0) (i := 33) ch_cX10_letWalkerGo_0 rfl) (by decide +kernel)
theorem ch_cX10_letWalkerGo_32 : (cX10_letWalkerGo.data.toList.drop 32).take 36 = [0, 17, 44, 4, 182, 0, 154, 153, 0, 9, 42, 27, 182, 0, 157, 87, 44, 44, 180, 0, 119, 182, 0, 160, 54, 4, 44, 44, 180, 0, 119, 16, 6, 96, 16, 7] := by decide +kernel
theorem dX10_letWalkerGo_34 : decode cX10_letWalkerGo 34 = .ok (.aload_n 2, 1) := do_44 (rdb (p := 32) (i := 2) ch_cX10_letWalkerGo_32 rfl)
theorem dX10_letWalkerGo_35 : decode cX10_letWalkerGo 35 = .ok (.iconst 1, 1) := do_4 (rdb (p := 32) (i := 3) ch_cX10_letWalkerGo_32 rfl)
theorem dX10_letWalkerGo_36 : decode cX10_letWalkerGo 36 = .ok (.invokevirtual 154, 3) := do_182 (rdb (p := 32) (i := 4) ch_cX10_letWalkerGo_32 rfl) (rdb (p := 32) (i := 5) ch_cX10_letWalkerGo_32 rfl) (rdb (p := 32) (i := 6) ch_cX10_letWalkerGo_32 rfl) rfl
theorem dX10_letWalkerGo_39 : decode cX10_letWalkerGo 39 = .ok (.ifCond .eq 9, 3) := do_153 (rdb (p := 32) (i := 7) ch_cX10_letWalkerGo_32 rfl) (rdb (p := 32) (i := 8) ch_cX10_letWalkerGo_32 rfl) (rdb (p := 32) (i := 9) ch_cX10_letWalkerGo_32 rfl) (by decide +kernel)
theorem dX10_letWalkerGo_42 : decode cX10_letWalkerGo 42 = .ok (.aload_n 0, 1) := do_42 (rdb (p := 32) (i := 10) ch_cX10_letWalkerGo_32 rfl)
theorem dX10_letWalkerGo_43 : decode cX10_letWalkerGo 43 = .ok (.iload_n 1, 1) := do_27 (rdb (p := 32) (i := 11) ch_cX10_letWalkerGo_32 rfl)
theorem dX10_letWalkerGo_44 : decode cX10_letWalkerGo 44 = .ok (.invokevirtual 157, 3) := do_182 (rdb (p := 32) (i := 12) ch_cX10_letWalkerGo_32 rfl) (rdb (p := 32) (i := 13) ch_cX10_letWalkerGo_32 rfl) (rdb (p := 32) (i := 14) ch_cX10_letWalkerGo_32 rfl) rfl
theorem dX10_letWalkerGo_47 : decode cX10_letWalkerGo 47 = .ok (.pop, 1) := do_87 (rdb (p := 32) (i := 15) ch_cX10_letWalkerGo_32 rfl)
theorem dX10_letWalkerGo_48 : decode cX10_letWalkerGo 48 = .ok (.aload_n 2, 1) := do_44 (rdb (p := 32) (i := 16) ch_cX10_letWalkerGo_32 rfl)
theorem dX10_letWalkerGo_49 : decode cX10_letWalkerGo 49 = .ok (.aload_n 2, 1) := do_44 (rdb (p := 32) (i := 17) ch_cX10_letWalkerGo_32 rfl)
theorem dX10_letWalkerGo_50 : decode cX10_letWalkerGo 50 = .ok (.getfield 119, 3) := do_180 (rdb (p := 32) (i := 18) ch_cX10_letWalkerGo_32 rfl) (rdb (p := 32) (i := 19) ch_cX10_letWalkerGo_32 rfl) (rdb (p := 32) (i := 20) ch_cX10_letWalkerGo_32 rfl) rfl
theorem dX10_letWalkerGo_53 : decode cX10_letWalkerGo 53 = .ok (.invokevirtual 160, 3) := do_182 (rdb (p := 32) (i := 21) ch_cX10_letWalkerGo_32 rfl) (rdb (p := 32) (i := 22) ch_cX10_letWalkerGo_32 rfl) (rdb (p := 32) (i := 23) ch_cX10_letWalkerGo_32 rfl) rfl
theorem dX10_letWalkerGo_56 : decode cX10_letWalkerGo 56 = .ok (.istore 4, 2) := do_54 (rdb (p := 32) (i := 24) ch_cX10_letWalkerGo_32 rfl) (rdb (p := 32) (i := 25) ch_cX10_letWalkerGo_32 rfl)
theorem dX10_letWalkerGo_58 : decode cX10_letWalkerGo 58 = .ok (.aload_n 2, 1) := do_44 (rdb (p := 32) (i := 26) ch_cX10_letWalkerGo_32 rfl)
theorem dX10_letWalkerGo_59 : decode cX10_letWalkerGo 59 = .ok (.aload_n 2, 1) := do_44 (rdb (p := 32) (i := 27) ch_cX10_letWalkerGo_32 rfl)
theorem dX10_letWalkerGo_60 : decode cX10_letWalkerGo 60 = .ok (.getfield 119, 3) := do_180 (rdb (p := 32) (i := 28) ch_cX10_letWalkerGo_32 rfl) (rdb (p := 32) (i := 29) ch_cX10_letWalkerGo_32 rfl) (rdb (p := 32) (i := 30) ch_cX10_letWalkerGo_32 rfl) rfl
theorem dX10_letWalkerGo_63 : decode cX10_letWalkerGo 63 = .ok (.bipush 6, 2) := do_16 (rdb (p := 32) (i := 31) ch_cX10_letWalkerGo_32 rfl) (rdb (p := 32) (i := 32) ch_cX10_letWalkerGo_32 rfl) (by decide +kernel)
theorem ch_cX10_letWalkerGo_64 : (cX10_letWalkerGo.data.toList.drop 64).take 36 = [6, 96, 16, 7, 126, 182, 0, 160, 54, 5, 44, 44, 180, 0, 119, 5, 96, 16, 7, 126, 182, 0, 160, 54, 6, 42, 180, 0, 19, 21, 4, 21, 5, 21, 6, 44] := by decide +kernel
theorem dX10_letWalkerGo_65 : decode cX10_letWalkerGo 65 = .ok (.iadd, 1) := do_96 (rdb (p := 64) (i := 1) ch_cX10_letWalkerGo_64 rfl)
theorem dX10_letWalkerGo_66 : decode cX10_letWalkerGo 66 = .ok (.bipush 7, 2) := do_16 (rdb (p := 64) (i := 2) ch_cX10_letWalkerGo_64 rfl) (rdb (p := 64) (i := 3) ch_cX10_letWalkerGo_64 rfl) (by decide +kernel)
theorem dX10_letWalkerGo_68 : decode cX10_letWalkerGo 68 = .ok (.iand, 1) := do_126 (rdb (p := 64) (i := 4) ch_cX10_letWalkerGo_64 rfl)
theorem dX10_letWalkerGo_69 : decode cX10_letWalkerGo 69 = .ok (.invokevirtual 160, 3) := do_182 (rdb (p := 64) (i := 5) ch_cX10_letWalkerGo_64 rfl) (rdb (p := 64) (i := 6) ch_cX10_letWalkerGo_64 rfl) (rdb (p := 64) (i := 7) ch_cX10_letWalkerGo_64 rfl) rfl
theorem dX10_letWalkerGo_72 : decode cX10_letWalkerGo 72 = .ok (.istore 5, 2) := do_54 (rdb (p := 64) (i := 8) ch_cX10_letWalkerGo_64 rfl) (rdb (p := 64) (i := 9) ch_cX10_letWalkerGo_64 rfl)
theorem dX10_letWalkerGo_74 : decode cX10_letWalkerGo 74 = .ok (.aload_n 2, 1) := do_44 (rdb (p := 64) (i := 10) ch_cX10_letWalkerGo_64 rfl)
theorem dX10_letWalkerGo_75 : decode cX10_letWalkerGo 75 = .ok (.aload_n 2, 1) := do_44 (rdb (p := 64) (i := 11) ch_cX10_letWalkerGo_64 rfl)
theorem dX10_letWalkerGo_76 : decode cX10_letWalkerGo 76 = .ok (.getfield 119, 3) := do_180 (rdb (p := 64) (i := 12) ch_cX10_letWalkerGo_64 rfl) (rdb (p := 64) (i := 13) ch_cX10_letWalkerGo_64 rfl) (rdb (p := 64) (i := 14) ch_cX10_letWalkerGo_64 rfl) rfl
theorem dX10_letWalkerGo_79 : decode cX10_letWalkerGo 79 = .ok (.iconst 2, 1) := do_5 (rdb (p := 64) (i := 15) ch_cX10_letWalkerGo_64 rfl)
theorem dX10_letWalkerGo_80 : decode cX10_letWalkerGo 80 = .ok (.iadd, 1) := do_96 (rdb (p := 64) (i := 16) ch_cX10_letWalkerGo_64 rfl)
theorem dX10_letWalkerGo_81 : decode cX10_letWalkerGo 81 = .ok (.bipush 7, 2) := do_16 (rdb (p := 64) (i := 17) ch_cX10_letWalkerGo_64 rfl) (rdb (p := 64) (i := 18) ch_cX10_letWalkerGo_64 rfl) (by decide +kernel)
theorem dX10_letWalkerGo_83 : decode cX10_letWalkerGo 83 = .ok (.iand, 1) := do_126 (rdb (p := 64) (i := 19) ch_cX10_letWalkerGo_64 rfl)
theorem dX10_letWalkerGo_84 : decode cX10_letWalkerGo 84 = .ok (.invokevirtual 160, 3) := do_182 (rdb (p := 64) (i := 20) ch_cX10_letWalkerGo_64 rfl) (rdb (p := 64) (i := 21) ch_cX10_letWalkerGo_64 rfl) (rdb (p := 64) (i := 22) ch_cX10_letWalkerGo_64 rfl) rfl
theorem dX10_letWalkerGo_87 : decode cX10_letWalkerGo 87 = .ok (.istore 6, 2) := do_54 (rdb (p := 64) (i := 23) ch_cX10_letWalkerGo_64 rfl) (rdb (p := 64) (i := 24) ch_cX10_letWalkerGo_64 rfl)
theorem dX10_letWalkerGo_89 : decode cX10_letWalkerGo 89 = .ok (.aload_n 0, 1) := do_42 (rdb (p := 64) (i := 25) ch_cX10_letWalkerGo_64 rfl)
theorem dX10_letWalkerGo_90 : decode cX10_letWalkerGo 90 = .ok (.getfield 19, 3) := do_180 (rdb (p := 64) (i := 26) ch_cX10_letWalkerGo_64 rfl) (rdb (p := 64) (i := 27) ch_cX10_letWalkerGo_64 rfl) (rdb (p := 64) (i := 28) ch_cX10_letWalkerGo_64 rfl) rfl
theorem dX10_letWalkerGo_93 : decode cX10_letWalkerGo 93 = .ok (.iload 4, 2) := do_21 (rdb (p := 64) (i := 29) ch_cX10_letWalkerGo_64 rfl) (rdb (p := 64) (i := 30) ch_cX10_letWalkerGo_64 rfl)
theorem dX10_letWalkerGo_95 : decode cX10_letWalkerGo 95 = .ok (.iload 5, 2) := do_21 (rdb (p := 64) (i := 31) ch_cX10_letWalkerGo_64 rfl) (rdb (p := 64) (i := 32) ch_cX10_letWalkerGo_64 rfl)
theorem ch_cX10_letWalkerGo_96 : (cX10_letWalkerGo.data.toList.drop 96).take 36 = [5, 21, 6, 44, 180, 0, 66, 42, 180, 0, 54, 182, 0, 163, 7, 184, 0, 167, 54, 7, 21, 7, 154, 0, 11, 42, 27, 182, 0, 172, 167, 0, 20, 44, 21, 7] := by decide +kernel
theorem dX10_letWalkerGo_97 : decode cX10_letWalkerGo 97 = .ok (.iload 6, 2) := do_21 (rdb (p := 96) (i := 1) ch_cX10_letWalkerGo_96 rfl) (rdb (p := 96) (i := 2) ch_cX10_letWalkerGo_96 rfl)
theorem dX10_letWalkerGo_99 : decode cX10_letWalkerGo 99 = .ok (.aload_n 2, 1) := do_44 (rdb (p := 96) (i := 3) ch_cX10_letWalkerGo_96 rfl)
theorem dX10_letWalkerGo_100 : decode cX10_letWalkerGo 100 = .ok (.getfield 66, 3) := do_180 (rdb (p := 96) (i := 4) ch_cX10_letWalkerGo_96 rfl) (rdb (p := 96) (i := 5) ch_cX10_letWalkerGo_96 rfl) (rdb (p := 96) (i := 6) ch_cX10_letWalkerGo_96 rfl) rfl
theorem dX10_letWalkerGo_103 : decode cX10_letWalkerGo 103 = .ok (.aload_n 0, 1) := do_42 (rdb (p := 96) (i := 7) ch_cX10_letWalkerGo_96 rfl)
theorem dX10_letWalkerGo_104 : decode cX10_letWalkerGo 104 = .ok (.getfield 54, 3) := do_180 (rdb (p := 96) (i := 8) ch_cX10_letWalkerGo_96 rfl) (rdb (p := 96) (i := 9) ch_cX10_letWalkerGo_96 rfl) (rdb (p := 96) (i := 10) ch_cX10_letWalkerGo_96 rfl) rfl
theorem dX10_letWalkerGo_107 : decode cX10_letWalkerGo 107 = .ok (.invokevirtual 163, 3) := do_182 (rdb (p := 96) (i := 11) ch_cX10_letWalkerGo_96 rfl) (rdb (p := 96) (i := 12) ch_cX10_letWalkerGo_96 rfl) (rdb (p := 96) (i := 13) ch_cX10_letWalkerGo_96 rfl) rfl
theorem dX10_letWalkerGo_110 : decode cX10_letWalkerGo 110 = .ok (.iconst 4, 1) := do_7 (rdb (p := 96) (i := 14) ch_cX10_letWalkerGo_96 rfl)
theorem dX10_letWalkerGo_111 : decode cX10_letWalkerGo 111 = .ok (.invokestatic 167, 3) := do_184 (rdb (p := 96) (i := 15) ch_cX10_letWalkerGo_96 rfl) (rdb (p := 96) (i := 16) ch_cX10_letWalkerGo_96 rfl) (rdb (p := 96) (i := 17) ch_cX10_letWalkerGo_96 rfl) rfl
theorem dX10_letWalkerGo_114 : decode cX10_letWalkerGo 114 = .ok (.istore 7, 2) := do_54 (rdb (p := 96) (i := 18) ch_cX10_letWalkerGo_96 rfl) (rdb (p := 96) (i := 19) ch_cX10_letWalkerGo_96 rfl)
theorem dX10_letWalkerGo_116 : decode cX10_letWalkerGo 116 = .ok (.iload 7, 2) := do_21 (rdb (p := 96) (i := 20) ch_cX10_letWalkerGo_96 rfl) (rdb (p := 96) (i := 21) ch_cX10_letWalkerGo_96 rfl)
theorem dX10_letWalkerGo_118 : decode cX10_letWalkerGo 118 = .ok (.ifCond .ne 11, 3) := do_154 (rdb (p := 96) (i := 22) ch_cX10_letWalkerGo_96 rfl) (rdb (p := 96) (i := 23) ch_cX10_letWalkerGo_96 rfl) (rdb (p := 96) (i := 24) ch_cX10_letWalkerGo_96 rfl) (by decide +kernel)
theorem dX10_letWalkerGo_121 : decode cX10_letWalkerGo 121 = .ok (.aload_n 0, 1) := do_42 (rdb (p := 96) (i := 25) ch_cX10_letWalkerGo_96 rfl)
theorem dX10_letWalkerGo_122 : decode cX10_letWalkerGo 122 = .ok (.iload_n 1, 1) := do_27 (rdb (p := 96) (i := 26) ch_cX10_letWalkerGo_96 rfl)
theorem dX10_letWalkerGo_123 : decode cX10_letWalkerGo 123 = .ok (.invokevirtual 172, 3) := do_182 (rdb (p := 96) (i := 27) ch_cX10_letWalkerGo_96 rfl) (rdb (p := 96) (i := 28) ch_cX10_letWalkerGo_96 rfl) (rdb (p := 96) (i := 29) ch_cX10_letWalkerGo_96 rfl) rfl
theorem dX10_letWalkerGo_126 : decode cX10_letWalkerGo 126 = .ok (.goto 20, 3) := do_167 (rdb (p := 96) (i := 30) ch_cX10_letWalkerGo_96 rfl) (rdb (p := 96) (i := 31) ch_cX10_letWalkerGo_96 rfl) (rdb (p := 96) (i := 32) ch_cX10_letWalkerGo_96 rfl) (by decide +kernel)
theorem ch_cX10_letWalkerGo_128 : (cX10_letWalkerGo.data.toList.drop 128).take 36 = [20, 44, 21, 7, 6, 160, 0, 8, 16, 254, 167, 0, 5, 21, 7, 182, 0, 175, 177] := by decide +kernel
theorem dX10_letWalkerGo_129 : decode cX10_letWalkerGo 129 = .ok (.aload_n 2, 1) := do_44 (rdb (p := 128) (i := 1) ch_cX10_letWalkerGo_128 rfl)
theorem dX10_letWalkerGo_130 : decode cX10_letWalkerGo 130 = .ok (.iload 7, 2) := do_21 (rdb (p := 128) (i := 2) ch_cX10_letWalkerGo_128 rfl) (rdb (p := 128) (i := 3) ch_cX10_letWalkerGo_128 rfl)
theorem dX10_letWalkerGo_132 : decode cX10_letWalkerGo 132 = .ok (.iconst 3, 1) := do_6 (rdb (p := 128) (i := 4) ch_cX10_letWalkerGo_128 rfl)
theorem dX10_letWalkerGo_133 : decode cX10_letWalkerGo 133 = .ok (.if_icmp .ne 8, 3) := do_160 (rdb (p := 128) (i := 5) ch_cX10_letWalkerGo_128 rfl) (rdb (p := 128) (i := 6) ch_cX10_letWalkerGo_128 rfl) (rdb (p := 128) (i := 7) ch_cX10_letWalkerGo_128 rfl) (by decide +kernel)
theorem dX10_letWalkerGo_136 : decode cX10_letWalkerGo 136 = .ok (.bipush (-2), 2) := do_16 (rdb (p := 128) (i := 8) ch_cX10_letWalkerGo_128 rfl) (rdb (p := 128) (i := 9) ch_cX10_letWalkerGo_128 rfl) (by decide +kernel)
theorem dX10_letWalkerGo_138 : decode cX10_letWalkerGo 138 = .ok (.goto 5, 3) := do_167 (rdb (p := 128) (i := 10) ch_cX10_letWalkerGo_128 rfl) (rdb (p := 128) (i := 11) ch_cX10_letWalkerGo_128 rfl) (rdb (p := 128) (i := 12) ch_cX10_letWalkerGo_128 rfl) (by decide +kernel)
theorem dX10_letWalkerGo_141 : decode cX10_letWalkerGo 141 = .ok (.iload 7, 2) := do_21 (rdb (p := 128) (i := 13) ch_cX10_letWalkerGo_128 rfl) (rdb (p := 128) (i := 14) ch_cX10_letWalkerGo_128 rfl)
theorem dX10_letWalkerGo_143 : decode cX10_letWalkerGo 143 = .ok (.invokevirtual 175, 3) := do_182 (rdb (p := 128) (i := 15) ch_cX10_letWalkerGo_128 rfl) (rdb (p := 128) (i := 16) ch_cX10_letWalkerGo_128 rfl) (rdb (p := 128) (i := 17) ch_cX10_letWalkerGo_128 rfl) rfl
theorem dX10_letWalkerGo_146 : decode cX10_letWalkerGo 146 = .ok (.return_, 1) := do_177 (rdb (p := 128) (i := 18) ch_cX10_letWalkerGo_128 rfl)
theorem ch_cX10_makeClick_0 : (cX10_makeClick.data.toList.drop 0).take 36 = [42, 27, 182, 0, 76, 154, 0, 5, 3, 172, 42, 180, 0, 46, 27, 50, 77, 44, 89, 180, 0, 69, 4, 96, 181, 0, 69, 3, 62, 3, 54, 4, 21, 4, 16, 8] := by decide +kernel
theorem dX10_makeClick_0 : decode cX10_makeClick 0 = .ok (.aload_n 0, 1) := do_42 (rdb (p := 0) (i := 0) ch_cX10_makeClick_0 rfl)
theorem dX10_makeClick_1 : decode cX10_makeClick 1 = .ok (.iload_n 1, 1) := do_27 (rdb (p := 0) (i := 1) ch_cX10_makeClick_0 rfl)
theorem dX10_makeClick_2 : decode cX10_makeClick 2 = .ok (.invokevirtual 76, 3) := do_182 (rdb (p := 0) (i := 2) ch_cX10_makeClick_0 rfl) (rdb (p := 0) (i := 3) ch_cX10_makeClick_0 rfl) (rdb (p := 0) (i := 4) ch_cX10_makeClick_0 rfl) rfl
theorem dX10_makeClick_5 : decode cX10_makeClick 5 = .ok (.ifCond .ne 5, 3) := do_154 (rdb (p := 0) (i := 5) ch_cX10_makeClick_0 rfl) (rdb (p := 0) (i := 6) ch_cX10_makeClick_0 rfl) (rdb (p := 0) (i := 7) ch_cX10_makeClick_0 rfl) (by decide +kernel)
theorem dX10_makeClick_8 : decode cX10_makeClick 8 = .ok (.iconst 0, 1) := do_3 (rdb (p := 0) (i := 8) ch_cX10_makeClick_0 rfl)
theorem dX10_makeClick_9 : decode cX10_makeClick 9 = .ok (.ireturn, 1) := do_172 (rdb (p := 0) (i := 9) ch_cX10_makeClick_0 rfl)
theorem dX10_makeClick_10 : decode cX10_makeClick 10 = .ok (.aload_n 0, 1) := do_42 (rdb (p := 0) (i := 10) ch_cX10_makeClick_0 rfl)
theorem dX10_makeClick_11 : decode cX10_makeClick 11 = .ok (.getfield 46, 3) := do_180 (rdb (p := 0) (i := 11) ch_cX10_makeClick_0 rfl) (rdb (p := 0) (i := 12) ch_cX10_makeClick_0 rfl) (rdb (p := 0) (i := 13) ch_cX10_makeClick_0 rfl) rfl
theorem dX10_makeClick_14 : decode cX10_makeClick 14 = .ok (.iload_n 1, 1) := do_27 (rdb (p := 0) (i := 14) ch_cX10_makeClick_0 rfl)
theorem dX10_makeClick_15 : decode cX10_makeClick 15 = .ok (.aaload, 1) := do_50 (rdb (p := 0) (i := 15) ch_cX10_makeClick_0 rfl)
theorem dX10_makeClick_16 : decode cX10_makeClick 16 = .ok (.astore_n 2, 1) := do_77 (rdb (p := 0) (i := 16) ch_cX10_makeClick_0 rfl)
theorem dX10_makeClick_17 : decode cX10_makeClick 17 = .ok (.aload_n 2, 1) := do_44 (rdb (p := 0) (i := 17) ch_cX10_makeClick_0 rfl)
theorem dX10_makeClick_18 : decode cX10_makeClick 18 = .ok (.dup, 1) := do_89 (rdb (p := 0) (i := 18) ch_cX10_makeClick_0 rfl)
theorem dX10_makeClick_19 : decode cX10_makeClick 19 = .ok (.getfield 69, 3) := do_180 (rdb (p := 0) (i := 19) ch_cX10_makeClick_0 rfl) (rdb (p := 0) (i := 20) ch_cX10_makeClick_0 rfl) (rdb (p := 0) (i := 21) ch_cX10_makeClick_0 rfl) rfl
theorem dX10_makeClick_22 : decode cX10_makeClick 22 = .ok (.iconst 1, 1) := do_4 (rdb (p := 0) (i := 22) ch_cX10_makeClick_0 rfl)
theorem dX10_makeClick_23 : decode cX10_makeClick 23 = .ok (.iadd, 1) := do_96 (rdb (p := 0) (i := 23) ch_cX10_makeClick_0 rfl)
theorem dX10_makeClick_24 : decode cX10_makeClick 24 = .ok (.putfield 69, 3) := do_181 (rdb (p := 0) (i := 24) ch_cX10_makeClick_0 rfl) (rdb (p := 0) (i := 25) ch_cX10_makeClick_0 rfl) (rdb (p := 0) (i := 26) ch_cX10_makeClick_0 rfl) rfl
theorem dX10_makeClick_27 : decode cX10_makeClick 27 = .ok (.iconst 0, 1) := do_3 (rdb (p := 0) (i := 27) ch_cX10_makeClick_0 rfl)
theorem dX10_makeClick_28 : decode cX10_makeClick 28 = .ok (.istore_n 3, 1) := do_62 (rdb (p := 0) (i := 28) ch_cX10_makeClick_0 rfl)
theorem dX10_makeClick_29 : decode cX10_makeClick 29 = .ok (.iconst 0, 1) := do_3 (rdb (p := 0) (i := 29) ch_cX10_makeClick_0 rfl)
theorem dX10_makeClick_30 : decode cX10_makeClick 30 = .ok (.istore 4, 2) := do_54 (rdb (p := 0) (i := 30) ch_cX10_makeClick_0 rfl) (rdb (p := 0) (i := 31) ch_cX10_makeClick_0 rfl)
theorem ch_cX10_makeClick_32 : (cX10_makeClick.data.toList.drop 32).take 36 = [21, 4, 16, 8, 162, 0, 77, 42, 27, 44, 180, 0, 109, 21, 4, 182, 0, 126, 54, 5, 21, 5, 158, 0, 22, 132, 3, 1, 44, 44, 180, 0, 109, 21, 4, 21] := by decide +kernel
theorem dX10_makeClick_32 : decode cX10_makeClick 32 = .ok (.iload 4, 2) := do_21 (rdb (p := 32) (i := 0) ch_cX10_makeClick_32 rfl) (rdb (p := 32) (i := 1) ch_cX10_makeClick_32 rfl)
theorem dX10_makeClick_34 : decode cX10_makeClick 34 = .ok (.bipush 8, 2) := do_16 (rdb (p := 32) (i := 2) ch_cX10_makeClick_32 rfl) (rdb (p := 32) (i := 3) ch_cX10_makeClick_32 rfl) (by decide +kernel)
theorem dX10_makeClick_36 : decode cX10_makeClick 36 = .ok (.if_icmp .ge 77, 3) := do_162 (rdb (p := 32) (i := 4) ch_cX10_makeClick_32 rfl) (rdb (p := 32) (i := 5) ch_cX10_makeClick_32 rfl) (rdb (p := 32) (i := 6) ch_cX10_makeClick_32 rfl) (by decide +kernel)
theorem dX10_makeClick_39 : decode cX10_makeClick 39 = .ok (.aload_n 0, 1) := do_42 (rdb (p := 32) (i := 7) ch_cX10_makeClick_32 rfl)
theorem dX10_makeClick_40 : decode cX10_makeClick 40 = .ok (.iload_n 1, 1) := do_27 (rdb (p := 32) (i := 8) ch_cX10_makeClick_32 rfl)
theorem dX10_makeClick_41 : decode cX10_makeClick 41 = .ok (.aload_n 2, 1) := do_44 (rdb (p := 32) (i := 9) ch_cX10_makeClick_32 rfl)
theorem dX10_makeClick_42 : decode cX10_makeClick 42 = .ok (.getfield 109, 3) := do_180 (rdb (p := 32) (i := 10) ch_cX10_makeClick_32 rfl) (rdb (p := 32) (i := 11) ch_cX10_makeClick_32 rfl) (rdb (p := 32) (i := 12) ch_cX10_makeClick_32 rfl) rfl
theorem dX10_makeClick_45 : decode cX10_makeClick 45 = .ok (.iload 4, 2) := do_21 (rdb (p := 32) (i := 13) ch_cX10_makeClick_32 rfl) (rdb (p := 32) (i := 14) ch_cX10_makeClick_32 rfl)
theorem dX10_makeClick_47 : decode cX10_makeClick 47 = .ok (.invokevirtual 126, 3) := do_182 (rdb (p := 32) (i := 15) ch_cX10_makeClick_32 rfl) (rdb (p := 32) (i := 16) ch_cX10_makeClick_32 rfl) (rdb (p := 32) (i := 17) ch_cX10_makeClick_32 rfl) rfl
theorem dX10_makeClick_50 : decode cX10_makeClick 50 = .ok (.istore 5, 2) := do_54 (rdb (p := 32) (i := 18) ch_cX10_makeClick_32 rfl) (rdb (p := 32) (i := 19) ch_cX10_makeClick_32 rfl)
theorem dX10_makeClick_52 : decode cX10_makeClick 52 = .ok (.iload 5, 2) := do_21 (rdb (p := 32) (i := 20) ch_cX10_makeClick_32 rfl) (rdb (p := 32) (i := 21) ch_cX10_makeClick_32 rfl)
theorem dX10_makeClick_54 : decode cX10_makeClick 54 = .ok (.ifCond .le 22, 3) := do_158 (rdb (p := 32) (i := 22) ch_cX10_makeClick_32 rfl) (rdb (p := 32) (i := 23) ch_cX10_makeClick_32 rfl) (rdb (p := 32) (i := 24) ch_cX10_makeClick_32 rfl) (by decide +kernel)
theorem dX10_makeClick_57 : decode cX10_makeClick 57 = .ok (.iinc 3 1, 3) := do_132 (rdb (p := 32) (i := 25) ch_cX10_makeClick_32 rfl) (rdb (p := 32) (i := 26) ch_cX10_makeClick_32 rfl) (rdb (p := 32) (i := 27) ch_cX10_makeClick_32 rfl) (by decide +kernel)
theorem dX10_makeClick_60 : decode cX10_makeClick 60 = .ok (.aload_n 2, 1) := do_44 (rdb (p := 32) (i := 28) ch_cX10_makeClick_32 rfl)
theorem dX10_makeClick_61 : decode cX10_makeClick 61 = .ok (.aload_n 2, 1) := do_44 (rdb (p := 32) (i := 29) ch_cX10_makeClick_32 rfl)
theorem dX10_makeClick_62 : decode cX10_makeClick 62 = .ok (.getfield 109, 3) := do_180 (rdb (p := 32) (i := 30) ch_cX10_makeClick_32 rfl) (rdb (p := 32) (i := 31) ch_cX10_makeClick_32 rfl) (rdb (p := 32) (i := 32) ch_cX10_makeClick_32 rfl) rfl
theorem ch_cX10_makeClick_64 : (cX10_makeClick.data.toList.drop 64).take 36 = [109, 21, 4, 21, 5, 184, 0, 84, 4, 182, 0, 129, 4, 54, 6, 21, 6, 21, 5, 162, 0, 24, 44, 44, 180, 0, 109, 21, 4, 21, 6, 184, 0, 84, 182, 0] := by decide +kernel
theorem dX10_makeClick_65 : decode cX10_makeClick 65 = .ok (.iload 4, 2) := do_21 (rdb (p := 64) (i := 1) ch_cX10_makeClick_64 rfl) (rdb (p := 64) (i := 2) ch_cX10_makeClick_64 rfl)
theorem dX10_makeClick_67 : decode cX10_makeClick 67 = .ok (.iload 5, 2) := do_21 (rdb (p := 64) (i := 3) ch_cX10_makeClick_64 rfl) (rdb (p := 64) (i := 4) ch_cX10_makeClick_64 rfl)
theorem dX10_makeClick_69 : decode cX10_makeClick 69 = .ok (.invokestatic 84, 3) := do_184 (rdb (p := 64) (i := 5) ch_cX10_makeClick_64 rfl) (rdb (p := 64) (i := 6) ch_cX10_makeClick_64 rfl) (rdb (p := 64) (i := 7) ch_cX10_makeClick_64 rfl) rfl
theorem dX10_makeClick_72 : decode cX10_makeClick 72 = .ok (.iconst 1, 1) := do_4 (rdb (p := 64) (i := 8) ch_cX10_makeClick_64 rfl)
theorem dX10_makeClick_73 : decode cX10_makeClick 73 = .ok (.invokevirtual 129, 3) := do_182 (rdb (p := 64) (i := 9) ch_cX10_makeClick_64 rfl) (rdb (p := 64) (i := 10) ch_cX10_makeClick_64 rfl) (rdb (p := 64) (i := 11) ch_cX10_makeClick_64 rfl) rfl
theorem dX10_makeClick_76 : decode cX10_makeClick 76 = .ok (.iconst 1, 1) := do_4 (rdb (p := 64) (i := 12) ch_cX10_makeClick_64 rfl)
theorem dX10_makeClick_77 : decode cX10_makeClick 77 = .ok (.istore 6, 2) := do_54 (rdb (p := 64) (i := 13) ch_cX10_makeClick_64 rfl) (rdb (p := 64) (i := 14) ch_cX10_makeClick_64 rfl)
theorem dX10_makeClick_79 : decode cX10_makeClick 79 = .ok (.iload 6, 2) := do_21 (rdb (p := 64) (i := 15) ch_cX10_makeClick_64 rfl) (rdb (p := 64) (i := 16) ch_cX10_makeClick_64 rfl)
theorem dX10_makeClick_81 : decode cX10_makeClick 81 = .ok (.iload 5, 2) := do_21 (rdb (p := 64) (i := 17) ch_cX10_makeClick_64 rfl) (rdb (p := 64) (i := 18) ch_cX10_makeClick_64 rfl)
theorem dX10_makeClick_83 : decode cX10_makeClick 83 = .ok (.if_icmp .ge 24, 3) := do_162 (rdb (p := 64) (i := 19) ch_cX10_makeClick_64 rfl) (rdb (p := 64) (i := 20) ch_cX10_makeClick_64 rfl) (rdb (p := 64) (i := 21) ch_cX10_makeClick_64 rfl) (by decide +kernel)
theorem dX10_makeClick_86 : decode cX10_makeClick 86 = .ok (.aload_n 2, 1) := do_44 (rdb (p := 64) (i := 22) ch_cX10_makeClick_64 rfl)
theorem dX10_makeClick_87 : decode cX10_makeClick 87 = .ok (.aload_n 2, 1) := do_44 (rdb (p := 64) (i := 23) ch_cX10_makeClick_64 rfl)
theorem dX10_makeClick_88 : decode cX10_makeClick 88 = .ok (.getfield 109, 3) := do_180 (rdb (p := 64) (i := 24) ch_cX10_makeClick_64 rfl) (rdb (p := 64) (i := 25) ch_cX10_makeClick_64 rfl) (rdb (p := 64) (i := 26) ch_cX10_makeClick_64 rfl) rfl
theorem dX10_makeClick_91 : decode cX10_makeClick 91 = .ok (.iload 4, 2) := do_21 (rdb (p := 64) (i := 27) ch_cX10_makeClick_64 rfl) (rdb (p := 64) (i := 28) ch_cX10_makeClick_64 rfl)
theorem dX10_makeClick_93 : decode cX10_makeClick 93 = .ok (.iload 6, 2) := do_21 (rdb (p := 64) (i := 29) ch_cX10_makeClick_64 rfl) (rdb (p := 64) (i := 30) ch_cX10_makeClick_64 rfl)
theorem dX10_makeClick_95 : decode cX10_makeClick 95 = .ok (.invokestatic 84, 3) := do_184 (rdb (p := 64) (i := 31) ch_cX10_makeClick_64 rfl) (rdb (p := 64) (i := 32) ch_cX10_makeClick_64 rfl) (rdb (p := 64) (i := 33) ch_cX10_makeClick_64 rfl) rfl
theorem ch_cX10_makeClick_96 : (cX10_makeClick.data.toList.drop 96).take 36 = [0, 84, 182, 0, 132, 132, 6, 1, 167, 255, 231, 132, 4, 1, 167, 255, 178, 29, 172] := by decide +kernel
theorem dX10_makeClick_98 : decode cX10_makeClick 98 = .ok (.invokevirtual 132, 3) := do_182 (rdb (p := 96) (i := 2) ch_cX10_makeClick_96 rfl) (rdb (p := 96) (i := 3) ch_cX10_makeClick_96 rfl) (rdb (p := 96) (i := 4) ch_cX10_makeClick_96 rfl) rfl
theorem dX10_makeClick_101 : decode cX10_makeClick 101 = .ok (.iinc 6 1, 3) := do_132 (rdb (p := 96) (i := 5) ch_cX10_makeClick_96 rfl) (rdb (p := 96) (i := 6) ch_cX10_makeClick_96 rfl) (rdb (p := 96) (i := 7) ch_cX10_makeClick_96 rfl) (by decide +kernel)
theorem dX10_makeClick_104 : decode cX10_makeClick 104 = .ok (.goto (-25), 3) := do_167 (rdb (p := 96) (i := 8) ch_cX10_makeClick_96 rfl) (rdb (p := 96) (i := 9) ch_cX10_makeClick_96 rfl) (rdb (p := 96) (i := 10) ch_cX10_makeClick_96 rfl) (by decide +kernel)
theorem dX10_makeClick_107 : decode cX10_makeClick 107 = .ok (.iinc 4 1, 3) := do_132 (rdb (p := 96) (i := 11) ch_cX10_makeClick_96 rfl) (rdb (p := 96) (i := 12) ch_cX10_makeClick_96 rfl) (rdb (p := 96) (i := 13) ch_cX10_makeClick_96 rfl) (by decide +kernel)
theorem dX10_makeClick_110 : decode cX10_makeClick 110 = .ok (.goto (-78), 3) := do_167 (rdb (p := 96) (i := 14) ch_cX10_makeClick_96 rfl) (rdb (p := 96) (i := 15) ch_cX10_makeClick_96 rfl) (rdb (p := 96) (i := 16) ch_cX10_makeClick_96 rfl) (by decide +kernel)
theorem dX10_makeClick_113 : decode cX10_makeClick 113 = .ok (.iload_n 3, 1) := do_29 (rdb (p := 96) (i := 17) ch_cX10_makeClick_96 rfl)
theorem dX10_makeClick_114 : decode cX10_makeClick 114 = .ok (.ireturn, 1) := do_172 (rdb (p := 96) (i := 18) ch_cX10_makeClick_96 rfl)
theorem ch_cX10_passTenth_0 : (cX10_passTenth.data.toList.drop 0).take 36 = [42, 89, 180, 0, 54, 4, 96, 181, 0, 54, 42, 180, 0, 10, 42, 180, 0, 54, 182, 0, 141, 3, 60, 27, 42, 180, 0, 50, 162, 0, 32, 27, 16, 8, 162, 0] := by decide +kernel
theorem dX10_passTenth_0 : decode cX10_passTenth 0 = .ok (.aload_n 0, 1) := do_42 (rdb (p := 0) (i := 0) ch_cX10_passTenth_0 rfl)
theorem dX10_passTenth_1 : decode cX10_passTenth 1 = .ok (.dup, 1) := do_89 (rdb (p := 0) (i := 1) ch_cX10_passTenth_0 rfl)
theorem dX10_passTenth_2 : decode cX10_passTenth 2 = .ok (.getfield 54, 3) := do_180 (rdb (p := 0) (i := 2) ch_cX10_passTenth_0 rfl) (rdb (p := 0) (i := 3) ch_cX10_passTenth_0 rfl) (rdb (p := 0) (i := 4) ch_cX10_passTenth_0 rfl) rfl
theorem dX10_passTenth_5 : decode cX10_passTenth 5 = .ok (.iconst 1, 1) := do_4 (rdb (p := 0) (i := 5) ch_cX10_passTenth_0 rfl)
theorem dX10_passTenth_6 : decode cX10_passTenth 6 = .ok (.iadd, 1) := do_96 (rdb (p := 0) (i := 6) ch_cX10_passTenth_0 rfl)
theorem dX10_passTenth_7 : decode cX10_passTenth 7 = .ok (.putfield 54, 3) := do_181 (rdb (p := 0) (i := 7) ch_cX10_passTenth_0 rfl) (rdb (p := 0) (i := 8) ch_cX10_passTenth_0 rfl) (rdb (p := 0) (i := 9) ch_cX10_passTenth_0 rfl) rfl
theorem dX10_passTenth_10 : decode cX10_passTenth 10 = .ok (.aload_n 0, 1) := do_42 (rdb (p := 0) (i := 10) ch_cX10_passTenth_0 rfl)
theorem dX10_passTenth_11 : decode cX10_passTenth 11 = .ok (.getfield 10, 3) := do_180 (rdb (p := 0) (i := 11) ch_cX10_passTenth_0 rfl) (rdb (p := 0) (i := 12) ch_cX10_passTenth_0 rfl) (rdb (p := 0) (i := 13) ch_cX10_passTenth_0 rfl) rfl
theorem dX10_passTenth_14 : decode cX10_passTenth 14 = .ok (.aload_n 0, 1) := do_42 (rdb (p := 0) (i := 14) ch_cX10_passTenth_0 rfl)
theorem dX10_passTenth_15 : decode cX10_passTenth 15 = .ok (.getfield 54, 3) := do_180 (rdb (p := 0) (i := 15) ch_cX10_passTenth_0 rfl) (rdb (p := 0) (i := 16) ch_cX10_passTenth_0 rfl) (rdb (p := 0) (i := 17) ch_cX10_passTenth_0 rfl) rfl
theorem dX10_passTenth_18 : decode cX10_passTenth 18 = .ok (.invokevirtual 141, 3) := do_182 (rdb (p := 0) (i := 18) ch_cX10_passTenth_0 rfl) (rdb (p := 0) (i := 19) ch_cX10_passTenth_0 rfl) (rdb (p := 0) (i := 20) ch_cX10_passTenth_0 rfl) rfl
theorem dX10_passTenth_21 : decode cX10_passTenth 21 = .ok (.iconst 0, 1) := do_3 (rdb (p := 0) (i := 21) ch_cX10_passTenth_0 rfl)
theorem dX10_passTenth_22 : decode cX10_passTenth 22 = .ok (.istore_n 1, 1) := do_60 (rdb (p := 0) (i := 22) ch_cX10_passTenth_0 rfl)
theorem dX10_passTenth_23 : decode cX10_passTenth 23 = .ok (.iload_n 1, 1) := do_27 (rdb (p := 0) (i := 23) ch_cX10_passTenth_0 rfl)
theorem dX10_passTenth_24 : decode cX10_passTenth 24 = .ok (.aload_n 0, 1) := do_42 (rdb (p := 0) (i := 24) ch_cX10_passTenth_0 rfl)
theorem dX10_passTenth_25 : decode cX10_passTenth 25 = .ok (.getfield 50, 3) := do_180 (rdb (p := 0) (i := 25) ch_cX10_passTenth_0 rfl) (rdb (p := 0) (i := 26) ch_cX10_passTenth_0 rfl) (rdb (p := 0) (i := 27) ch_cX10_passTenth_0 rfl) rfl
theorem dX10_passTenth_28 : decode cX10_passTenth 28 = .ok (.if_icmp .ge 32, 3) := do_162 (rdb (p := 0) (i := 28) ch_cX10_passTenth_0 rfl) (rdb (p := 0) (i := 29) ch_cX10_passTenth_0 rfl) (rdb (p := 0) (i := 30) ch_cX10_passTenth_0 rfl) (by decide +kernel)
theorem dX10_passTenth_31 : decode cX10_passTenth 31 = .ok (.iload_n 1, 1) := do_27 (rdb (p := 0) (i := 31) ch_cX10_passTenth_0 rfl)
theorem ch_cX10_passTenth_32 : (cX10_passTenth.data.toList.drop 32).take 36 = [16, 8, 162, 0, 26, 42, 180, 0, 46, 27, 50, 180, 0, 144, 153, 0, 8, 42, 27, 182, 0, 148, 132, 1, 1, 167, 255, 222, 177] := by decide +kernel
theorem dX10_passTenth_32 : decode cX10_passTenth 32 = .ok (.bipush 8, 2) := do_16 (rdb (p := 32) (i := 0) ch_cX10_passTenth_32 rfl) (rdb (p := 32) (i := 1) ch_cX10_passTenth_32 rfl) (by decide +kernel)
theorem dX10_passTenth_34 : decode cX10_passTenth 34 = .ok (.if_icmp .ge 26, 3) := do_162 (rdb (p := 32) (i := 2) ch_cX10_passTenth_32 rfl) (rdb (p := 32) (i := 3) ch_cX10_passTenth_32 rfl) (rdb (p := 32) (i := 4) ch_cX10_passTenth_32 rfl) (by decide +kernel)
theorem dX10_passTenth_37 : decode cX10_passTenth 37 = .ok (.aload_n 0, 1) := do_42 (rdb (p := 32) (i := 5) ch_cX10_passTenth_32 rfl)
theorem dX10_passTenth_38 : decode cX10_passTenth 38 = .ok (.getfield 46, 3) := do_180 (rdb (p := 32) (i := 6) ch_cX10_passTenth_32 rfl) (rdb (p := 32) (i := 7) ch_cX10_passTenth_32 rfl) (rdb (p := 32) (i := 8) ch_cX10_passTenth_32 rfl) rfl
theorem dX10_passTenth_41 : decode cX10_passTenth 41 = .ok (.iload_n 1, 1) := do_27 (rdb (p := 32) (i := 9) ch_cX10_passTenth_32 rfl)
theorem dX10_passTenth_42 : decode cX10_passTenth 42 = .ok (.aaload, 1) := do_50 (rdb (p := 32) (i := 10) ch_cX10_passTenth_32 rfl)
theorem dX10_passTenth_43 : decode cX10_passTenth 43 = .ok (.getfield 144, 3) := do_180 (rdb (p := 32) (i := 11) ch_cX10_passTenth_32 rfl) (rdb (p := 32) (i := 12) ch_cX10_passTenth_32 rfl) (rdb (p := 32) (i := 13) ch_cX10_passTenth_32 rfl) rfl
theorem dX10_passTenth_46 : decode cX10_passTenth 46 = .ok (.ifCond .eq 8, 3) := do_153 (rdb (p := 32) (i := 14) ch_cX10_passTenth_32 rfl) (rdb (p := 32) (i := 15) ch_cX10_passTenth_32 rfl) (rdb (p := 32) (i := 16) ch_cX10_passTenth_32 rfl) (by decide +kernel)
theorem dX10_passTenth_49 : decode cX10_passTenth 49 = .ok (.aload_n 0, 1) := do_42 (rdb (p := 32) (i := 17) ch_cX10_passTenth_32 rfl)
theorem dX10_passTenth_50 : decode cX10_passTenth 50 = .ok (.iload_n 1, 1) := do_27 (rdb (p := 32) (i := 18) ch_cX10_passTenth_32 rfl)
theorem dX10_passTenth_51 : decode cX10_passTenth 51 = .ok (.invokevirtual 148, 3) := do_182 (rdb (p := 32) (i := 19) ch_cX10_passTenth_32 rfl) (rdb (p := 32) (i := 20) ch_cX10_passTenth_32 rfl) (rdb (p := 32) (i := 21) ch_cX10_passTenth_32 rfl) rfl
theorem dX10_passTenth_54 : decode cX10_passTenth 54 = .ok (.iinc 1 1, 3) := do_132 (rdb (p := 32) (i := 22) ch_cX10_passTenth_32 rfl) (rdb (p := 32) (i := 23) ch_cX10_passTenth_32 rfl) (rdb (p := 32) (i := 24) ch_cX10_passTenth_32 rfl) (by decide +kernel)
theorem dX10_passTenth_57 : decode cX10_passTenth 57 = .ok (.goto (-34), 3) := do_167 (rdb (p := 32) (i := 25) ch_cX10_passTenth_32 rfl) (rdb (p := 32) (i := 26) ch_cX10_passTenth_32 rfl) (rdb (p := 32) (i := 27) ch_cX10_passTenth_32 rfl) (by decide +kernel)
theorem dX10_passTenth_60 : decode cX10_passTenth 60 = .ok (.return_, 1) := do_177 (rdb (p := 32) (i := 28) ch_cX10_passTenth_32 rfl)
theorem ch_cX10_sureYards_0 : (cX10_sureYards.data.toList.drop 0).take 36 = [42, 27, 182, 0, 76, 154, 0, 5, 3, 172, 42, 180, 0, 46, 27, 50, 77, 42, 27, 44, 180, 0, 109, 44, 180, 0, 119, 182, 0, 126, 62, 29, 158, 0, 9, 29] := by decide +kernel
theorem dX10_sureYards_0 : decode cX10_sureYards 0 = .ok (.aload_n 0, 1) := do_42 (rdb (p := 0) (i := 0) ch_cX10_sureYards_0 rfl)
theorem dX10_sureYards_1 : decode cX10_sureYards 1 = .ok (.iload_n 1, 1) := do_27 (rdb (p := 0) (i := 1) ch_cX10_sureYards_0 rfl)
theorem dX10_sureYards_2 : decode cX10_sureYards 2 = .ok (.invokevirtual 76, 3) := do_182 (rdb (p := 0) (i := 2) ch_cX10_sureYards_0 rfl) (rdb (p := 0) (i := 3) ch_cX10_sureYards_0 rfl) (rdb (p := 0) (i := 4) ch_cX10_sureYards_0 rfl) rfl
theorem dX10_sureYards_5 : decode cX10_sureYards 5 = .ok (.ifCond .ne 5, 3) := do_154 (rdb (p := 0) (i := 5) ch_cX10_sureYards_0 rfl) (rdb (p := 0) (i := 6) ch_cX10_sureYards_0 rfl) (rdb (p := 0) (i := 7) ch_cX10_sureYards_0 rfl) (by decide +kernel)
theorem dX10_sureYards_8 : decode cX10_sureYards 8 = .ok (.iconst 0, 1) := do_3 (rdb (p := 0) (i := 8) ch_cX10_sureYards_0 rfl)
theorem dX10_sureYards_9 : decode cX10_sureYards 9 = .ok (.ireturn, 1) := do_172 (rdb (p := 0) (i := 9) ch_cX10_sureYards_0 rfl)
theorem dX10_sureYards_10 : decode cX10_sureYards 10 = .ok (.aload_n 0, 1) := do_42 (rdb (p := 0) (i := 10) ch_cX10_sureYards_0 rfl)
theorem dX10_sureYards_11 : decode cX10_sureYards 11 = .ok (.getfield 46, 3) := do_180 (rdb (p := 0) (i := 11) ch_cX10_sureYards_0 rfl) (rdb (p := 0) (i := 12) ch_cX10_sureYards_0 rfl) (rdb (p := 0) (i := 13) ch_cX10_sureYards_0 rfl) rfl
theorem dX10_sureYards_14 : decode cX10_sureYards 14 = .ok (.iload_n 1, 1) := do_27 (rdb (p := 0) (i := 14) ch_cX10_sureYards_0 rfl)
theorem dX10_sureYards_15 : decode cX10_sureYards 15 = .ok (.aaload, 1) := do_50 (rdb (p := 0) (i := 15) ch_cX10_sureYards_0 rfl)
theorem dX10_sureYards_16 : decode cX10_sureYards 16 = .ok (.astore_n 2, 1) := do_77 (rdb (p := 0) (i := 16) ch_cX10_sureYards_0 rfl)
theorem dX10_sureYards_17 : decode cX10_sureYards 17 = .ok (.aload_n 0, 1) := do_42 (rdb (p := 0) (i := 17) ch_cX10_sureYards_0 rfl)
theorem dX10_sureYards_18 : decode cX10_sureYards 18 = .ok (.iload_n 1, 1) := do_27 (rdb (p := 0) (i := 18) ch_cX10_sureYards_0 rfl)
theorem dX10_sureYards_19 : decode cX10_sureYards 19 = .ok (.aload_n 2, 1) := do_44 (rdb (p := 0) (i := 19) ch_cX10_sureYards_0 rfl)
theorem dX10_sureYards_20 : decode cX10_sureYards 20 = .ok (.getfield 109, 3) := do_180 (rdb (p := 0) (i := 20) ch_cX10_sureYards_0 rfl) (rdb (p := 0) (i := 21) ch_cX10_sureYards_0 rfl) (rdb (p := 0) (i := 22) ch_cX10_sureYards_0 rfl) rfl
theorem dX10_sureYards_23 : decode cX10_sureYards 23 = .ok (.aload_n 2, 1) := do_44 (rdb (p := 0) (i := 23) ch_cX10_sureYards_0 rfl)
theorem dX10_sureYards_24 : decode cX10_sureYards 24 = .ok (.getfield 119, 3) := do_180 (rdb (p := 0) (i := 24) ch_cX10_sureYards_0 rfl) (rdb (p := 0) (i := 25) ch_cX10_sureYards_0 rfl) (rdb (p := 0) (i := 26) ch_cX10_sureYards_0 rfl) rfl
theorem dX10_sureYards_27 : decode cX10_sureYards 27 = .ok (.invokevirtual 126, 3) := do_182 (rdb (p := 0) (i := 27) ch_cX10_sureYards_0 rfl) (rdb (p := 0) (i := 28) ch_cX10_sureYards_0 rfl) (rdb (p := 0) (i := 29) ch_cX10_sureYards_0 rfl) rfl
theorem dX10_sureYards_30 : decode cX10_sureYards 30 = .ok (.istore_n 3, 1) := do_62 (rdb (p := 0) (i := 30) ch_cX10_sureYards_0 rfl)
theorem dX10_sureYards_31 : decode cX10_sureYards 31 = .ok (.iload_n 3, 1) := do_29 (rdb (p := 0) (i := 31) ch_cX10_sureYards_0 rfl)
theorem ch_cX10_sureYards_32 : (cX10_sureYards.data.toList.drop 32).take 36 = [158, 0, 9, 29, 4, 100, 167, 0, 7, 44, 182, 0, 138, 172] := by decide +kernel
theorem dX10_sureYards_32 : decode cX10_sureYards 32 = .ok (.ifCond .le 9, 3) := do_158 (rdb (p := 32) (i := 0) ch_cX10_sureYards_32 rfl) (rdb (p := 32) (i := 1) ch_cX10_sureYards_32 rfl) (rdb (p := 32) (i := 2) ch_cX10_sureYards_32 rfl) (by decide +kernel)
theorem dX10_sureYards_35 : decode cX10_sureYards 35 = .ok (.iload_n 3, 1) := do_29 (rdb (p := 32) (i := 3) ch_cX10_sureYards_32 rfl)
theorem dX10_sureYards_36 : decode cX10_sureYards 36 = .ok (.iconst 1, 1) := do_4 (rdb (p := 32) (i := 4) ch_cX10_sureYards_32 rfl)
theorem dX10_sureYards_37 : decode cX10_sureYards 37 = .ok (.isub, 1) := do_100 (rdb (p := 32) (i := 5) ch_cX10_sureYards_32 rfl)
theorem dX10_sureYards_38 : decode cX10_sureYards 38 = .ok (.goto 7, 3) := do_167 (rdb (p := 32) (i := 6) ch_cX10_sureYards_32 rfl) (rdb (p := 32) (i := 7) ch_cX10_sureYards_32 rfl) (rdb (p := 32) (i := 8) ch_cX10_sureYards_32 rfl) (by decide +kernel)
theorem dX10_sureYards_41 : decode cX10_sureYards 41 = .ok (.aload_n 2, 1) := do_44 (rdb (p := 32) (i := 9) ch_cX10_sureYards_32 rfl)
theorem dX10_sureYards_42 : decode cX10_sureYards 42 = .ok (.invokevirtual 138, 3) := do_182 (rdb (p := 32) (i := 10) ch_cX10_sureYards_32 rfl) (rdb (p := 32) (i := 11) ch_cX10_sureYards_32 rfl) (rdb (p := 32) (i := 12) ch_cX10_sureYards_32 rfl) rfl
theorem dX10_sureYards_45 : decode cX10_sureYards 45 = .ok (.ireturn, 1) := do_172 (rdb (p := 32) (i := 13) ch_cX10_sureYards_32 rfl)
theorem ch_cX10_takeFrom_0 : (cX10_takeFrom.data.toList.drop 0).take 36 = [42, 180, 0, 10, 43, 180, 0, 10, 182, 0, 184, 42, 180, 0, 19, 43, 180, 0, 19, 182, 0, 188, 42, 180, 0, 26, 43, 180, 0, 26, 182, 0, 191, 42, 180, 0] := by decide +kernel
theorem dX10_takeFrom_0 : decode cX10_takeFrom 0 = .ok (.aload_n 0, 1) := do_42 (rdb (p := 0) (i := 0) ch_cX10_takeFrom_0 rfl)
theorem dX10_takeFrom_1 : decode cX10_takeFrom 1 = .ok (.getfield 10, 3) := do_180 (rdb (p := 0) (i := 1) ch_cX10_takeFrom_0 rfl) (rdb (p := 0) (i := 2) ch_cX10_takeFrom_0 rfl) (rdb (p := 0) (i := 3) ch_cX10_takeFrom_0 rfl) rfl
theorem dX10_takeFrom_4 : decode cX10_takeFrom 4 = .ok (.aload_n 1, 1) := do_43 (rdb (p := 0) (i := 4) ch_cX10_takeFrom_0 rfl)
theorem dX10_takeFrom_5 : decode cX10_takeFrom 5 = .ok (.getfield 10, 3) := do_180 (rdb (p := 0) (i := 5) ch_cX10_takeFrom_0 rfl) (rdb (p := 0) (i := 6) ch_cX10_takeFrom_0 rfl) (rdb (p := 0) (i := 7) ch_cX10_takeFrom_0 rfl) rfl
theorem dX10_takeFrom_8 : decode cX10_takeFrom 8 = .ok (.invokevirtual 184, 3) := do_182 (rdb (p := 0) (i := 8) ch_cX10_takeFrom_0 rfl) (rdb (p := 0) (i := 9) ch_cX10_takeFrom_0 rfl) (rdb (p := 0) (i := 10) ch_cX10_takeFrom_0 rfl) rfl
theorem dX10_takeFrom_11 : decode cX10_takeFrom 11 = .ok (.aload_n 0, 1) := do_42 (rdb (p := 0) (i := 11) ch_cX10_takeFrom_0 rfl)
theorem dX10_takeFrom_12 : decode cX10_takeFrom 12 = .ok (.getfield 19, 3) := do_180 (rdb (p := 0) (i := 12) ch_cX10_takeFrom_0 rfl) (rdb (p := 0) (i := 13) ch_cX10_takeFrom_0 rfl) (rdb (p := 0) (i := 14) ch_cX10_takeFrom_0 rfl) rfl
theorem dX10_takeFrom_15 : decode cX10_takeFrom 15 = .ok (.aload_n 1, 1) := do_43 (rdb (p := 0) (i := 15) ch_cX10_takeFrom_0 rfl)
theorem dX10_takeFrom_16 : decode cX10_takeFrom 16 = .ok (.getfield 19, 3) := do_180 (rdb (p := 0) (i := 16) ch_cX10_takeFrom_0 rfl) (rdb (p := 0) (i := 17) ch_cX10_takeFrom_0 rfl) (rdb (p := 0) (i := 18) ch_cX10_takeFrom_0 rfl) rfl
theorem dX10_takeFrom_19 : decode cX10_takeFrom 19 = .ok (.invokevirtual 188, 3) := do_182 (rdb (p := 0) (i := 19) ch_cX10_takeFrom_0 rfl) (rdb (p := 0) (i := 20) ch_cX10_takeFrom_0 rfl) (rdb (p := 0) (i := 21) ch_cX10_takeFrom_0 rfl) rfl
theorem dX10_takeFrom_22 : decode cX10_takeFrom 22 = .ok (.aload_n 0, 1) := do_42 (rdb (p := 0) (i := 22) ch_cX10_takeFrom_0 rfl)
theorem dX10_takeFrom_23 : decode cX10_takeFrom 23 = .ok (.getfield 26, 3) := do_180 (rdb (p := 0) (i := 23) ch_cX10_takeFrom_0 rfl) (rdb (p := 0) (i := 24) ch_cX10_takeFrom_0 rfl) (rdb (p := 0) (i := 25) ch_cX10_takeFrom_0 rfl) rfl
theorem dX10_takeFrom_26 : decode cX10_takeFrom 26 = .ok (.aload_n 1, 1) := do_43 (rdb (p := 0) (i := 26) ch_cX10_takeFrom_0 rfl)
theorem dX10_takeFrom_27 : decode cX10_takeFrom 27 = .ok (.getfield 26, 3) := do_180 (rdb (p := 0) (i := 27) ch_cX10_takeFrom_0 rfl) (rdb (p := 0) (i := 28) ch_cX10_takeFrom_0 rfl) (rdb (p := 0) (i := 29) ch_cX10_takeFrom_0 rfl) rfl
theorem dX10_takeFrom_30 : decode cX10_takeFrom 30 = .ok (.invokevirtual 191, 3) := do_182 (rdb (p := 0) (i := 30) ch_cX10_takeFrom_0 rfl) (rdb (p := 0) (i := 31) ch_cX10_takeFrom_0 rfl) (rdb (p := 0) (i := 32) ch_cX10_takeFrom_0 rfl) rfl
theorem ch_cX10_takeFrom_32 : (cX10_takeFrom.data.toList.drop 32).take 36 = [191, 42, 180, 0, 37, 43, 180, 0, 37, 182, 0, 194, 42, 180, 0, 41, 43, 180, 0, 41, 182, 0, 194, 42, 43, 180, 0, 50, 181, 0, 50, 42, 43, 180, 0, 54] := by decide +kernel
theorem dX10_takeFrom_33 : decode cX10_takeFrom 33 = .ok (.aload_n 0, 1) := do_42 (rdb (p := 32) (i := 1) ch_cX10_takeFrom_32 rfl)
theorem dX10_takeFrom_34 : decode cX10_takeFrom 34 = .ok (.getfield 37, 3) := do_180 (rdb (p := 32) (i := 2) ch_cX10_takeFrom_32 rfl) (rdb (p := 32) (i := 3) ch_cX10_takeFrom_32 rfl) (rdb (p := 32) (i := 4) ch_cX10_takeFrom_32 rfl) rfl
theorem dX10_takeFrom_37 : decode cX10_takeFrom 37 = .ok (.aload_n 1, 1) := do_43 (rdb (p := 32) (i := 5) ch_cX10_takeFrom_32 rfl)
theorem dX10_takeFrom_38 : decode cX10_takeFrom 38 = .ok (.getfield 37, 3) := do_180 (rdb (p := 32) (i := 6) ch_cX10_takeFrom_32 rfl) (rdb (p := 32) (i := 7) ch_cX10_takeFrom_32 rfl) (rdb (p := 32) (i := 8) ch_cX10_takeFrom_32 rfl) rfl
theorem dX10_takeFrom_41 : decode cX10_takeFrom 41 = .ok (.invokevirtual 194, 3) := do_182 (rdb (p := 32) (i := 9) ch_cX10_takeFrom_32 rfl) (rdb (p := 32) (i := 10) ch_cX10_takeFrom_32 rfl) (rdb (p := 32) (i := 11) ch_cX10_takeFrom_32 rfl) rfl
theorem dX10_takeFrom_44 : decode cX10_takeFrom 44 = .ok (.aload_n 0, 1) := do_42 (rdb (p := 32) (i := 12) ch_cX10_takeFrom_32 rfl)
theorem dX10_takeFrom_45 : decode cX10_takeFrom 45 = .ok (.getfield 41, 3) := do_180 (rdb (p := 32) (i := 13) ch_cX10_takeFrom_32 rfl) (rdb (p := 32) (i := 14) ch_cX10_takeFrom_32 rfl) (rdb (p := 32) (i := 15) ch_cX10_takeFrom_32 rfl) rfl
theorem dX10_takeFrom_48 : decode cX10_takeFrom 48 = .ok (.aload_n 1, 1) := do_43 (rdb (p := 32) (i := 16) ch_cX10_takeFrom_32 rfl)
theorem dX10_takeFrom_49 : decode cX10_takeFrom 49 = .ok (.getfield 41, 3) := do_180 (rdb (p := 32) (i := 17) ch_cX10_takeFrom_32 rfl) (rdb (p := 32) (i := 18) ch_cX10_takeFrom_32 rfl) (rdb (p := 32) (i := 19) ch_cX10_takeFrom_32 rfl) rfl
theorem dX10_takeFrom_52 : decode cX10_takeFrom 52 = .ok (.invokevirtual 194, 3) := do_182 (rdb (p := 32) (i := 20) ch_cX10_takeFrom_32 rfl) (rdb (p := 32) (i := 21) ch_cX10_takeFrom_32 rfl) (rdb (p := 32) (i := 22) ch_cX10_takeFrom_32 rfl) rfl
theorem dX10_takeFrom_55 : decode cX10_takeFrom 55 = .ok (.aload_n 0, 1) := do_42 (rdb (p := 32) (i := 23) ch_cX10_takeFrom_32 rfl)
theorem dX10_takeFrom_56 : decode cX10_takeFrom 56 = .ok (.aload_n 1, 1) := do_43 (rdb (p := 32) (i := 24) ch_cX10_takeFrom_32 rfl)
theorem dX10_takeFrom_57 : decode cX10_takeFrom 57 = .ok (.getfield 50, 3) := do_180 (rdb (p := 32) (i := 25) ch_cX10_takeFrom_32 rfl) (rdb (p := 32) (i := 26) ch_cX10_takeFrom_32 rfl) (rdb (p := 32) (i := 27) ch_cX10_takeFrom_32 rfl) rfl
theorem dX10_takeFrom_60 : decode cX10_takeFrom 60 = .ok (.putfield 50, 3) := do_181 (rdb (p := 32) (i := 28) ch_cX10_takeFrom_32 rfl) (rdb (p := 32) (i := 29) ch_cX10_takeFrom_32 rfl) (rdb (p := 32) (i := 30) ch_cX10_takeFrom_32 rfl) rfl
theorem dX10_takeFrom_63 : decode cX10_takeFrom 63 = .ok (.aload_n 0, 1) := do_42 (rdb (p := 32) (i := 31) ch_cX10_takeFrom_32 rfl)
theorem ch_cX10_takeFrom_64 : (cX10_takeFrom.data.toList.drop 64).take 36 = [43, 180, 0, 54, 181, 0, 54, 3, 61, 28, 42, 180, 0, 50, 162, 0, 30, 28, 16, 8, 162, 0, 24, 42, 180, 0, 46, 28, 50, 43, 180, 0, 46, 28, 50, 182] := by decide +kernel
theorem dX10_takeFrom_64 : decode cX10_takeFrom 64 = .ok (.aload_n 1, 1) := do_43 (rdb (p := 64) (i := 0) ch_cX10_takeFrom_64 rfl)
theorem dX10_takeFrom_65 : decode cX10_takeFrom 65 = .ok (.getfield 54, 3) := do_180 (rdb (p := 64) (i := 1) ch_cX10_takeFrom_64 rfl) (rdb (p := 64) (i := 2) ch_cX10_takeFrom_64 rfl) (rdb (p := 64) (i := 3) ch_cX10_takeFrom_64 rfl) rfl
theorem dX10_takeFrom_68 : decode cX10_takeFrom 68 = .ok (.putfield 54, 3) := do_181 (rdb (p := 64) (i := 4) ch_cX10_takeFrom_64 rfl) (rdb (p := 64) (i := 5) ch_cX10_takeFrom_64 rfl) (rdb (p := 64) (i := 6) ch_cX10_takeFrom_64 rfl) rfl
theorem dX10_takeFrom_71 : decode cX10_takeFrom 71 = .ok (.iconst 0, 1) := do_3 (rdb (p := 64) (i := 7) ch_cX10_takeFrom_64 rfl)
theorem dX10_takeFrom_72 : decode cX10_takeFrom 72 = .ok (.istore_n 2, 1) := do_61 (rdb (p := 64) (i := 8) ch_cX10_takeFrom_64 rfl)
theorem dX10_takeFrom_73 : decode cX10_takeFrom 73 = .ok (.iload_n 2, 1) := do_28 (rdb (p := 64) (i := 9) ch_cX10_takeFrom_64 rfl)
theorem dX10_takeFrom_74 : decode cX10_takeFrom 74 = .ok (.aload_n 0, 1) := do_42 (rdb (p := 64) (i := 10) ch_cX10_takeFrom_64 rfl)
theorem dX10_takeFrom_75 : decode cX10_takeFrom 75 = .ok (.getfield 50, 3) := do_180 (rdb (p := 64) (i := 11) ch_cX10_takeFrom_64 rfl) (rdb (p := 64) (i := 12) ch_cX10_takeFrom_64 rfl) (rdb (p := 64) (i := 13) ch_cX10_takeFrom_64 rfl) rfl
theorem dX10_takeFrom_78 : decode cX10_takeFrom 78 = .ok (.if_icmp .ge 30, 3) := do_162 (rdb (p := 64) (i := 14) ch_cX10_takeFrom_64 rfl) (rdb (p := 64) (i := 15) ch_cX10_takeFrom_64 rfl) (rdb (p := 64) (i := 16) ch_cX10_takeFrom_64 rfl) (by decide +kernel)
theorem dX10_takeFrom_81 : decode cX10_takeFrom 81 = .ok (.iload_n 2, 1) := do_28 (rdb (p := 64) (i := 17) ch_cX10_takeFrom_64 rfl)
theorem dX10_takeFrom_82 : decode cX10_takeFrom 82 = .ok (.bipush 8, 2) := do_16 (rdb (p := 64) (i := 18) ch_cX10_takeFrom_64 rfl) (rdb (p := 64) (i := 19) ch_cX10_takeFrom_64 rfl) (by decide +kernel)
theorem dX10_takeFrom_84 : decode cX10_takeFrom 84 = .ok (.if_icmp .ge 24, 3) := do_162 (rdb (p := 64) (i := 20) ch_cX10_takeFrom_64 rfl) (rdb (p := 64) (i := 21) ch_cX10_takeFrom_64 rfl) (rdb (p := 64) (i := 22) ch_cX10_takeFrom_64 rfl) (by decide +kernel)
theorem dX10_takeFrom_87 : decode cX10_takeFrom 87 = .ok (.aload_n 0, 1) := do_42 (rdb (p := 64) (i := 23) ch_cX10_takeFrom_64 rfl)
theorem dX10_takeFrom_88 : decode cX10_takeFrom 88 = .ok (.getfield 46, 3) := do_180 (rdb (p := 64) (i := 24) ch_cX10_takeFrom_64 rfl) (rdb (p := 64) (i := 25) ch_cX10_takeFrom_64 rfl) (rdb (p := 64) (i := 26) ch_cX10_takeFrom_64 rfl) rfl
theorem dX10_takeFrom_91 : decode cX10_takeFrom 91 = .ok (.iload_n 2, 1) := do_28 (rdb (p := 64) (i := 27) ch_cX10_takeFrom_64 rfl)
theorem dX10_takeFrom_92 : decode cX10_takeFrom 92 = .ok (.aaload, 1) := do_50 (rdb (p := 64) (i := 28) ch_cX10_takeFrom_64 rfl)
theorem dX10_takeFrom_93 : decode cX10_takeFrom 93 = .ok (.aload_n 1, 1) := do_43 (rdb (p := 64) (i := 29) ch_cX10_takeFrom_64 rfl)
theorem dX10_takeFrom_94 : decode cX10_takeFrom 94 = .ok (.getfield 46, 3) := do_180 (rdb (p := 64) (i := 30) ch_cX10_takeFrom_64 rfl) (rdb (p := 64) (i := 31) ch_cX10_takeFrom_64 rfl) (rdb (p := 64) (i := 32) ch_cX10_takeFrom_64 rfl) rfl
theorem ch_cX10_takeFrom_96 : (cX10_takeFrom.data.toList.drop 96).take 36 = [46, 28, 50, 182, 0, 197, 132, 2, 1, 167, 255, 224, 177] := by decide +kernel
theorem dX10_takeFrom_97 : decode cX10_takeFrom 97 = .ok (.iload_n 2, 1) := do_28 (rdb (p := 96) (i := 1) ch_cX10_takeFrom_96 rfl)
theorem dX10_takeFrom_98 : decode cX10_takeFrom 98 = .ok (.aaload, 1) := do_50 (rdb (p := 96) (i := 2) ch_cX10_takeFrom_96 rfl)
theorem dX10_takeFrom_99 : decode cX10_takeFrom 99 = .ok (.invokevirtual 197, 3) := do_182 (rdb (p := 96) (i := 3) ch_cX10_takeFrom_96 rfl) (rdb (p := 96) (i := 4) ch_cX10_takeFrom_96 rfl) (rdb (p := 96) (i := 5) ch_cX10_takeFrom_96 rfl) rfl
theorem dX10_takeFrom_102 : decode cX10_takeFrom 102 = .ok (.iinc 2 1, 3) := do_132 (rdb (p := 96) (i := 6) ch_cX10_takeFrom_96 rfl) (rdb (p := 96) (i := 7) ch_cX10_takeFrom_96 rfl) (rdb (p := 96) (i := 8) ch_cX10_takeFrom_96 rfl) (by decide +kernel)
theorem dX10_takeFrom_105 : decode cX10_takeFrom 105 = .ok (.goto (-32), 3) := do_167 (rdb (p := 96) (i := 9) ch_cX10_takeFrom_96 rfl) (rdb (p := 96) (i := 10) ch_cX10_takeFrom_96 rfl) (rdb (p := 96) (i := 11) ch_cX10_takeFrom_96 rfl) (by decide +kernel)
theorem dX10_takeFrom_108 : decode cX10_takeFrom 108 = .ok (.return_, 1) := do_177 (rdb (p := 96) (i := 12) ch_cX10_takeFrom_96 rfl)
end
