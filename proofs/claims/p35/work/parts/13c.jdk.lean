/-! members of the JDK that are walked as methods of the class are -/
def yJI_bitCount : MethodName := ⟨"java/lang/Integer", "bitCount", "(I)I"⟩
abbrev cJI_bitCount : ByteArray := prog_16_method_49_code
def yJL_bitCount : MethodName := ⟨"java/lang/Long", "bitCount", "(J)I"⟩
abbrev cJL_bitCount : ByteArray := prog_17_method_50_code
def yJM_floorMod : MethodName := ⟨"java/lang/Math", "floorMod", "(II)I"⟩
abbrev cJM_floorMod : ByteArray := prog_18_method_50_code
section WPJDK
variable {cls : List rf} {l : Launch} {G : va_G} {cy : Nat → ClassId} {ad : rf → Nat} {y : MethodName} {b : ByteArray} {n : Nat} {r : Option FieldType} {d : Nat} {pc : Nat} {ls : List (Nat × mV)} {st : List mV} {M : mM} {Q : Int32 → mM → Prop}
theorem w_iushr {x w : Int32} (hd : decode b pc = .ok (.iushr, 1)) (kk : ∀ z : Int32, z = iushrX x w → WP cls l G cy ad y b n r d (pc + 1) ls (vI z :: st) M Q) : WP cls l G cy ad y b n r d pc ls (vI w :: vI x :: st) M Q := fun p e s m args below meth c A X lsA H locs hl hP hS => lv_iushr X.1 X.2.1 hd rfl (kk (iushrX x w) rfl p e s m args below meth c A X lsA H locs hl hP hS)
theorem w_lsub {x w : Int64} (hd : decode b pc = .ok (.lsub, 1)) (kk : ∀ z : Int64, z = x - w → WP cls l G cy ad y b n r d (pc + 1) ls (vL z :: st) M Q) : WP cls l G cy ad y b n r d pc ls (vL w :: vL x :: st) M Q := fun p e s m args below meth c A X lsA H locs hl hP hS => lv_lsub X.1 X.2.1 hd (kk (x - w) rfl p e s m args below meth c A X lsA H locs hl hP hS)
end WPJDK
/-! Math.floorMod by 4, by a contract of the library kind -/
theorem fm_d0 : decode cJM_floorMod 0 = .ok (.iload_n 0, 1) := by decide +kernel
theorem fm_d1 : decode cJM_floorMod 1 = .ok (.iload_n 1, 1) := by decide +kernel
theorem fm_d2 : decode cJM_floorMod 2 = .ok (.irem, 1) := by decide +kernel
theorem fm_d3 : decode cJM_floorMod 3 = .ok (.istore_n 2, 1) := by decide +kernel
theorem fm_d4 : decode cJM_floorMod 4 = .ok (.iload_n 0, 1) := by decide +kernel
theorem fm_d5 : decode cJM_floorMod 5 = .ok (.iload_n 1, 1) := by decide +kernel
theorem fm_d6 : decode cJM_floorMod 6 = .ok (.ixor, 1) := by decide +kernel
theorem fm_d7 : decode cJM_floorMod 7 = .ok (.ifCond .ge 11, 3) := by decide +kernel
theorem fm_d10 : decode cJM_floorMod 10 = .ok (.iload_n 2, 1) := by decide +kernel
theorem fm_d11 : decode cJM_floorMod 11 = .ok (.ifCond .eq 7, 3) := by decide +kernel
theorem fm_d14 : decode cJM_floorMod 14 = .ok (.iload_n 2, 1) := by decide +kernel
theorem fm_d15 : decode cJM_floorMod 15 = .ok (.iload_n 1, 1) := by decide +kernel
theorem fm_d16 : decode cJM_floorMod 16 = .ok (.iadd, 1) := by decide +kernel
theorem fm_d17 : decode cJM_floorMod 17 = .ok (.ireturn, 1) := by decide +kernel
theorem fm_d18 : decode cJM_floorMod 18 = .ok (.iload_n 2, 1) := by decide +kernel
theorem fm_d19 : decode cJM_floorMod 19 = .ok (.ireturn, 1) := by decide +kernel
theorem fm_noRow0 : (NativeRow.find? natives yJM_floorMod.cls yJM_floorMod.name yJM_floorMod.desc).isNone = true := by decide +kernel
theorem fm_noRow (p : Program) : NativeRow.find? p.tables.natives yJM_floorMod.cls yJM_floorMod.name yJM_floorMod.desc = none := by
  cases p <;> exact Option.isNone_iff_eq_none.mp fm_noRow0
def fmX (a : Int32) : Int32 := if 0 ≤ a ^^^ 4 then a - a / 4 * 4 else if a - a / 4 * 4 = 0 then a - a / 4 * 4 else a - a / 4 * 4 + 4
def fmSpec (a0 : Int32) : Spec where
  pre := .and (.code yJM_floorMod cJM_floorMod 3 (some .int)) (.and (.and (.count 2) (.and (.isInt (.arg 0)) (.isInt (.arg 1)))) (.and (.eq (.arg 1) (.int 4)) (.eq (.arg 0) (.int a0))))
  post := .and .returned (.eq .result (.int (fmX a0)))
  changes := some []
theorem fm_meets (l : Launch) (a0 : Int32) : MeetsLoose l yJM_floorMod (fmSpec a0) := by
  refine MeetsLoose.of_body_ov (code := cJM_floorMod) (maxLocals := 3) (ret := some .int) fm_noRow ?_ ?_
  · intro args s h
    simp only [fmSpec, Cond.before_and, Bool.and_eq_true] at h
    exact h.1
  · intro p e s m args below meth c s₁ B
    have hpre := B.pre
    simp only [fmSpec, Cond.before_and, Bool.and_eq_true] at hpre
    obtain ⟨a, b, rfl⟩ := Cond.two_ints hpre.2.1.1 hpre.2.1.2.1 hpre.2.1.2.2
    have hb4 : b = 4 := by
      have h := hpre.2.2.1
      simpa [Cond.before, Cond.holds, Cond.value, Term.eval] using h
    subst hb4
    have ha0 : a = a0 := by
      have h := hpre.2.2.2
      simpa [Cond.before, Cond.holds, Cond.value, Term.eval] using h
    subst ha0
    have hloc : argsToLocals #[.int a, .int 4] 3 = #[.val (.int a), .val (.int 4), .unset] := rfl
    have fin : ∀ r : Int32, r = fmX a → (∀ fs, Steps p.tables e below (s₁.setTop (entryFrame m #[.int a, .int 4] 3)) (s₁.setFrames fs) ∨ handOver s₁ (some (.int r)) below ≠ some fs) →
        ∃ s₂ o, Steps p.tables e below (s₁.setTop (entryFrame m #[.int a, .int 4] 3)) s₂ ∧ s₂.status = .running ∧ Ended s₂ below o ∧
          (fmSpec a).ensures #[.int a, .int 4] s o s₂ := by
      intro r hr hwalk
      obtain ⟨fs, hfs⟩ := handOver_isSome (s := s₁) (some (.int r)) B.hears₁
      refine ⟨s₁.setFrames fs, .returned (some (.int r)), (hwalk fs).resolve_right (fun h => h hfs), B.here.running, B.ended hfs (by intro h; cases h), ?_, State.sameBut_nil.mpr ?_⟩
      · simp [fmSpec, Cond.after, Cond.holds, Cond.value, Term.eval, hr]
      · rw [State.frames_setFrames _ B.cur₁, B.back]
    by_cases h1 : 0 ≤ a ^^^ 4
    · refine fin (a - a / 4 * 4) (by unfold fmX; rw [if_pos h1]) (fun fs => ?_)
      by_cases hfs : handOver s₁ (some (.int (a - a / 4 * 4))) below = some fs
      · left
        unfold entryFrame; rw [hloc]
        refine Steps.instrAtOv (c := _) (by simpa using B.here) ?_
        simp [jvm, wpRun, exec, B.here.top, B.exec, B.bytes, fm_d0]
        refine Steps.instrAtOv (c := _) (by simpa using B.here) ?_
        simp [jvm, wpRun, exec, B.here.top, B.exec, B.bytes, fm_d1]
        refine Steps.instrAtOv (c := _) (by simpa using B.here) ?_
        simp [jvm, wpRun, exec, B.here.top, B.exec, B.bytes, fm_d2]
        refine Steps.instrAtOv (c := _) (by simpa using B.here) ?_
        simp [jvm, wpRun, exec, B.here.top, B.exec, B.bytes, fm_d3]
        refine ⟨#[.val (.int a), .val (.int 4), .val (.int (a - a / 4 * 4))], rfl, ?_⟩
        refine Steps.instrAtOv (c := _) (by simpa using B.here) ?_
        simp [jvm, wpRun, exec, B.here.top, B.exec, B.bytes, fm_d4]
        refine Steps.instrAtOv (c := _) (by simpa using B.here) ?_
        simp [jvm, wpRun, exec, B.here.top, B.exec, B.bytes, fm_d5]
        refine Steps.instrAtOv (c := _) (by simpa using B.here) ?_
        simp [jvm, wpRun, exec, B.here.top, B.exec, B.bytes, fm_d6]
        refine Steps.instrAtOv (c := _) (by simpa using B.here) ?_
        simp [jvm, wpRun, exec, B.here.top, B.exec, B.bytes, fm_d7, ifCond.holds, h1]
        refine Steps.instrAtOv (c := _) (by simpa using B.here) ?_
        simp [jvm, wpRun, exec, B.here.top, B.exec, B.bytes, fm_d18]
        refine Steps.instrAtOv (c := _) (by simpa using B.here) ?_
        simp [jvm, wpRun, exec, B.here.top, B.exec, B.bytes, fm_d19, B.method₁, B.returns, narrow]
        intro acts
        rw [ret_to B.frames₁ B.method₁ B.notSynchronized rfl rfl hfs]
        exact Steps.refl _
      · exact Or.inr hfs
    · by_cases h2 : a - a / 4 * 4 = 0
      · refine fin (a - a / 4 * 4) (by unfold fmX; rw [if_neg h1, if_pos h2]) (fun fs => ?_)
        by_cases hfs : handOver s₁ (some (.int (a - a / 4 * 4))) below = some fs
        · left
          unfold entryFrame; rw [hloc]
          refine Steps.instrAtOv (c := _) (by simpa using B.here) ?_
          simp [jvm, wpRun, exec, B.here.top, B.exec, B.bytes, fm_d0]
          refine Steps.instrAtOv (c := _) (by simpa using B.here) ?_
          simp [jvm, wpRun, exec, B.here.top, B.exec, B.bytes, fm_d1]
          refine Steps.instrAtOv (c := _) (by simpa using B.here) ?_
          simp [jvm, wpRun, exec, B.here.top, B.exec, B.bytes, fm_d2]
          refine Steps.instrAtOv (c := _) (by simpa using B.here) ?_
          simp [jvm, wpRun, exec, B.here.top, B.exec, B.bytes, fm_d3]
          refine ⟨#[.val (.int a), .val (.int 4), .val (.int (a - a / 4 * 4))], rfl, ?_⟩
          refine Steps.instrAtOv (c := _) (by simpa using B.here) ?_
          simp [jvm, wpRun, exec, B.here.top, B.exec, B.bytes, fm_d4]
          refine Steps.instrAtOv (c := _) (by simpa using B.here) ?_
          simp [jvm, wpRun, exec, B.here.top, B.exec, B.bytes, fm_d5]
          refine Steps.instrAtOv (c := _) (by simpa using B.here) ?_
          simp [jvm, wpRun, exec, B.here.top, B.exec, B.bytes, fm_d6]
          refine Steps.instrAtOv (c := _) (by simpa using B.here) ?_
          simp [jvm, wpRun, exec, B.here.top, B.exec, B.bytes, fm_d7, ifCond.holds, h1]
          refine Steps.instrAtOv (c := _) (by simpa using B.here) ?_
          simp [jvm, wpRun, exec, B.here.top, B.exec, B.bytes, fm_d10]
          refine Steps.instrAtOv (c := _) (by simpa using B.here) ?_
          simp [jvm, wpRun, exec, B.here.top, B.exec, B.bytes, fm_d11, ifCond.holds, h2]
          refine Steps.instrAtOv (c := _) (by simpa using B.here) ?_
          simp [jvm, wpRun, exec, B.here.top, B.exec, B.bytes, fm_d18]
          refine Steps.instrAtOv (c := _) (by simpa using B.here) ?_
          simp [jvm, wpRun, exec, B.here.top, B.exec, B.bytes, fm_d19, B.method₁, B.returns, narrow]
          intro acts
          rw [h2] at hfs
          rw [ret_to B.frames₁ B.method₁ B.notSynchronized rfl rfl hfs]
          exact Steps.refl _
        · exact Or.inr hfs
      · refine fin (a - a / 4 * 4 + 4) (by unfold fmX; rw [if_neg h1, if_neg h2]) (fun fs => ?_)
        by_cases hfs : handOver s₁ (some (.int (a - a / 4 * 4 + 4))) below = some fs
        · left
          unfold entryFrame; rw [hloc]
          refine Steps.instrAtOv (c := _) (by simpa using B.here) ?_
          simp [jvm, wpRun, exec, B.here.top, B.exec, B.bytes, fm_d0]
          refine Steps.instrAtOv (c := _) (by simpa using B.here) ?_
          simp [jvm, wpRun, exec, B.here.top, B.exec, B.bytes, fm_d1]
          refine Steps.instrAtOv (c := _) (by simpa using B.here) ?_
          simp [jvm, wpRun, exec, B.here.top, B.exec, B.bytes, fm_d2]
          refine Steps.instrAtOv (c := _) (by simpa using B.here) ?_
          simp [jvm, wpRun, exec, B.here.top, B.exec, B.bytes, fm_d3]
          refine ⟨#[.val (.int a), .val (.int 4), .val (.int (a - a / 4 * 4))], rfl, ?_⟩
          refine Steps.instrAtOv (c := _) (by simpa using B.here) ?_
          simp [jvm, wpRun, exec, B.here.top, B.exec, B.bytes, fm_d4]
          refine Steps.instrAtOv (c := _) (by simpa using B.here) ?_
          simp [jvm, wpRun, exec, B.here.top, B.exec, B.bytes, fm_d5]
          refine Steps.instrAtOv (c := _) (by simpa using B.here) ?_
          simp [jvm, wpRun, exec, B.here.top, B.exec, B.bytes, fm_d6]
          refine Steps.instrAtOv (c := _) (by simpa using B.here) ?_
          simp [jvm, wpRun, exec, B.here.top, B.exec, B.bytes, fm_d7, ifCond.holds, h1]
          refine Steps.instrAtOv (c := _) (by simpa using B.here) ?_
          simp [jvm, wpRun, exec, B.here.top, B.exec, B.bytes, fm_d10]
          refine Steps.instrAtOv (c := _) (by simpa using B.here) ?_
          simp [jvm, wpRun, exec, B.here.top, B.exec, B.bytes, fm_d11, ifCond.holds, h2]
          refine Steps.instrAtOv (c := _) (by simpa using B.here) ?_
          simp [jvm, wpRun, exec, B.here.top, B.exec, B.bytes, fm_d14]
          refine Steps.instrAtOv (c := _) (by simpa using B.here) ?_
          simp [jvm, wpRun, exec, B.here.top, B.exec, B.bytes, fm_d15]
          refine Steps.instrAtOv (c := _) (by simpa using B.here) ?_
          simp [jvm, wpRun, exec, B.here.top, B.exec, B.bytes, fm_d16]
          refine Steps.instrAtOv (c := _) (by simpa using B.here) ?_
          simp [jvm, wpRun, exec, B.here.top, B.exec, B.bytes, fm_d17, B.method₁, B.returns, narrow]
          intro acts
          rw [ret_to B.frames₁ B.method₁ B.notSynchronized rfl rfl hfs]
          exact Steps.refl _
        · exact Or.inr hfs
section VFM
variable {p : Program} {l : Launch} {e : Env} {R : Room} {s : State} {m : MethodId} {args : Array Value} {below : List Frame} {meth : Method} {c : Code} {cells slots : Nat} {T : State} {locs : List Loc}
theorem fm_V (X : Stand p l e R s m args below meth c T locs cells slots) (hexec : p.tables.exec = Jvm.exec) {own : String} {index : Nat} (hown : s.vm.findClass own = some m.cls)
    (hlink : (Cond.methodLink own index yJM_floorMod).before args s = true) (hstat : (Cond.static yJM_floorMod).before args s = true) (hinit : (Cond.initialized "java/lang/Math").before args s = true)
    (hcode : (Cond.code yJM_floorMod cJM_floorMod 3 (some .int)).before args s = true)
    {g : JFrame} (hg : g.method = m) (hsize : g.locals.size = c.maxLocals) {a : Int32} {rest : List Value} (hstack : g.stack = .int 4 :: .int a :: rest) (hdg : decode c.code g.pc = .ok (.invokestatic index, 3))
    (hframes : 1 ≤ R.frames) (hlocals : 2 * g.monitorRoom + (rest.map fun v => v.category).sum + 14 ≤ R.locals) (hcells : cells ≤ R.cells) (hslots : slots ≤ R.slots) :
    ∃ vm' : Vm, Stand p l e R s m args below meth c (T.setVm vm') locs cells slots ∧
      ∀ target, Steps p.tables e below ((T.setVm vm').setTop { g with pc := g.pc + 3, stack := .int (fmX a) :: rest }) target → Steps p.tables e below (T.setTop g) target := by
  obtain ⟨v, T', X', ⟨first, t, hpost⟩, hstep⟩ := X.staticByContractV hexec hown hlink hstat hinit hcode (by decide)
    (fm_meets l a)
    rfl rfl rfl rfl
    (fun args' first o s₂ h => by
      simp only [fmSpec, Cond.after_and, Bool.and_eq_true] at h
      cases o with
      | returned r => exact ⟨r, rfl⟩
      | threw y => simp [Cond.after, Cond.holds, Cond.value] at h)
    hg hsize (argsL := [.int a, .int 4]) (rest := rest)
    (fun sig hs => by
      have h : parseMethodDescriptor "(II)I" = some { parameters := [.int, .int], returnType := some .int } := by decide +kernel
      rw [show yJM_floorMod.desc = "(II)I" from rfl, h] at hs
      rw [← Option.some.inj hs]; rfl)
    hstack hdg
    (fun vm' hW => by
      simp only [fmSpec, Cond.before_and, Bool.and_eq_true]
      refine ⟨?_, ⟨rfl, rfl, rfl⟩, rfl, by simp [Cond.before, Cond.holds, Cond.value, Term.eval]⟩
      have q := hcode
      rw [← Cond.code_setVm hW.alike] at q
      simp only [Cond.before, Cond.holds, Cond.value, State.methodNamed?, State.vm_setVm] at q ⊢
      exact q)
    (by show 0 + 1 ≤ R.frames; omega) (by show 2 * g.monitorRoom + (rest.map fun v => v.category).sum + (3 + 11) + 0 ≤ R.locals; omega) (by show cells + 0 ≤ R.cells; omega) (by show slots + 0 ≤ R.slots; omega)
  rcases v with _ | w
  · simp [fmSpec, Cond.after, Cond.holds, Cond.value, Term.eval] at hpost
  · cases w with
    | int r =>
      have hr : r = fmX a := by simpa [fmSpec, Cond.after, Cond.holds, Cond.value, Term.eval] using hpost
      subst hr
      exact ⟨T', X', hstep⟩
    | _ => simp [fmSpec, Cond.after, Cond.holds, Cond.value, Term.eval] at hpost
end VFM
section WFM
variable {cls : List rf} {l : Launch} {G : va_G} {cy : Nat → ClassId} {ad : rf → Nat} {y : MethodName} {b : ByteArray} {n : Nat} {r : Option FieldType} {d : Nat} {pc : Nat} {ls : List (Nat × mV)} {st : List mV} {M : mM} {Q : Int32 → mM → Prop}
theorem w_floorMod4 {x : Int32} {idx : Nat} (hl1 : Cond.methodLink y.cls idx yJM_floorMod ∈ BASE) (h2 : Cond.static yJM_floorMod ∈ BASE) (h3 : Cond.initialized "java/lang/Math" ∈ BASE) (h4 : Cond.code yJM_floorMod cJM_floorMod 3 (some .int) ∈ BASE) (hs : st.length ≤ 4) (hd1 : 1 ≤ d) (hd : decode b pc = .ok (.invokestatic idx, 3)) (kk : ∀ z : Int32, z = fmX x → WP cls l G cy ad y b n r d (pc + 3) ls (vI z :: st) M Q) : WP cls l G cy ad y b n r d pc ls (vI 4 :: vI x :: st) M Q := by
  intro p e s m args below meth c' A X lsA H locs hl hP hS T hT hXs
  have hX := X
  obtain ⟨hx1, hb, hr, hml, hts, hown, hlk, hE, hT2, hA⟩ := X
  have hc := catsum ad st
  obtain ⟨vm', X', hst⟩ := fm_V hXs hx1 hown (hts _ hl1) (hts _ h2) (hts _ h3) (hts _ h4) (g := F0 m pc lsA ((vI 4 :: vI x :: st).map (gv ad))) rfl (hl.1.trans hml.symm) (a := x) (rest := st.map (gv ad)) rfl (by rw [hb]; exact hd) (by show 1 ≤ d; exact hd1) (by show 2 * 0 + _ + 14 ≤ 100 * d; omega) (Nat.zero_le _) (Nat.zero_le _)
  obtain ⟨t, a1, b1⟩ := kk (fmX x) rfl p e s m args below meth c' A hX lsA H locs hl hP hS (T.setVm vm') hT X'
  exact ⟨t, hst t a1, b1⟩
end WFM
