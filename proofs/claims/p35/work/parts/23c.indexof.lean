/-! members of String and StringLatin1 over constants: rows -/
def yS_indexOf : MethodName := ⟨"java/lang/String", "indexOf", "(I)I"⟩
def yS_indexOf2 : MethodName := ⟨"java/lang/String", "indexOf", "(II)I"⟩
def yS_length : MethodName := ⟨"java/lang/String", "length", "()I"⟩
def yS_coder : MethodName := ⟨"java/lang/String", "coder", "()B"⟩
def yS_isLatin1 : MethodName := ⟨"java/lang/String", "isLatin1", "()Z"⟩
def yS_charAt : MethodName := ⟨"java/lang/String", "charAt", "(I)C"⟩
def yS_checkIndex : MethodName := ⟨"java/lang/String", "checkIndex", "(II)V"⟩
def ySL_charAt : MethodName := ⟨"java/lang/StringLatin1", "charAt", "([BI)C"⟩
def ySL_indexOf : MethodName := ⟨"java/lang/StringLatin1", "indexOf", "([BIII)I"⟩
def ySL_indexOfChar : MethodName := ⟨"java/lang/StringLatin1", "indexOfChar", "([BIII)I"⟩
def ySL_canEncode : MethodName := ⟨"java/lang/StringLatin1", "canEncode", "(I)Z"⟩
def yP_checkIndex : MethodName := ⟨"jdk/internal/util/Preconditions", "checkIndex", "(IILjava/util/function/BiFunction;)I"⟩
abbrev cS_indexOf : ByteArray := prog_19_method_79_code
abbrev cS_indexOf2 : ByteArray := prog_19_method_80_code
abbrev cS_length : ByteArray := prog_19_method_54_code
abbrev cS_coder : ByteArray := prog_19_method_152_code
abbrev cS_isLatin1 : ByteArray := prog_19_method_154_code
abbrev cS_charAt : ByteArray := prog_19_method_56_code
abbrev cS_checkIndex : ByteArray := prog_19_method_155_code
abbrev cSL_charAt : ByteArray := prog_20_method_2_code
abbrev cSL_indexOf : ByteArray := prog_20_method_22_code
abbrev cSL_indexOfChar : ByteArray := prog_20_method_23_code
abbrev cSL_canEncode : ByteArray := prog_20_method_4_code
abbrev cP_checkIndex : ByteArray := prog_23_method_11_code
theorem nar_c (x : Int32) : narrow .char (.int ((x.toUInt32 % 65536).toInt32)) = .int ((x.toUInt32 % 65536).toInt32) := by
  simp [narrow, Lib.u32_mod_mod]
section WPSTR
variable {cls : List rf} {l : Launch} {G : va_G} {cy : Nat → ClassId} {ad : rf → Nat} {y : MethodName} {b : ByteArray} {n : Nat} {r : Option FieldType} {d : Nat} {pc : Nat} {ls : List (Nat × mV)} {st : List mV} {M : mM} {Q : Int32 → mM → Prop}
theorem w_getSv {k idx : Nat} {bs : List Int32} (hk : SBs[k]? = some bs) (hw : Cond.fieldLink y.cls idx "java/lang/String" "value" "[B" ∈ BASE) (hd : decode b pc = .ok (.getfield idx, 3)) (kk : WP cls l G cy ad y b n r d (pc + 3) ls (vR (90, 10 + k, 0) :: st) M Q) : WP cls l G cy ad y b n r d pc ls (vR (91, k, 0) :: st) M Q := by
  intro p e s m args below meth c A X lsA H locs hl hP hS
  have kk := kk p e s m args below meth c A X lsA H locs hl hP hS
  obtain ⟨hx1, hb, hr, hml, hts, hown, hlk, hE, hT, hA⟩ := X
  exact vk_getf hx1 hb (hT.2.2.1 k _ hk).2.2.1 hS hown (hts _ hw) (fun _ h9 => h9) hd kk
theorem w_getSc {k idx : Nat} {bs : List Int32} (hk : SBs[k]? = some bs) (hw : Cond.fieldLink y.cls idx "java/lang/String" "coder" "B" ∈ BASE) (hd : decode b pc = .ok (.getfield idx, 3)) (kk : WP cls l G cy ad y b n r d (pc + 3) ls (vI 0 :: st) M Q) : WP cls l G cy ad y b n r d pc ls (vR (91, k, 0) :: st) M Q := by
  intro p e s m args below meth c A X lsA H locs hl hP hS
  have kk := kk p e s m args below meth c A X lsA H locs hl hP hS
  obtain ⟨hx1, hb, hr, hml, hts, hown, hlk, hE, hT, hA⟩ := X
  exact vk_getf hx1 hb (hT.2.2.1 k _ hk).2.1 hS hown (hts _ hw) (fun _ h9 => h9) hd kk
theorem w_getsC {idx : Nat} (hw : Cond.fieldLink y.cls idx "java/lang/String" "COMPACT_STRINGS" "Z" ∈ BASE) (hd : decode b pc = .ok (.getstatic idx, 3)) (kk : WP cls l G cy ad y b n r d (pc + 3) ls (vI 1 :: st) M Q) : WP cls l G cy ad y b n r d pc ls st M Q := by
  intro p e s m args below meth c A X lsA H locs hl hP hS
  have kk := kk p e s m args below meth c A X lsA H locs hl hP hS
  obtain ⟨hx1, hb, hr, hml, hts, hown, hlk, hE, hT, hA⟩ := X
  exact va_gets hx1 hb hT.2.1 hS hown (hts _ hw) (fun _ h9 => h9) hd kk
theorem w_alenS {k : Nat} {bs : List Int32} {v : Int32} (hk : SBs[k]? = some bs) (hd : decode b pc = .ok (.arraylength, 1)) (hv : Int32.ofNat bs.length = v) (kk : WP cls l G cy ad y b n r d (pc + 1) ls (vI v :: st) M Q) : WP cls l G cy ad y b n r d pc ls (vR (90, 10 + k, 0) :: st) M Q := by
  intro p e s m args below meth c A X lsA H locs hl hP hS
  have kk := kk p e s m args below meth c A X lsA H locs hl hP hS
  obtain ⟨hx1, hb, hr, hml, hts, hown, hlk, hE, hT, hA⟩ := X
  exact va_tlen hx1 hb (hT.2.2.1 k _ hk).2.2.2 hS hv hd kk
theorem w_baldS {k : Nat} {bs : List Int32} {x : Int32} {a : Int} (hk : SBs[k]? = some bs) (hx : x.toInt = a) (h : 0 ≤ a ∧ a < (bs.length : Nat)) (hd : decode b pc = .ok (.baload, 1)) (kk : ∀ j : Nat, (j : Int) = a → ∀ z : Int32, z = bs.getD j 0 → WP cls l G cy ad y b n r d (pc + 1) ls (vI z :: st) M Q) : WP cls l G cy ad y b n r d pc ls (vI x :: vR (90, 10 + k, 0) :: st) M Q := by
  intro p e s m args below meth c A X lsA H locs hl hP hS
  have kk := kk _ (clI hx h.1) _ rfl p e s m args below meth c A X lsA H locs hl hP hS
  obtain ⟨hx1, hb, hr, hml, hts, hown, hlk, hE, hT, hA⟩ := X
  exact va_tb hx1 hb (hT.2.2.1 k _ hk).2.2.2 hS (vinI hx h) rfl hd kk
theorem w_bret {v : Int32} {ty : FieldType} (hr : r = some ty) (hd : decode b pc = .ok (.ireturn, 1)) (hn : narrow ty (.int v) = .int v) (hQ : Q v M) : WP cls l G cy ad y b n r d pc ls [vI v] M Q := by
  intro p e s m args below meth c A X lsA H locs hl hP hS
  obtain ⟨hx1, hb, hr1, hml, hts, hown, hlk, hE, hT, hA⟩ := X
  subst hr
  exact W.zret (v := v) hx1 hb hr1 hn (fun t ht hW => ⟨⟨v, M, rfl, hQ, by show WO cls G cy ad A M t.heap; rw [ht]; exact hP⟩, hS.F ht⟩) hS.2.2 hd
variable {y' : MethodName} {b' : ByteArray} {n' : Nat} {Q' : Int32 → mM → Prop} {as rest : List mV} {idx kn : Nat}
/-- a method of a constant String is called -/
theorem w_callStr {ty : FieldType} {k : Nat} {bs : List Int32} (hk : SBs[k]? = some bs) (hc : WP cls l G cy ad y' b' n' (some ty) d 0 (las 0 (vR (91, k, 0) :: as)) [] M Q') (hy : KV y' b' n' (some ty) kn) (hp : plainName y'.cls = true) (hq : "java/lang/String" = y'.cls) (hn : (lg_sl ((vR (91, k, 0) :: as).map (gv ad))).length ≤ n') (hl : Cond.methodLink y.cls idx y' ∈ BASE) (hkn : as.length = kn) (hst : st = as.reverse ++ ([vR (91, k, 0)] ++ rest)) (hb8 : n' ≤ 80) (hr4 : rest.length ≤ 4) (hd : decode b pc = .ok (.invokevirtual idx, 3))
    (kk : ∀ (v : Int32) (M' : mM), Q' v M' → WP cls l G cy ad y b n r (d + 1) (pc + 3) ls (vI v :: rest) M' Q) : WP cls l G cy ad y b n r (d + 1) pc ls st M Q := by
  intro p e s m args below meth c A X lsA H locs hl2 hP hS
  have hX := X
  obtain ⟨hx, hb, hr, hml, hts, hown, hlk, hE, hT, hA⟩ := X
  subst hst
  rw [args_st]
  have hM := toMet hc hp hn H.size
  have hF := WO_free hP hS hA
  have hrec : ∃ cell : Cell, H[ad (91, k, 0)]? = some cell ∧ cell.vm.isStatics = false ∧ s.vm.findClass y'.cls = some cell.cls := by
    obtain ⟨cell, h1, h2, h3, h4⟩ := (hT.2.2.1 k _ hk).1.kept hS.2.1
    exact ⟨cell, h1, h2, hq ▸ h3⟩
  have hcat := catsum ad rest
  refine va_calli (va_runV (rest := rest.map (gv ad)) ⟨hx, hb, hml, hown, hts⟩ hM (cwV kn hts (gV hy hl) rfl rfl rfl ⟨rfl, hy.2.2.2.2⟩ ⟨Nat.le_refl _, by show 8 + (n' + 11) + 100 * d ≤ 100 * (d + 1); omega⟩) ⟨PG_blind, hrec, PG_of hS hT hP.1 hP.2 hE⟩ rfl (by rw [List.length_map]; exact hkn) hl2.1 rfl (lv_room (by omega)) hd ⟨Nat.le_refl _, Nat.le_refl _⟩) hS (fun q _ h => hF q h) hF (fun v u t H1 locs1 ht hvm hpo hB hz hkp hS1 => ?_)
  subst ht
  exact kk v u hpo p e s m args below meth c A hX lsA _ locs1 hl2 (WO_up hB hF) hS1
/-- Preconditions.checkIndex within its bounds -/
theorem dP_0 : decode cP_checkIndex 0 = .ok (.iload_n 0, 1) := by decide +kernel
theorem dP_1 : decode cP_checkIndex 1 = .ok (.ifCond .lt 8, 3) := by decide +kernel
theorem dP_4 : decode cP_checkIndex 4 = .ok (.iload_n 0, 1) := by decide +kernel
theorem dP_5 : decode cP_checkIndex 5 = .ok (.iload_n 1, 1) := by decide +kernel
theorem dP_6 : decode cP_checkIndex 6 = .ok (.if_icmp .lt 10, 3) := by decide +kernel
theorem dP_16 : decode cP_checkIndex 16 = .ok (.iload_n 0, 1) := by decide +kernel
theorem dP_17 : decode cP_checkIndex 17 = .ok (.ireturn, 1) := by decide +kernel
theorem dCI_0 : decode cS_checkIndex 0 = .ok (.iload_n 0, 1) := by decide +kernel
theorem dCI_1 : decode cS_checkIndex 1 = .ok (.iload_n 1, 1) := by decide +kernel
theorem dCI_2 : decode cS_checkIndex 2 = .ok (.getstatic 1053, 3) := by decide +kernel
theorem dCI_5 : decode cS_checkIndex 5 = .ok (.invokestatic 1059, 3) := by decide +kernel
theorem dCI_8 : decode cS_checkIndex 8 = .ok (.pop, 1) := by decide +kernel
theorem dCI_9 : decode cS_checkIndex 9 = .ok (.return_, 1) := by decide +kernel
theorem met_P {x w : Int32} {v : Value} {a c0 : Int} (hx : x.toInt = a) (hw : w.toInt = c0) (h : 0 ≤ a ∧ a < c0) (hv : (lg_sl [.int x, .int w, v]).length ≤ 3) (hls : lv_args 0 [.int x, .int w, v] = [(0, .int x), (1, .int w), (2, v)]) (sz : Nat) :
    Met l yP_checkIndex (wsO yP_checkIndex cP_checkIndex 3 (some .int)) (rmd 0) (va_Pc [.int x, .int w, v] (PW cls G cy ad sz M)) (va_Qi (fun _ (M' : mM) => M = M') (fun M' t => WO cls G cy ad (va_A (WS cls cy ad M) sz) M' t.heap) (va_A (WS cls cy ad M) sz)) 0 0 (va_A (WS cls cy ad M) sz) := by
  refine Met.ofW (cc := cP_checkIndex) (maxL := 3) (ret := some .int) (ws' := BASE) (by decide +kernel) rfl ?_
  intro p e s m args below meth c s₁ B hml hv2
  obtain ⟨rfl, ⟨hsz, hP, hE, hD⟩, hT⟩ := hv2
  rw [lg_entry_eq]
  subst hsz
  have hl := lv_entry ([.int x, .int w, v]) hv
  rw [hls] at hl
  have hS : va_S (va_A (WS cls cy ad M) s.heap.size) s.heap s.heap [] := va_S.rf
  refine lv_iload_n B.exec B.bytes dP_0 rfl (lv_at hl 0 rfl) ?_
  refine lv_if_lt (tgt := 9) B.exec B.bytes dP_1 (by decide) (fun q => absurd (cvLt hx rfl q) (by have : (0 : Int32).toInt = 0 := rfl; omega)) (fun _ => ?_)
  refine lv_iload_n B.exec B.bytes dP_4 rfl (lv_at hl 0 rfl) ?_
  refine lv_iload_n B.exec B.bytes dP_5 rfl (lv_at hl 1 rfl) ?_
  refine lv_icmp_lt (tgt := 16) B.exec B.bytes dP_6 (by decide) (fun _ => ?_) (fun q => absurd (cvnLt hx hw q) (by omega))
  refine lv_iload_n B.exec B.bytes dP_16 rfl (lv_at hl 0 rfl) ?_
  exact W.iret (v := x) B.exec B.bytes B.returns (fun t ht hW => ⟨⟨x, M, rfl, rfl, by show WO cls G cy ad _ M t.heap; rw [ht]; exact ⟨hP, hD.self⟩⟩, hS.F ht⟩) hS.2.2 dP_17
theorem met_CI {x w : Int32} {a c0 : Int} (hx : x.toInt = a) (hw : w.toInt = c0) (h : 0 ≤ a ∧ a < c0) (k1 : Cond.fieldLink "java/lang/String" 1053 "jdk/internal/util/Preconditions" "SIOOBE_FORMATTER" "Ljava/util/function/BiFunction;" ∈ BASE) (k2 : Cond.methodLink "java/lang/String" 1059 yP_checkIndex ∈ BASE) (hy : KS yP_checkIndex cP_checkIndex 3 (some .int) 3) (sz : Nat) :
    Met l yS_checkIndex (wsO yS_checkIndex cS_checkIndex 2 none) (rmd 1) (va_Pc [.int x, .int w] (PW cls G cy ad sz M)) (va_Qv (fun (M' : mM) => M = M') (fun M' t => WO cls G cy ad (va_A (WS cls cy ad M) sz) M' t.heap) (va_A (WS cls cy ad M) sz)) 0 0 (va_A (WS cls cy ad M) sz) := by
  refine Met.ofW (cc := cS_checkIndex) (maxL := 2) (ret := none) (ws' := BASE) (by decide +kernel) rfl ?_
  intro p e s m args below meth c s₁ B hml hv2
  obtain ⟨rfl, ⟨hsz, hP, hE, hD⟩, hT0⟩ := hv2
  have hts0 := atoms_spec (ws := wsO yS_checkIndex cS_checkIndex 2 none) B.pre
  have hts : ∀ w9 ∈ BASE, w9.before #[Value.int x, Value.int w] s = true := fun w9 hw9 => hts0 w9 (List.mem_cons_of_mem _ hw9)
  have hown : s.vm.findClass "java/lang/String" = some m.cls := findClass_of_methodNamed B.named
  rw [lg_entry_eq]
  subst hsz
  have hT := hT0.up
  have hS : va_S (va_A (WS cls cy ad M) s.heap.size) s.heap s.heap [] := va_S.rf
  have hA : ∀ q : Nat, s.heap.size ≤ q → va_A (WS cls cy ad M) s.heap.size q := fun q h => Or.inr h
  have hW : WO cls G cy ad (va_A (WS cls cy ad M) s.heap.size) M s.heap := ⟨hP, hD.self⟩
  have hl : lv_has _ 2 [(0, .int x), (1, .int w)] := lv_entry ([.int x, .int w]) (n := 2) (Nat.le_of_ble_eq_true rfl)
  refine lv_iload_n B.exec B.bytes dCI_0 rfl (lv_at hl 0 rfl) ?_
  refine lv_iload_n B.exec B.bytes dCI_1 rfl (lv_at hl 1 rfl) ?_
  have go : ∀ v : Value, va_Z "jdk/internal/util/Preconditions" "SIOOBE_FORMATTER" "Ljava/util/function/BiFunction;" v (va_A (WS cls cy ad M) s.heap.size) s s.heap → (lg_sl [.int x, .int w, v]).length ≤ 3 → lv_args 0 [.int x, .int w, v] = [(0, .int x), (1, .int w), (2, v)] → ([Value.int x, Value.int w, v].map fun v9 => v9.category).sum ≤ 3 → W p l e (headSpec (wsO yS_checkIndex cS_checkIndex 2 none) (rmd 1)).room s m #[Value.int x, Value.int w] below meth c s.heap [] 0 0 (MQ below (va_Qv (fun (M' : mM) => M = M') (fun M' t => WO cls G cy ad (va_A (WS cls cy ad M) s.heap.size) M' t.heap) (va_A (WS cls cy ad M) s.heap.size)) #[Value.int x, Value.int w] s 0 0 (va_A (WS cls cy ad M) s.heap.size)) (F0 m 2 (lg_sl [.int x, .int w] ++ List.replicate (2 - (lg_sl [.int x, .int w]).length) Slot.unset).toArray [.int w, .int x]) := by
    intro v hZ hv hls hcat
    refine va_gets B.exec B.bytes hZ hS hown (hts _ k1) (fun _ h9 => h9) dCI_2 ?_
    have hF := WO_free (M := M) hW hS hA
    refine va_calli (va_runS (rest := []) ⟨B.exec, B.bytes, hml, hown, hts⟩ (met_P hx hw h hv hls s.heap.size) (va_cwS 3 hts (gS hy k2) rfl rfl rfl hy.2.2.2 ⟨Nat.le_refl _, by show 8 + (3 + 11) + 0 ≤ 100; omega⟩) ⟨PG_blind, PG_of hS hT hP hW.2 hE⟩ rfl rfl hl.1 rfl (lv_room (by show 0 ≤ _; omega)) dCI_5 ⟨Nat.le_refl _, Nat.le_refl _⟩) hS (fun q _ h => hF q h) hF (fun v u t H1 locs1 ht hvm hpo hB hz hkp hS1 => ?_)
    subst ht
    subst hpo
    refine lv_pop B.exec B.bytes dCI_8 rfl ?_
    exact W.vret B.exec B.bytes B.returns (fun t2 ht2 hW2 => ⟨⟨M, rfl, rfl, by show WO cls G cy ad _ M t2.heap; rw [ht2]; exact hB⟩, hS1.F ht2⟩) hS1.2.2 dCI_9
  rcases hT.2.2.2 with hZ | ⟨t, hZ⟩
  · exact go .null hZ (Nat.le_of_ble_eq_true rfl) rfl (Nat.le_of_ble_eq_true rfl)
  · exact go (.ref t) hZ (Nat.le_of_ble_eq_true rfl) rfl (Nat.le_of_ble_eq_true rfl)
end WPSTR
