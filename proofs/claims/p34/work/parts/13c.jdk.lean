/-! members of the JDK that are walked as methods of the class are -/
def yJI_bitCount : MethodName := ⟨"java/lang/Integer", "bitCount", "(I)I"⟩
abbrev cJI_bitCount : ByteArray := prog_16_method_49_code
def yJL_bitCount : MethodName := ⟨"java/lang/Long", "bitCount", "(J)I"⟩
abbrev cJL_bitCount : ByteArray := prog_17_method_50_code
def yJM_floorMod : MethodName := ⟨"java/lang/Math", "floorMod", "(II)I"⟩
abbrev cJM_floorMod : ByteArray := prog_18_method_50_code
section WPJDK
variable {cls : List rf} {l : Launch} {G : va_G} {cy : Nat → ClassId} {ad : rf → Nat} {y : MethodName} {b : ByteArray} {n : Nat} {r : Option FieldType} {d : Nat} {pc : Nat} {ls : List (Nat × mV)} {st : List mV} {M : mM} {Q : Int32 → mM → Prop}
theorem w_iushr {x w : Int32} (hd : decode b pc = .ok (.iushr, 1)) (kk : ∀ z : Int32, WP cls l G cy ad y b n r d (pc + 1) ls (vI z :: st) M Q) : WP cls l G cy ad y b n r d pc ls (vI w :: vI x :: st) M Q := fun p e s m args below meth c A X lsA H locs hl hP hS => lv_iushr X.1 X.2.1 hd rfl (kk _ p e s m args below meth c A X lsA H locs hl hP hS)
theorem w_lsub {x w : Int64} (hd : decode b pc = .ok (.lsub, 1)) (kk : ∀ z : Int64, WP cls l G cy ad y b n r d (pc + 1) ls (vL z :: st) M Q) : WP cls l G cy ad y b n r d pc ls (vL w :: vL x :: st) M Q := fun p e s m args below meth c A X lsA H locs hl hP hS => lv_lsub X.1 X.2.1 hd (kk _ p e s m args below meth c A X lsA H locs hl hP hS)
/-- Math.floorMod by 4: some int -/
theorem w_floorMod4 {x : Int32} {idx : Nat} (hl1 : Cond.methodLink y.cls idx yJM_floorMod ∈ BASE) (h2 : Cond.static yJM_floorMod ∈ BASE) (h3 : Cond.initialized "java/lang/Math" ∈ BASE) (h4 : Cond.code yJM_floorMod cJM_floorMod 3 (some .int) ∈ BASE) (hs : st.length ≤ 4) (hd1 : 1 ≤ d) (hd : decode b pc = .ok (.invokestatic idx, 3)) (kk : ∀ z : Int32, WP cls l G cy ad y b n r d (pc + 3) ls (vI z :: st) M Q) : WP cls l G cy ad y b n r d pc ls (vI 4 :: vI x :: st) M Q := by
  sorry
end WPJDK
