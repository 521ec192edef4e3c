/-! constant Strings: length, charAt (rows; their proof comes later) -/
def yS_length : MethodName := ⟨"java/lang/String", "length", "()I"⟩
def yS_charAt : MethodName := ⟨"java/lang/String", "charAt", "(I)C"⟩
section WPST
variable {cls : List rf} {l : Launch} {G : va_G} {cy : Nat → ClassId} {ad : rf → Nat} {y : MethodName} {b : ByteArray} {n : Nat} {r : Option FieldType} {d : Nat} {pc : Nat} {ls : List (Nat × mV)} {st : List mV} {M : mM} {Q : Int32 → mM → Prop}
theorem w_strlen {k : Nat} {bs : List Int32} {v : Int32} {idx : Nat} (hk : SBs[k]? = some bs) (hl1 : Cond.methodLink y.cls idx yS_length ∈ BASE) (hs : st.length ≤ 4) (hd1 : 8 ≤ d) (hd : decode b pc = .ok (.invokevirtual idx, 3)) (hv : Int32.ofNat bs.length = v) (kk : WP cls l G cy ad y b n r d (pc + 3) ls (vI v :: st) M Q) : WP cls l G cy ad y b n r d pc ls (vR (91, k, 0) :: st) M Q := by
  sorry
theorem w_charAt {k : Nat} {bs : List Int32} {x : Int32} {idx : Nat} (hk : SBs[k]? = some bs) (hl1 : Cond.methodLink y.cls idx yS_charAt ∈ BASE) (hs : st.length ≤ 4) (hd1 : 8 ≤ d) (hx : 0 ≤ x.toInt ∧ x.toInt < (bs.length : Int)) (hd : decode b pc = .ok (.invokevirtual idx, 3)) (kk : ∀ z : Int32, WP cls l G cy ad y b n r d (pc + 3) ls (vI z :: st) M Q) : WP cls l G cy ad y b n r d pc ls (vI x :: vR (91, k, 0) :: st) M Q := by
  sorry
end WPST
