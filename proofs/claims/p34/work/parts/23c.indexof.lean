section WPR
variable {cls : List rf} {l : Launch} {G : va_G} {cy : Nat → ClassId} {ad : rf → Nat} {y : MethodName} {b : ByteArray} {n : Nat} {r : Option FieldType} {d : Nat} {pc : Nat} {ls : List (Nat × mV)} {st : List mV} {M : mM} {Q : Int32 → mM → Prop}
def yS_indexOf : MethodName := ⟨"java/lang/String", "indexOf", "(I)I"⟩
/-- String.indexOf(int) of a constant: some int -/
theorem w_indexOf {k : Nat} {x : Int32} {idx : Nat} (hk : k < 7) (hl1 : Cond.methodLink y.cls idx yS_indexOf ∈ BASE) (hs : st.length ≤ 4) (hd1 : 8 ≤ d) (hd : decode b pc = .ok (.invokevirtual idx, 3)) (kk : ∀ z : Int32, WP cls l G cy ad y b n r d (pc + 3) ls (vI z :: st) M Q) : WP cls l G cy ad y b n r d pc ls (vI x :: vR (91, k, 0) :: st) M Q := by
  sorry
end WPR
