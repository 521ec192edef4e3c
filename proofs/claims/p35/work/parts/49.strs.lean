/-! constant Strings: length, charAt -/
def CHX (k : Nat) (x z : Int32) (M : mM) : Prop := match k with
  | 0 => SP_S_charAt_0 x M z
  | 1 => SP_S_charAt_1 x M z
  | 2 => SP_S_charAt_2 x M z
  | 3 => SP_S_charAt_3 x M z
  | 4 => SP_S_charAt_4 x M z
  | 5 => SP_S_charAt_5 x M z
  | 6 => SP_S_charAt_6 x M z
  | _ => False
section WPST
variable {cls : List rf} {l : Launch} {G : va_G} {cy : Nat → ClassId} {ad : rf → Nat} {y : MethodName} {b : ByteArray} {n : Nat} {r : Option FieldType} {d : Nat} {pc : Nat} {ls : List (Nat × mV)} {st : List mV} {M : mM} {Q : Int32 → mM → Prop}
theorem w_strlen {k : Nat} {bs : List Int32} {v : Int32} {idx : Nat} (hk : SBs[k]? = some bs) (hl1 : Cond.methodLink y.cls idx yS_length ∈ BASE) (hs : st.length ≤ 4) (hd1 : 8 ≤ d) (hd : decode b pc = .ok (.invokevirtual idx, 3)) (hv : Int32.ofNat bs.length = v) (kk : WP cls l G cy ad y b n r d (pc + 3) ls (vI v :: st) M Q) : WP cls l G cy ad y b n r d pc ls (vR (91, k, 0) :: st) M Q := by
  obtain ⟨e, rfl⟩ : ∃ e : Nat, d = e + 1 + 1 := ⟨d - 2, by omega⟩
  subst hv
  match k, hk with
  | 0, hk => cases hk; exact w_callStr (k := 0) rfl (as := []) (rest := st) (c_S_length_0 l G cy ad e M) kV_S_length (by decide +kernel) rfl (Nat.le_of_ble_eq_true rfl) hl1 rfl rfl (by decide) hs hd (fun v M9 q => by obtain ⟨rfl, rfl, -⟩ := q; exact kk)
  | 1, hk => cases hk; exact w_callStr (k := 1) rfl (as := []) (rest := st) (c_S_length_1 l G cy ad e M) kV_S_length (by decide +kernel) rfl (Nat.le_of_ble_eq_true rfl) hl1 rfl rfl (by decide) hs hd (fun v M9 q => by obtain ⟨rfl, rfl, -⟩ := q; exact kk)
  | 2, hk => cases hk; exact w_callStr (k := 2) rfl (as := []) (rest := st) (c_S_length_2 l G cy ad e M) kV_S_length (by decide +kernel) rfl (Nat.le_of_ble_eq_true rfl) hl1 rfl rfl (by decide) hs hd (fun v M9 q => by obtain ⟨rfl, rfl, -⟩ := q; exact kk)
  | 3, hk => cases hk; exact w_callStr (k := 3) rfl (as := []) (rest := st) (c_S_length_3 l G cy ad e M) kV_S_length (by decide +kernel) rfl (Nat.le_of_ble_eq_true rfl) hl1 rfl rfl (by decide) hs hd (fun v M9 q => by obtain ⟨rfl, rfl, -⟩ := q; exact kk)
  | 4, hk => cases hk; exact w_callStr (k := 4) rfl (as := []) (rest := st) (c_S_length_4 l G cy ad e M) kV_S_length (by decide +kernel) rfl (Nat.le_of_ble_eq_true rfl) hl1 rfl rfl (by decide) hs hd (fun v M9 q => by obtain ⟨rfl, rfl, -⟩ := q; exact kk)
  | 5, hk => cases hk; exact w_callStr (k := 5) rfl (as := []) (rest := st) (c_S_length_5 l G cy ad e M) kV_S_length (by decide +kernel) rfl (Nat.le_of_ble_eq_true rfl) hl1 rfl rfl (by decide) hs hd (fun v M9 q => by obtain ⟨rfl, rfl, -⟩ := q; exact kk)
  | 6, hk => cases hk; exact w_callStr (k := 6) rfl (as := []) (rest := st) (c_S_length_6 l G cy ad e M) kV_S_length (by decide +kernel) rfl (Nat.le_of_ble_eq_true rfl) hl1 rfl rfl (by decide) hs hd (fun v M9 q => by obtain ⟨rfl, rfl, -⟩ := q; exact kk)
  | k + 7, hk => exact absurd hk (by simp [SBs])
theorem w_charAt {k : Nat} {bs : List Int32} {x : Int32} {idx : Nat} (hk : SBs[k]? = some bs) (hl1 : Cond.methodLink y.cls idx yS_charAt ∈ BASE) (hs : st.length ≤ 4) (hd1 : 8 ≤ d) (hx : 0 ≤ x.toInt ∧ x.toInt < (bs.length : Int)) (hd : decode b pc = .ok (.invokevirtual idx, 3)) (kk : ∀ z : Int32, CHX k x z M → WP cls l G cy ad y b n r d (pc + 3) ls (vI z :: st) M Q) : WP cls l G cy ad y b n r d pc ls (vI x :: vR (91, k, 0) :: st) M Q := by
  obtain ⟨e, rfl⟩ : ∃ e : Nat, d = e + 4 + 1 := ⟨d - 5, by omega⟩
  match k, hk with
  | 0, hk => cases hk; exact w_callStr (k := 0) rfl (as := [vI x]) (rest := st) (c_S_charAt_0 l G cy ad e x M hx) kV_S_charAt (by decide +kernel) rfl (Nat.le_of_ble_eq_true rfl) hl1 rfl rfl (by decide) hs hd (fun v M9 q => by obtain ⟨rfl, -, hs_⟩ := q; exact kk v hs_)
  | 1, hk => cases hk; exact w_callStr (k := 1) rfl (as := [vI x]) (rest := st) (c_S_charAt_1 l G cy ad e x M hx) kV_S_charAt (by decide +kernel) rfl (Nat.le_of_ble_eq_true rfl) hl1 rfl rfl (by decide) hs hd (fun v M9 q => by obtain ⟨rfl, -, hs_⟩ := q; exact kk v hs_)
  | 2, hk => cases hk; exact w_callStr (k := 2) rfl (as := [vI x]) (rest := st) (c_S_charAt_2 l G cy ad e x M hx) kV_S_charAt (by decide +kernel) rfl (Nat.le_of_ble_eq_true rfl) hl1 rfl rfl (by decide) hs hd (fun v M9 q => by obtain ⟨rfl, -, hs_⟩ := q; exact kk v hs_)
  | 3, hk => cases hk; exact w_callStr (k := 3) rfl (as := [vI x]) (rest := st) (c_S_charAt_3 l G cy ad e x M hx) kV_S_charAt (by decide +kernel) rfl (Nat.le_of_ble_eq_true rfl) hl1 rfl rfl (by decide) hs hd (fun v M9 q => by obtain ⟨rfl, -, hs_⟩ := q; exact kk v hs_)
  | 4, hk => cases hk; exact w_callStr (k := 4) rfl (as := [vI x]) (rest := st) (c_S_charAt_4 l G cy ad e x M hx) kV_S_charAt (by decide +kernel) rfl (Nat.le_of_ble_eq_true rfl) hl1 rfl rfl (by decide) hs hd (fun v M9 q => by obtain ⟨rfl, -, hs_⟩ := q; exact kk v hs_)
  | 5, hk => cases hk; exact w_callStr (k := 5) rfl (as := [vI x]) (rest := st) (c_S_charAt_5 l G cy ad e x M hx) kV_S_charAt (by decide +kernel) rfl (Nat.le_of_ble_eq_true rfl) hl1 rfl rfl (by decide) hs hd (fun v M9 q => by obtain ⟨rfl, -, hs_⟩ := q; exact kk v hs_)
  | 6, hk => cases hk; exact w_callStr (k := 6) rfl (as := [vI x]) (rest := st) (c_S_charAt_6 l G cy ad e x M hx) kV_S_charAt (by decide +kernel) rfl (Nat.le_of_ble_eq_true rfl) hl1 rfl rfl (by decide) hs hd (fun v M9 q => by obtain ⟨rfl, -, hs_⟩ := q; exact kk v hs_)
  | k + 7, hk => exact absurd hk (by simp [SBs])
end WPST
