theorem lf_c_X1_isGiven_0 (z : Int32) (c_1 : z ≤ 0) : ¬ 0 < z := by simp_all
theorem lf_c_X1_isGiven_1 (z : Int32) (c_1 : ¬ z ≤ 0) : 0 < z := by simp_all
set_option maxHeartbeats 4000000 in
set_option maxRecDepth 100000 in
theorem c_X1_isGiven (l : Launch) (G : va_G) (cy : Nat → ClassId) (sk sa : Nat → Nat) (sz : Nat) (fo : Nat) (co : Nat) (ck : Nat) (z : Int32)  : Met l yX1_isGiven (wsO yX1_isGiven cX1_isGiven 1 (some .boolean)) ({ frames := 0, cells := 0, slots := 0, locals := 0 }) (va_Pc [.ref fo] (PG G cy sk sa sz [(fo, .inr (1, [.ref co, .ref ck, .int z]))])) (vp_Si (fun r => (r = 1 ∧ 0 < z) ∨ (r = 0 ∧ ¬ 0 < z))) 0 0 (fun _ => False) := by
  refine mgr (by decide) (Nat.le_of_ble_eq_true rfl) ?_
  intro p e s m below meth c ls A hx hb hr hml hts hown hlocks hin hsz hP hE hD hS hT hl
  subst hsz
  have hl : lv_has ls 1 [(0, .ref fo)] := hl
  refine lv_aload_n hx hb dX1_isGiven_0 rfl (lv_at hl 0 rfl) ?_
  refine va_get (D := G) (ci := 1) (v := .int z) (C := RX1) (T := TX1) (N := 3) hx hb hts inB1 hown hE.1 hP 0 rfl rfl 2 (by decide) (hts _ m_162) (fun _ h9 => h9) rfl dX1_isGiven_1 ?_
  refine lv_if_le (tgt := 11) hx hb dX1_isGiven_4 (by decide) (fun c_1 => ?_) (fun c_1 => ?_)
  · refine lv_iconst (v := 0) hx hb dX1_isGiven_11 (by decide) ?_
    exact W.zret (v := 0) hx hb hr rfl (fun t ht hW => ⟨0, rfl, (Or.inr ⟨rfl, (lf_c_X1_isGiven_0 z c_1)⟩), ht⟩) (fun _ h => by cases h) dX1_isGiven_12
  · refine lv_iconst (v := 1) hx hb dX1_isGiven_7 (by decide) ?_
    refine lv_goto (tgt := 12) hx hb dX1_isGiven_8 (by decide) ?_
    exact W.zret (v := 1) hx hb hr rfl (fun t ht hW => ⟨1, rfl, (Or.inl ⟨rfl, (lf_c_X1_isGiven_1 z c_1)⟩), ht⟩) (fun _ h => by cases h) dX1_isGiven_12
def B_c_X1_clear (G : va_G) (cy : Nat → ClassId) (A : Nat → Prop) (fo : Nat) (co : Nat) (ck : Nat) (z : Int32) (H : Heap) : Prop := va_P G classes [(fo, .inr (1, [.ref co, .ref ck, .int 0]))] H ∧ va_D A [(fo, .inr (1, [.ref co, .ref ck, .int 0]))]
set_option maxHeartbeats 4000000 in
set_option maxRecDepth 100000 in
theorem c_X1_clear (l : Launch) (G : va_G) (cy : Nat → ClassId) (sk sa : Nat → Nat) (sz : Nat) (fo : Nat) (co : Nat) (ck : Nat) (z : Int32)  : Met l yX1_clear (wsO yX1_clear cX1_clear 1 none) ({ frames := 0, cells := 0, slots := 0, locals := 0 }) (va_Pc [.ref fo] (PG G cy sk sa sz [(fo, .inr (1, [.ref co, .ref ck, .int z]))])) (va_Qv (fun (_ : Unit) => True) (fun _ t => B_c_X1_clear G cy (va_A [(fo, .inr (1, [.ref co, .ref ck, .int z]))] sz) fo co ck z t.heap) (va_A [(fo, .inr (1, [.ref co, .ref ck, .int z]))] sz)) 0 0 (va_A [(fo, .inr (1, [.ref co, .ref ck, .int z]))] sz) := by
  refine mgw (Qc := fun A => (va_Qv (fun (_ : Unit) => True) (fun _ t => B_c_X1_clear G cy A fo co ck z t.heap) A)) (by decide) (Nat.le_of_ble_eq_true rfl) ?_
  intro p e s m below meth c ls A hx hb hr hml hts hown hlocks hin hP hE hD hS hA hT hl
  have hl : lv_has ls 1 [(0, .ref fo)] := hl
  refine lv_aload_n hx hb dX1_clear_0 rfl (lv_at hl 0 rfl) ?_
  refine lv_iconst (v := 0) hx hb dX1_clear_1 (by decide) ?_
  refine va_put (D := G) (ci := 1) (v := .int 0) (ty := .int) (C := RX1) (T := TX1) (N := 3) hx hb hts inB1 tyX1 tyX1_ok nmX1 hown hE.1 hP hD hS 0 rfl rfl 2 (by decide) (hts _ m_162) (fun _ h9 => h9) rfl (by decide +kernel) rfl rfl (Nat.le_of_ble_eq_true rfl) dX1_clear_2 (fun H locs hP hD hS => ?_)
  have hP : va_P G classes [(fo, .inr (1, [.ref co, .ref ck, .int 0]))] H := hP
  have hD : va_D A [(fo, .inr (1, [.ref co, .ref ck, .int 0]))] := hD
  have hP9 := P_cut (wc := [(fo, .inr (1, [.ref co, .ref ck, .int 0]))]) hP [0] rfl
  have hD9 := hD.sub (ws' := [(fo, .inr (1, [.ref co, .ref ck, .int 0]))]) [0] (by decide) rfl
  refine W.widen (k := 0) (n := 0) (by first | exact Nat.le_of_ble_eq_true rfl | omega) (by first | exact Nat.le_of_ble_eq_true rfl | omega) ?_
  exact W.vret hx hb hr (fun t ht hW => ⟨⟨(), rfl, trivial, by dsimp only; rw [ht]; exact ⟨hP9, hD9⟩⟩, hS.F ht⟩) hS.2.2 dX1_clear_5
def B_c_X1_add (G : va_G) (cy : Nat → ClassId) (A : Nat → Prop) (fo : Nat) (co : Nat) (ck : Nat) (z : Int32) (fc : Nat → Int32) (v : Int32) (H : Heap) : Prop := ∃ (z2 : Int32) (fc2 : Nat → Int32), va_P G classes [(fo, .inr (1, [.ref co, .ref ck, .int z2])), (co, .inl (cy 0, 48, .inl fc2))] H ∧ va_D A [(fo, .inr (1, [.ref co, .ref ck, .int z2])), (co, .inl (cy 0, 48, .inl fc2))]
theorem vi_c_X1_add_0 (z : Int32) (c_1 : ¬ z < 0) (c_2 : ¬ 48 ≤ z) : vp_in z 48 := by first | exact vin_len (by assumption) (by assumption) (by omega) | exact vin_len2 (by assumption) (by assumption) (by omega) | exact vin_len3 (by assumption) (by assumption) (by omega) | (rw [vp_in_iff]; simp only [inR, hasT, Int32.le_iff_toInt_le, Int32.lt_iff_toInt_lt] at *; simp at *; omega)
set_option maxHeartbeats 4000000 in
set_option maxRecDepth 100000 in
theorem c_X1_add (l : Launch) (G : va_G) (cy : Nat → ClassId) (sk sa : Nat → Nat) (sz : Nat) (fo : Nat) (co : Nat) (ck : Nat) (z : Int32) (fc : Nat → Int32) (v : Int32)  : Met l yX1_add (wsO yX1_add cX1_add 2 none) ({ frames := 0, cells := 0, slots := 0, locals := 0 }) (va_Pc [.ref fo, .int v] (PG G cy sk sa sz [(fo, .inr (1, [.ref co, .ref ck, .int z])), (co, .inl (cy 0, 48, .inl fc))])) (va_Qv (fun (_ : Unit) => True) (fun _ t => B_c_X1_add G cy (va_A [(fo, .inr (1, [.ref co, .ref ck, .int z])), (co, .inl (cy 0, 48, .inl fc))] sz) fo co ck z fc v t.heap) (va_A [(fo, .inr (1, [.ref co, .ref ck, .int z])), (co, .inl (cy 0, 48, .inl fc))] sz)) 0 0 (va_A [(fo, .inr (1, [.ref co, .ref ck, .int z])), (co, .inl (cy 0, 48, .inl fc))] sz) := by
  refine mgw (Qc := fun A => (va_Qv (fun (_ : Unit) => True) (fun _ t => B_c_X1_add G cy A fo co ck z fc v t.heap) A)) (by decide) (Nat.le_of_ble_eq_true rfl) ?_
  intro p e s m below meth c ls A hx hb hr hml hts hown hlocks hin hP hE hD hS hA hT hl
  have hl : lv_has ls 2 [(0, .ref fo), (1, .int v)] := hl
  refine lv_aload_n hx hb dX1_add_0 rfl (lv_at hl 0 rfl) ?_
  refine va_get (D := G) (ci := 1) (v := .int z) (C := RX1) (T := TX1) (N := 3) hx hb hts inB1 hown hE.1 hP 0 rfl rfl 2 (by decide) (hts _ m_162) (fun _ h9 => h9) rfl dX1_add_1 ?_
  refine lv_if_lt (tgt := 36) hx hb dX1_add_4 (by decide) (fun c_1 => ?_) (fun c_1 => ?_)
  · have hP9 := P_cut (wc := [(fo, .inr (1, [.ref co, .ref ck, .int z])), (co, .inl (cy 0, 48, .inl fc))]) hP [0, 1] rfl
    have hD9 := hD.sub (ws' := [(fo, .inr (1, [.ref co, .ref ck, .int z])), (co, .inl (cy 0, 48, .inl fc))]) [0, 1] (by decide) rfl
    refine W.widen (k := 0) (n := 0) (by first | exact Nat.le_of_ble_eq_true rfl | omega) (by first | exact Nat.le_of_ble_eq_true rfl | omega) ?_
    exact W.vret hx hb hr (fun t ht hW => ⟨⟨(), rfl, trivial, by dsimp only; rw [ht]; exact ⟨z, fc, hP9, hD9⟩⟩, hS.F ht⟩) hS.2.2 dX1_add_36
  · refine lv_aload_n hx hb dX1_add_7 rfl (lv_at hl 0 rfl) ?_
    refine va_get (D := G) (ci := 1) (v := .int z) (C := RX1) (T := TX1) (N := 3) hx hb hts inB1 hown hE.1 hP 0 rfl rfl 2 (by decide) (hts _ m_162) (fun _ h9 => h9) rfl dX1_add_8 ?_
    refine lv_bipush (v := 48) hx hb dX1_add_11 (by decide) ?_
    refine lv_icmp_ge (tgt := 36) hx hb dX1_add_13 (by decide) (fun c_2 => ?_) (fun c_2 => ?_)
    · have hP9 := P_cut (wc := [(fo, .inr (1, [.ref co, .ref ck, .int z])), (co, .inl (cy 0, 48, .inl fc))]) hP [0, 1] rfl
      have hD9 := hD.sub (ws' := [(fo, .inr (1, [.ref co, .ref ck, .int z])), (co, .inl (cy 0, 48, .inl fc))]) [0, 1] (by decide) rfl
      refine W.widen (k := 0) (n := 0) (by first | exact Nat.le_of_ble_eq_true rfl | omega) (by first | exact Nat.le_of_ble_eq_true rfl | omega) ?_
      exact W.vret hx hb hr (fun t ht hW => ⟨⟨(), rfl, trivial, by dsimp only; rw [ht]; exact ⟨z, fc, hP9, hD9⟩⟩, hS.F ht⟩) hS.2.2 dX1_add_36
    · refine lv_aload_n hx hb dX1_add_16 rfl (lv_at hl 0 rfl) ?_
      refine va_get (D := G) (ci := 1) (v := .ref co) (C := RX1) (T := TX1) (N := 3) hx hb hts inB1 hown hE.1 hP 0 rfl rfl 0 (by decide) (hts _ m_160) (fun _ h9 => h9) rfl dX1_add_17 ?_
      refine lv_aload_n hx hb dX1_add_20 rfl (lv_at hl 0 rfl) ?_
      refine va_get (D := G) (ci := 1) (v := .int z) (C := RX1) (T := TX1) (N := 3) hx hb hts inB1 hown hE.1 hP 0 rfl rfl 2 (by decide) (hts _ m_162) (fun _ h9 => h9) rfl dX1_add_21 ?_
      refine lv_iload_n hx hb dX1_add_24 rfl (lv_at hl 1 rfl) ?_
      refine va_iast hx hb hE.1 hP hD hS 1 0 rfl rfl (vi_c_X1_add_0 z c_1 c_2) dX1_add_25 (fun H locs hP hD hS => ?_)
      have hP : va_P G classes [(fo, .inr (1, [.ref co, .ref ck, .int z])), (co, .inl (cy 0, 48, .inl (upd fc (z).toNatClampNeg v)))] H := hP
      have hD : va_D A [(fo, .inr (1, [.ref co, .ref ck, .int z])), (co, .inl (cy 0, 48, .inl (upd fc (z).toNatClampNeg v)))] := hD
      refine lv_aload_n hx hb dX1_add_26 rfl (lv_at hl 0 rfl) ?_
      refine lv_dup hx hb dX1_add_27 rfl ?_
      refine va_get (D := G) (ci := 1) (v := .int z) (C := RX1) (T := TX1) (N := 3) hx hb hts inB1 hown hE.1 hP 0 rfl rfl 2 (by decide) (hts _ m_162) (fun _ h9 => h9) rfl dX1_add_28 ?_
      refine lv_iconst (v := 1) hx hb dX1_add_31 (by decide) ?_
      refine lv_iadd hx hb dX1_add_32 ?_
      refine va_put (D := G) (ci := 1) (v := .int (z + 1)) (ty := .int) (C := RX1) (T := TX1) (N := 3) hx hb hts inB1 tyX1 tyX1_ok nmX1 hown hE.1 hP hD hS 0 rfl rfl 2 (by decide) (hts _ m_162) (fun _ h9 => h9) rfl (by decide +kernel) rfl rfl (Nat.le_of_ble_eq_true rfl) dX1_add_33 (fun H locs hP hD hS => ?_)
      have hP : va_P G classes [(fo, .inr (1, [.ref co, .ref ck, .int (z + 1)])), (co, .inl (cy 0, 48, .inl (upd fc (z).toNatClampNeg v)))] H := hP
      have hD : va_D A [(fo, .inr (1, [.ref co, .ref ck, .int (z + 1)])), (co, .inl (cy 0, 48, .inl (upd fc (z).toNatClampNeg v)))] := hD
      have hP9 := P_cut (wc := [(fo, .inr (1, [.ref co, .ref ck, .int (z + 1)])), (co, .inl (cy 0, 48, .inl (upd fc (z).toNatClampNeg v)))]) hP [0, 1] rfl
      have hD9 := hD.sub (ws' := [(fo, .inr (1, [.ref co, .ref ck, .int (z + 1)])), (co, .inl (cy 0, 48, .inl (upd fc (z).toNatClampNeg v)))]) [0, 1] (by decide) rfl
      refine W.widen (k := 0) (n := 0) (by first | exact Nat.le_of_ble_eq_true rfl | omega) (by first | exact Nat.le_of_ble_eq_true rfl | omega) ?_
      exact W.vret hx hb hr (fun t ht hW => ⟨⟨(), rfl, trivial, by dsimp only; rw [ht]; exact ⟨(z + 1), (upd fc (z).toNatClampNeg v), hP9, hD9⟩⟩, hS.F ht⟩) hS.2.2 dX1_add_36
def B_c_X1_takeFrom (G : va_G) (cy : Nat → ClassId) (A : Nat → Prop) (fo : Nat) (co : Nat) (ck : Nat) (z : Int32) (fo2 : Nat) (co2 : Nat) (ck2 : Nat) (w2 : Int32) (fc : Nat → Int32) (gc : Nat → Int32) (H : Heap) : Prop := ∃ (z2 : Int32) (fc2 : Nat → Int32), va_P G classes [(fo, .inr (1, [.ref co, .ref ck, .int z2])), (co, .inl (cy 0, 48, .inl fc2)), (fo2, .inr (1, [.ref co2, .ref ck2, .int w2])), (co2, .inl (cy 0, 48, .inl gc))] H ∧ va_D A [(fo, .inr (1, [.ref co, .ref ck, .int z2])), (co, .inl (cy 0, 48, .inl fc2)), (fo2, .inr (1, [.ref co2, .ref ck2, .int w2])), (co2, .inl (cy 0, 48, .inl gc))]
set_option maxHeartbeats 4000000 in
set_option maxRecDepth 100000 in
theorem c_X1_takeFrom (l : Launch) (G : va_G) (cy : Nat → ClassId) (sk sa : Nat → Nat) (sz : Nat) (fo : Nat) (co : Nat) (ck : Nat) (z : Int32) (fo2 : Nat) (co2 : Nat) (ck2 : Nat) (w2 : Int32) (fc : Nat → Int32) (gc : Nat → Int32)  : Met l yX1_takeFrom (wsO yX1_takeFrom cX1_takeFrom 2 none) ({ frames := 1, cells := 0, slots := 0, locals := 40 }) (va_Pc [.ref fo, .ref fo2] (PG G cy sk sa sz [(fo, .inr (1, [.ref co, .ref ck, .int z])), (co, .inl (cy 0, 48, .inl fc)), (fo2, .inr (1, [.ref co2, .ref ck2, .int w2])), (co2, .inl (cy 0, 48, .inl gc))])) (va_Qv (fun (_ : Unit) => True) (fun _ t => B_c_X1_takeFrom G cy (va_A [(fo, .inr (1, [.ref co, .ref ck, .int z])), (co, .inl (cy 0, 48, .inl fc)), (fo2, .inr (1, [.ref co2, .ref ck2, .int w2])), (co2, .inl (cy 0, 48, .inl gc))] sz) fo co ck z fo2 co2 ck2 w2 fc gc t.heap) (va_A [(fo, .inr (1, [.ref co, .ref ck, .int z])), (co, .inl (cy 0, 48, .inl fc)), (fo2, .inr (1, [.ref co2, .ref ck2, .int w2])), (co2, .inl (cy 0, 48, .inl gc))] sz)) 0 0 (va_A [(fo, .inr (1, [.ref co, .ref ck, .int z])), (co, .inl (cy 0, 48, .inl fc)), (fo2, .inr (1, [.ref co2, .ref ck2, .int w2])), (co2, .inl (cy 0, 48, .inl gc))] sz) := by
  refine mgw (Qc := fun A => (va_Qv (fun (_ : Unit) => True) (fun _ t => B_c_X1_takeFrom G cy A fo co ck z fo2 co2 ck2 w2 fc gc t.heap) A)) (by decide) (Nat.le_of_ble_eq_true rfl) ?_
  intro p e s m below meth c ls A hx hb hr hml hts hown hlocks hin hP hE hD hS hA hT hl
  have hl : lv_has ls 2 [(0, .ref fo), (1, .ref fo2)] := hl
  refine lv_aload_n hx hb dX1_takeFrom_0 rfl (lv_at hl 0 rfl) ?_
  refine lv_aload_n hx hb dX1_takeFrom_1 rfl (lv_at hl 1 rfl) ?_
  refine va_get (D := G) (ci := 1) (v := .int w2) (C := RX1) (T := TX1) (N := 3) hx hb hts inB1 hown hE.1 hP 2 rfl rfl 2 (by decide) (hts _ m_162) (fun _ h9 => h9) rfl dX1_takeFrom_2 ?_
  refine va_put (D := G) (ci := 1) (v := .int w2) (ty := .int) (C := RX1) (T := TX1) (N := 3) hx hb hts inB1 tyX1 tyX1_ok nmX1 hown hE.1 hP hD hS 0 rfl rfl 2 (by decide) (hts _ m_162) (fun _ h9 => h9) rfl (by decide +kernel) rfl rfl (Nat.le_of_ble_eq_true rfl) dX1_takeFrom_5 (fun H locs hP hD hS => ?_)
  have hP : va_P G classes [(fo, .inr (1, [.ref co, .ref ck, .int w2])), (co, .inl (cy 0, 48, .inl fc)), (fo2, .inr (1, [.ref co2, .ref ck2, .int w2])), (co2, .inl (cy 0, 48, .inl gc))] H := hP
  have hD : va_D A [(fo, .inr (1, [.ref co, .ref ck, .int w2])), (co, .inl (cy 0, 48, .inl fc)), (fo2, .inr (1, [.ref co2, .ref ck2, .int w2])), (co2, .inl (cy 0, 48, .inl gc))] := hD
  refine lv_aload_n hx hb dX1_takeFrom_8 rfl (lv_at hl 1 rfl) ?_
  refine va_get (D := G) (ci := 1) (v := .ref co2) (C := RX1) (T := TX1) (N := 3) hx hb hts inB1 hown hE.1 hP 2 rfl rfl 0 (by decide) (hts _ m_160) (fun _ h9 => h9) rfl dX1_takeFrom_9 ?_
  refine lv_iconst (v := 0) hx hb dX1_takeFrom_12 (by decide) ?_
  refine lv_aload_n hx hb dX1_takeFrom_13 rfl (lv_at hl 0 rfl) ?_
  refine va_get (D := G) (ci := 1) (v := .ref co) (C := RX1) (T := TX1) (N := 3) hx hb hts inB1 hown hE.1 hP 0 rfl rfl 0 (by decide) (hts _ m_160) (fun _ h9 => h9) rfl dX1_takeFrom_14 ?_
  refine lv_iconst (v := 0) hx hb dX1_takeFrom_17 (by decide) ?_
  refine lv_bipush (v := 48) hx hb dX1_takeFrom_18 (by decide) ?_
  refine va_copyi (ty := .int) hx hb (hml.trans hl.1.symm) hown (hts _ m_828) (hts _ m_830) (hts _ m_829) (hts _ m_98) hE.1 hP hD hS 3 1 0 0 rfl rfl rfl rfl rfl (by decide) (by decide) (by decide) (by decide) (by decide) (fun _ _ => rfl) (Nat.le_of_ble_eq_true rfl) (Nat.le_of_ble_eq_true rfl) dX1_takeFrom_20 (fun H locs hP hD hS => ?_)
  have hP : va_P G classes [(fo, .inr (1, [.ref co, .ref ck, .int w2])), (co, .inl (cy 0, 48, .inl (va_cpy gc fc 0 0 48))), (fo2, .inr (1, [.ref co2, .ref ck2, .int w2])), (co2, .inl (cy 0, 48, .inl gc))] H := hP
  have hD : va_D A [(fo, .inr (1, [.ref co, .ref ck, .int w2])), (co, .inl (cy 0, 48, .inl (va_cpy gc fc 0 0 48))), (fo2, .inr (1, [.ref co2, .ref ck2, .int w2])), (co2, .inl (cy 0, 48, .inl gc))] := hD
  obtain ⟨xf1, hP, hD⟩ : ∃ xf1, va_P G classes [(fo, .inr (1, [.ref co, .ref ck, .int w2])), (co, .inl (cy 0, 48, .inl xf1)), (fo2, .inr (1, [.ref co2, .ref ck2, .int w2])), (co2, .inl (cy 0, 48, .inl gc))] H ∧ va_D A [(fo, .inr (1, [.ref co, .ref ck, .int w2])), (co, .inl (cy 0, 48, .inl xf1)), (fo2, .inr (1, [.ref co2, .ref ck2, .int w2])), (co2, .inl (cy 0, 48, .inl gc))] := ⟨_, hP, hD⟩
  have hP9 := P_cut (wc := [(fo, .inr (1, [.ref co, .ref ck, .int w2])), (co, .inl (cy 0, 48, .inl xf1)), (fo2, .inr (1, [.ref co2, .ref ck2, .int w2])), (co2, .inl (cy 0, 48, .inl gc))]) hP [0, 1, 2, 3] rfl
  have hD9 := hD.sub (ws' := [(fo, .inr (1, [.ref co, .ref ck, .int w2])), (co, .inl (cy 0, 48, .inl xf1)), (fo2, .inr (1, [.ref co2, .ref ck2, .int w2])), (co2, .inl (cy 0, 48, .inl gc))]) [0, 1, 2, 3] (by decide) rfl
  refine W.widen (k := 0) (n := 0) (by first | exact Nat.le_of_ble_eq_true rfl | omega) (by first | exact Nat.le_of_ble_eq_true rfl | omega) ?_
  exact W.vret hx hb hr (fun t ht hW => ⟨⟨(), rfl, trivial, by dsimp only; rw [ht]; exact ⟨w2, xf1, hP9, hD9⟩⟩, hS.F ht⟩) hS.2.2 dX1_takeFrom_23
theorem lf_c_X7_isFree_0 (v : Int32) (y3 : Int32) (h_2 : inR v 0 191) (c_4 : ¬ y3 = (-1)) : ((0 : Int32) = 1 ∧ inR v 0 191) ∨ (0 : Int32) = 0 := by first | exact Or.inr rfl | exact Or.inl ⟨rfl, by assumption⟩
theorem lf_c_X7_isFree_1 (v : Int32) (y3 : Int32) (h_2 : inR v 0 191) (c_4 : y3 = (-1)) : ((1 : Int32) = 1 ∧ inR v 0 191) ∨ (1 : Int32) = 0 := by first | exact Or.inr rfl | exact Or.inl ⟨rfl, by assumption⟩
theorem lf_c_X7_isFree_2 (v : Int32) (h_2 : ¬ inR v 0 191) : ((0 : Int32) = 1 ∧ inR v 0 191) ∨ (0 : Int32) = 0 := by first | exact Or.inr rfl | exact Or.inl ⟨rfl, by assumption⟩
set_option maxHeartbeats 4000000 in
set_option maxRecDepth 100000 in
theorem c_X7_isFree (l : Launch) (G : va_G) (cy : Nat → ClassId) (sk sa : Nat → Nat) (sz : Nat) (st : Nat) (oc : Nat) (ki : Nat) (ce : Nat) (si : Nat) (sp : Nat) (th : Int32) (foc : Nat → Int32) (v : Int32)  : Met l yX7_isFree (wsO yX7_isFree cX7_isFree 2 (some .boolean)) ({ frames := 1, cells := 0, slots := 0, locals := 20 }) (va_Pc [.ref st, .int v] (PG G cy sk sa sz [(st, .inr (7, [.ref oc, .ref ki, .ref ce, .ref si, .ref sp, .int th])), (oc, .inl (cy 0, 192, .inl foc))])) (vp_Si (fun r => (r = 1 ∧ inR v 0 191) ∨ r = 0)) 0 0 (fun _ => False) := by
  refine mgr (by decide) (Nat.le_of_ble_eq_true rfl) ?_
  intro p e s m below meth c ls A hx hb hr hml hts hown hlocks hin hsz hP hE hD hS hT hl
  subst hsz
  have hl : lv_has ls 2 [(0, .ref st), (1, .int v)] := hl
  refine lv_iload_n hx hb dX7_isFree_0 rfl (lv_at hl 1 rfl) ?_
  refine grS (rest := []) hx hb hml hown hts hE (c_X7_isCell l G cy sk sa s.heap.size v) kS_X7_isCell m_509 rfl rfl ⟨(Nat.le_of_ble_eq_true rfl), (Nat.le_of_ble_eq_true rfl)⟩ hP hD hS hT [] rfl rfl rfl rfl hl.1 (Nat.le_of_ble_eq_true rfl) dX7_isFree_1 ⟨Nat.zero_le _, Nat.zero_le _⟩ (fun r_1 hr_ => ?_)
  rcases hr_ with ⟨rfl, h_2⟩ | ⟨rfl, h_2⟩
  · refine lv_if_eq (tgt := 21) hx hb dX7_isFree_4 (by decide) (fun h9 => absurd h9 (by decide)) (fun _ => ?_)
    refine lv_aload_n hx hb dX7_isFree_7 rfl (lv_at hl 0 rfl) ?_
    refine va_get (D := G) (ci := 7) (v := .ref oc) (C := RX7) (T := TX7) (N := 6) hx hb hts inB7 hown hE.1 hP 0 rfl rfl 0 (by decide) (hts _ m_121) (fun _ h9 => h9) rfl dX7_isFree_8 ?_
    refine lv_iload_n hx hb dX7_isFree_11 rfl (lv_at hl 1 rfl) ?_
    refine va_iald hx hb hE.1 hP 1 0 rfl rfl (vinB h_2 (by decide) (by decide)) dX7_isFree_12 ?_
    refine lv_topi (fun y3 ey3 => ?_)
    refine lv_iconst (v := (-1)) hx hb dX7_isFree_13 (by decide) ?_
    refine lv_icmp_ne (tgt := 21) hx hb dX7_isFree_14 (by decide) (fun c_4 => ?_) (fun c_4 => ?_)
    · refine lv_iconst (v := 0) hx hb dX7_isFree_21 (by decide) ?_
      exact W.zret (v := 0) hx hb hr rfl (fun t ht hW => ⟨0, rfl, (lf_c_X7_isFree_0 v y3 h_2 c_4), ht⟩) (fun _ h => by cases h) dX7_isFree_22
    · refine lv_iconst (v := 1) hx hb dX7_isFree_17 (by decide) ?_
      refine lv_goto (tgt := 22) hx hb dX7_isFree_18 (by decide) ?_
      exact W.zret (v := 1) hx hb hr rfl (fun t ht hW => ⟨1, rfl, (lf_c_X7_isFree_1 v y3 h_2 c_4), ht⟩) (fun _ h => by cases h) dX7_isFree_22
  · refine lv_if_eq (tgt := 21) hx hb dX7_isFree_4 (by decide) (fun _ => ?_) (fun h9 => absurd h9 (by decide))
    refine lv_iconst (v := 0) hx hb dX7_isFree_21 (by decide) ?_
    exact W.zret (v := 0) hx hb hr rfl (fun t ht hW => ⟨0, rfl, (lf_c_X7_isFree_2 v h_2), ht⟩) (fun _ h => by cases h) dX7_isFree_22
def B_c_X7_settle (G : va_G) (cy : Nat → ClassId) (A : Nat → Prop) (st : Nat) (oc : Nat) (ki : Nat) (ce : Nat) (si : Nat) (sp : Nat) (th : Int32) (foc : Nat → Int32) (v : Int32) (who : Int32) (H : Heap) : Prop := ∃ (foc2 : Nat → Int32), va_P G classes [(st, .inr (7, [.ref oc, .ref ki, .ref ce, .ref si, .ref sp, .int th])), (oc, .inl (cy 0, 192, .inl foc2))] H ∧ va_D A [(st, .inr (7, [.ref oc, .ref ki, .ref ce, .ref si, .ref sp, .int th])), (oc, .inl (cy 0, 192, .inl foc2))]
set_option maxHeartbeats 4000000 in
set_option maxRecDepth 100000 in
theorem c_X7_settle (l : Launch) (G : va_G) (cy : Nat → ClassId) (sk sa : Nat → Nat) (sz : Nat) (st : Nat) (oc : Nat) (ki : Nat) (ce : Nat) (si : Nat) (sp : Nat) (th : Int32) (foc : Nat → Int32) (v : Int32) (who : Int32)  : Met l yX7_settle (wsO yX7_settle cX7_settle 3 none) ({ frames := 1, cells := 0, slots := 0, locals := 20 }) (va_Pc [.ref st, .int v, .int who] (PG G cy sk sa sz [(st, .inr (7, [.ref oc, .ref ki, .ref ce, .ref si, .ref sp, .int th])), (oc, .inl (cy 0, 192, .inl foc))])) (va_Qv (fun (_ : Unit) => True) (fun _ t => B_c_X7_settle G cy (va_A [(st, .inr (7, [.ref oc, .ref ki, .ref ce, .ref si, .ref sp, .int th])), (oc, .inl (cy 0, 192, .inl foc))] sz) st oc ki ce si sp th foc v who t.heap) (va_A [(st, .inr (7, [.ref oc, .ref ki, .ref ce, .ref si, .ref sp, .int th])), (oc, .inl (cy 0, 192, .inl foc))] sz)) 0 0 (va_A [(st, .inr (7, [.ref oc, .ref ki, .ref ce, .ref si, .ref sp, .int th])), (oc, .inl (cy 0, 192, .inl foc))] sz) := by
  refine mgw (Qc := fun A => (va_Qv (fun (_ : Unit) => True) (fun _ t => B_c_X7_settle G cy A st oc ki ce si sp th foc v who t.heap) A)) (by decide) (Nat.le_of_ble_eq_true rfl) ?_
  intro p e s m below meth c ls A hx hb hr hml hts hown hlocks hin hP hE hD hS hA hT hl
  have hl : lv_has ls 3 [(0, .ref st), (1, .int v), (2, .int who)] := hl
  refine lv_iload_n hx hb dX7_settle_0 rfl (lv_at hl 1 rfl) ?_
  refine grS (rest := []) hx hb hml hown hts hE (c_X7_isCell l G cy sk sa s.heap.size v) kS_X7_isCell m_509 rfl rfl ⟨(Nat.le_of_ble_eq_true rfl), (Nat.le_of_ble_eq_true rfl)⟩ hP hD hS hT [] rfl rfl rfl rfl hl.1 (Nat.le_of_ble_eq_true rfl) dX7_settle_1 ⟨(Nat.le_of_ble_eq_true rfl), (Nat.le_of_ble_eq_true rfl)⟩ (fun r_1 hr_ => ?_)
  rcases hr_ with ⟨rfl, h_2⟩ | ⟨rfl, h_2⟩
  · refine lv_if_eq (tgt := 14) hx hb dX7_settle_4 (by decide) (fun h9 => absurd h9 (by decide)) (fun _ => ?_)
    refine lv_aload_n hx hb dX7_settle_7 rfl (lv_at hl 0 rfl) ?_
    refine va_get (D := G) (ci := 7) (v := .ref oc) (C := RX7) (T := TX7) (N := 6) hx hb hts inB7 hown hE.1 hP 0 rfl rfl 0 (by decide) (hts _ m_121) (fun _ h9 => h9) rfl dX7_settle_8 ?_
    refine lv_iload_n hx hb dX7_settle_11 rfl (lv_at hl 1 rfl) ?_
    refine lv_iload_n hx hb dX7_settle_12 rfl (lv_at hl 2 rfl) ?_
    refine va_iast hx hb hE.1 hP hD hS 1 0 rfl rfl (vinB h_2 (by decide) (by decide)) dX7_settle_13 (fun H locs hP hD hS => ?_)
    have hP : va_P G classes [(st, .inr (7, [.ref oc, .ref ki, .ref ce, .ref si, .ref sp, .int th])), (oc, .inl (cy 0, 192, .inl (upd foc (v).toNatClampNeg who)))] H := hP
    have hD : va_D A [(st, .inr (7, [.ref oc, .ref ki, .ref ce, .ref si, .ref sp, .int th])), (oc, .inl (cy 0, 192, .inl (upd foc (v).toNatClampNeg who)))] := hD
    have hP9 := P_cut (wc := [(st, .inr (7, [.ref oc, .ref ki, .ref ce, .ref si, .ref sp, .int th])), (oc, .inl (cy 0, 192, .inl (upd foc (v).toNatClampNeg who)))]) hP [0, 1] rfl
    have hD9 := hD.sub (ws' := [(st, .inr (7, [.ref oc, .ref ki, .ref ce, .ref si, .ref sp, .int th])), (oc, .inl (cy 0, 192, .inl (upd foc (v).toNatClampNeg who)))]) [0, 1] (by decide) rfl
    refine W.widen (k := 0) (n := 0) (by first | exact Nat.le_of_ble_eq_true rfl | omega) (by first | exact Nat.le_of_ble_eq_true rfl | omega) ?_
    exact W.vret hx hb hr (fun t ht hW => ⟨⟨(), rfl, trivial, by dsimp only; rw [ht]; exact ⟨(upd foc (v).toNatClampNeg who), hP9, hD9⟩⟩, hS.F ht⟩) hS.2.2 dX7_settle_14
  · refine lv_if_eq (tgt := 14) hx hb dX7_settle_4 (by decide) (fun _ => ?_) (fun h9 => absurd h9 (by decide))
    have hP9 := P_cut (wc := [(st, .inr (7, [.ref oc, .ref ki, .ref ce, .ref si, .ref sp, .int th])), (oc, .inl (cy 0, 192, .inl foc))]) hP [0, 1] rfl
    have hD9 := hD.sub (ws' := [(st, .inr (7, [.ref oc, .ref ki, .ref ce, .ref si, .ref sp, .int th])), (oc, .inl (cy 0, 192, .inl foc))]) [0, 1] (by decide) rfl
    refine W.widen (k := 0) (n := 0) (by first | exact Nat.le_of_ble_eq_true rfl | omega) (by first | exact Nat.le_of_ble_eq_true rfl | omega) ?_
    exact W.vret hx hb hr (fun t ht hW => ⟨⟨(), rfl, trivial, by dsimp only; rw [ht]; exact ⟨foc, hP9, hD9⟩⟩, hS.F ht⟩) hS.2.2 dX7_settle_14
theorem lf_c_X7_hasRoom_0 (th : Int32) (c_1 : 40 ≤ th) : ¬ th < 40 := by simp_all
theorem lf_c_X7_hasRoom_1 (th : Int32) (c_1 : ¬ 40 ≤ th) : th < 40 := by simp_all
set_option maxHeartbeats 4000000 in
set_option maxRecDepth 100000 in
theorem c_X7_hasRoom (l : Launch) (G : va_G) (cy : Nat → ClassId) (sk sa : Nat → Nat) (sz : Nat) (st : Nat) (oc : Nat) (ki : Nat) (ce : Nat) (si : Nat) (sp : Nat) (th : Int32)  : Met l yX7_hasRoom (wsO yX7_hasRoom cX7_hasRoom 1 (some .boolean)) ({ frames := 0, cells := 0, slots := 0, locals := 0 }) (va_Pc [.ref st] (PG G cy sk sa sz [(st, .inr (7, [.ref oc, .ref ki, .ref ce, .ref si, .ref sp, .int th]))])) (vp_Si (fun r => (r = 1 ∧ th < 40) ∨ (r = 0 ∧ ¬ th < 40))) 0 0 (fun _ => False) := by
  refine mgr (by decide) (Nat.le_of_ble_eq_true rfl) ?_
  intro p e s m below meth c ls A hx hb hr hml hts hown hlocks hin hsz hP hE hD hS hT hl
  subst hsz
  have hl : lv_has ls 1 [(0, .ref st)] := hl
  refine lv_aload_n hx hb dX7_hasRoom_0 rfl (lv_at hl 0 rfl) ?_
  refine va_get (D := G) (ci := 7) (v := .int th) (C := RX7) (T := TX7) (N := 6) hx hb hts inB7 hown hE.1 hP 0 rfl rfl 5 (by decide) (hts _ m_132) (fun _ h9 => h9) rfl dX7_hasRoom_1 ?_
  refine lv_bipush (v := 40) hx hb dX7_hasRoom_4 (by decide) ?_
  refine lv_icmp_ge (tgt := 13) hx hb dX7_hasRoom_6 (by decide) (fun c_1 => ?_) (fun c_1 => ?_)
  · refine lv_iconst (v := 0) hx hb dX7_hasRoom_13 (by decide) ?_
    exact W.zret (v := 0) hx hb hr rfl (fun t ht hW => ⟨0, rfl, (Or.inr ⟨rfl, (lf_c_X7_hasRoom_0 th c_1)⟩), ht⟩) (fun _ h => by cases h) dX7_hasRoom_14
  · refine lv_iconst (v := 1) hx hb dX7_hasRoom_9 (by decide) ?_
    refine lv_goto (tgt := 14) hx hb dX7_hasRoom_10 (by decide) ?_
    exact W.zret (v := 1) hx hb hr rfl (fun t ht hW => ⟨1, rfl, (Or.inl ⟨rfl, (lf_c_X7_hasRoom_1 th c_1)⟩), ht⟩) (fun _ h => by cases h) dX7_hasRoom_14
theorem lf_c_X7_hasThing_0 (th : Int32) (v : Int32) (c_1 : v < 0) : ¬ (hasT v th) := by simp only [hasT, Int32.le_iff_toInt_le, Int32.lt_iff_toInt_lt] at *; simp at *; omega
theorem lf_c_X7_hasThing_1 (th : Int32) (v : Int32) (c_1 : ¬ v < 0) (c_2 : th ≤ v) : ¬ (hasT v th) := by simp only [hasT, Int32.le_iff_toInt_le, Int32.lt_iff_toInt_lt] at *; simp at *; omega
theorem lf_c_X7_hasThing_2 (th : Int32) (v : Int32) (c_1 : ¬ v < 0) (c_2 : ¬ th ≤ v) (c_3 : 40 ≤ v) : ¬ (hasT v th) := by simp only [hasT, Int32.le_iff_toInt_le, Int32.lt_iff_toInt_lt] at *; simp at *; omega
theorem lf_c_X7_hasThing_3 (th : Int32) (v : Int32) (c_1 : ¬ v < 0) (c_2 : ¬ th ≤ v) (c_3 : ¬ 40 ≤ v) : (hasT v th) := by simp only [hasT, Int32.le_iff_toInt_le, Int32.lt_iff_toInt_lt] at *; simp at *; omega
set_option maxHeartbeats 4000000 in
set_option maxRecDepth 100000 in
theorem c_X7_hasThing (l : Launch) (G : va_G) (cy : Nat → ClassId) (sk sa : Nat → Nat) (sz : Nat) (st : Nat) (oc : Nat) (ki : Nat) (ce : Nat) (si : Nat) (sp : Nat) (th : Int32) (v : Int32)  : Met l yX7_hasThing (wsO yX7_hasThing cX7_hasThing 2 (some .boolean)) ({ frames := 0, cells := 0, slots := 0, locals := 0 }) (va_Pc [.ref st, .int v] (PG G cy sk sa sz [(st, .inr (7, [.ref oc, .ref ki, .ref ce, .ref si, .ref sp, .int th]))])) (vp_Si (fun r => (r = 1 ∧ (hasT v th)) ∨ (r = 0 ∧ ¬ (hasT v th)))) 0 0 (fun _ => False) := by
  refine mgr (by decide) (Nat.le_of_ble_eq_true rfl) ?_
  intro p e s m below meth c ls A hx hb hr hml hts hown hlocks hin hsz hP hE hD hS hT hl
  subst hsz
  have hl : lv_has ls 2 [(0, .ref st), (1, .int v)] := hl
  refine lv_iload_n hx hb dX7_hasThing_0 rfl (lv_at hl 1 rfl) ?_
  refine lv_if_lt (tgt := 22) hx hb dX7_hasThing_1 (by decide) (fun c_1 => ?_) (fun c_1 => ?_)
  · refine lv_iconst (v := 0) hx hb dX7_hasThing_22 (by decide) ?_
    exact W.zret (v := 0) hx hb hr rfl (fun t ht hW => ⟨0, rfl, (Or.inr ⟨rfl, (lf_c_X7_hasThing_0 th v c_1)⟩), ht⟩) (fun _ h => by cases h) dX7_hasThing_23
  · refine lv_iload_n hx hb dX7_hasThing_4 rfl (lv_at hl 1 rfl) ?_
    refine lv_aload_n hx hb dX7_hasThing_5 rfl (lv_at hl 0 rfl) ?_
    refine va_get (D := G) (ci := 7) (v := .int th) (C := RX7) (T := TX7) (N := 6) hx hb hts inB7 hown hE.1 hP 0 rfl rfl 5 (by decide) (hts _ m_132) (fun _ h9 => h9) rfl dX7_hasThing_6 ?_
    refine lv_icmp_ge (tgt := 22) hx hb dX7_hasThing_9 (by decide) (fun c_2 => ?_) (fun c_2 => ?_)
    · refine lv_iconst (v := 0) hx hb dX7_hasThing_22 (by decide) ?_
      exact W.zret (v := 0) hx hb hr rfl (fun t ht hW => ⟨0, rfl, (Or.inr ⟨rfl, (lf_c_X7_hasThing_1 th v c_1 c_2)⟩), ht⟩) (fun _ h => by cases h) dX7_hasThing_23
    · refine lv_iload_n hx hb dX7_hasThing_12 rfl (lv_at hl 1 rfl) ?_
      refine lv_bipush (v := 40) hx hb dX7_hasThing_13 (by decide) ?_
      refine lv_icmp_ge (tgt := 22) hx hb dX7_hasThing_15 (by decide) (fun c_3 => ?_) (fun c_3 => ?_)
      · refine lv_iconst (v := 0) hx hb dX7_hasThing_22 (by decide) ?_
        exact W.zret (v := 0) hx hb hr rfl (fun t ht hW => ⟨0, rfl, (Or.inr ⟨rfl, (lf_c_X7_hasThing_2 th v c_1 c_2 c_3)⟩), ht⟩) (fun _ h => by cases h) dX7_hasThing_23
      · refine lv_iconst (v := 1) hx hb dX7_hasThing_18 (by decide) ?_
        refine lv_goto (tgt := 23) hx hb dX7_hasThing_19 (by decide) ?_
        exact W.zret (v := 1) hx hb hr rfl (fun t ht hW => ⟨1, rfl, (Or.inl ⟨rfl, (lf_c_X7_hasThing_3 th v c_1 c_2 c_3)⟩), ht⟩) (fun _ h => by cases h) dX7_hasThing_23
def B_c_X7_addThing (G : va_G) (cy : Nat → ClassId) (A : Nat → Prop) (st : Nat) (oc : Nat) (ki : Nat) (ce : Nat) (si : Nat) (sp : Nat) (th : Int32) (foc : Nat → Int32) (fki : Nat → Int32) (fce : Nat → Int32) (fsi : Nat → Int32) (fsp : Nat → Int32) (kd : Int32) (v : Int32) (H : Heap) : Prop := ∃ (th2 : Int32) (goc : Nat → Int32) (gki : Nat → Int32) (gce : Nat → Int32) (gsi : Nat → Int32) (gsp : Nat → Int32), va_P G classes [(st, .inr (7, [.ref oc, .ref ki, .ref ce, .ref si, .ref sp, .int th2])), (oc, .inl (cy 0, 192, .inl goc)), (ki, .inl (cy 0, 40, .inl gki)), (ce, .inl (cy 0, 40, .inl gce)), (si, .inl (cy 0, 40, .inl gsi)), (sp, .inl (cy 0, 40, .inl gsp))] H ∧ va_D A [(st, .inr (7, [.ref oc, .ref ki, .ref ce, .ref si, .ref sp, .int th2])), (oc, .inl (cy 0, 192, .inl goc)), (ki, .inl (cy 0, 40, .inl gki)), (ce, .inl (cy 0, 40, .inl gce)), (si, .inl (cy 0, 40, .inl gsi)), (sp, .inl (cy 0, 40, .inl gsp))]
theorem vi_c_X7_addThing_0 (th : Int32) (c_1 : ¬ th < 0) (c_2 : th < 40) : vp_in th 40 := by first | exact vin_len (by assumption) (by assumption) (by omega) | exact vin_len2 (by assumption) (by assumption) (by omega) | exact vin_len3 (by assumption) (by assumption) (by omega) | (rw [vp_in_iff]; simp only [inR, hasT, Int32.le_iff_toInt_le, Int32.lt_iff_toInt_lt] at *; simp at *; omega)
theorem vi_c_X7_addThing_1 (th : Int32) (c_1 : ¬ th < 0) (c_2 : th < 40) : vp_in th 40 := by first | exact vin_len (by assumption) (by assumption) (by omega) | exact vin_len2 (by assumption) (by assumption) (by omega) | exact vin_len3 (by assumption) (by assumption) (by omega) | (rw [vp_in_iff]; simp only [inR, hasT, Int32.le_iff_toInt_le, Int32.lt_iff_toInt_lt] at *; simp at *; omega)
theorem vi_c_X7_addThing_2 (th : Int32) (c_1 : ¬ th < 0) (c_2 : th < 40) : vp_in th 40 := by first | exact vin_len (by assumption) (by assumption) (by omega) | exact vin_len2 (by assumption) (by assumption) (by omega) | exact vin_len3 (by assumption) (by assumption) (by omega) | (rw [vp_in_iff]; simp only [inR, hasT, Int32.le_iff_toInt_le, Int32.lt_iff_toInt_lt] at *; simp at *; omega)
theorem vi_c_X7_addThing_3 (th : Int32) (c_1 : ¬ th < 0) (c_2 : th < 40) : vp_in th 40 := by first | exact vin_len (by assumption) (by assumption) (by omega) | exact vin_len2 (by assumption) (by assumption) (by omega) | exact vin_len3 (by assumption) (by assumption) (by omega) | (rw [vp_in_iff]; simp only [inR, hasT, Int32.le_iff_toInt_le, Int32.lt_iff_toInt_lt] at *; simp at *; omega)
set_option maxHeartbeats 4000000 in
set_option maxRecDepth 100000 in
theorem c_X7_addThing (l : Launch) (G : va_G) (cy : Nat → ClassId) (sk sa : Nat → Nat) (sz : Nat) (st : Nat) (oc : Nat) (ki : Nat) (ce : Nat) (si : Nat) (sp : Nat) (th : Int32) (foc : Nat → Int32) (fki : Nat → Int32) (fce : Nat → Int32) (fsi : Nat → Int32) (fsp : Nat → Int32) (kd : Int32) (v : Int32)  : Met l yX7_addThing (wsO yX7_addThing cX7_addThing 4 (some .int)) ({ frames := 2, cells := 0, slots := 0, locals := 42 }) (va_Pc [.ref st, .int kd, .int v] (PG G cy sk sa sz [(st, .inr (7, [.ref oc, .ref ki, .ref ce, .ref si, .ref sp, .int th])), (oc, .inl (cy 0, 192, .inl foc)), (ki, .inl (cy 0, 40, .inl fki)), (ce, .inl (cy 0, 40, .inl fce)), (si, .inl (cy 0, 40, .inl fsi)), (sp, .inl (cy 0, 40, .inl fsp))])) (va_Qi (fun r (_ : Unit) => True) (fun _ t => B_c_X7_addThing G cy (va_A [(st, .inr (7, [.ref oc, .ref ki, .ref ce, .ref si, .ref sp, .int th])), (oc, .inl (cy 0, 192, .inl foc)), (ki, .inl (cy 0, 40, .inl fki)), (ce, .inl (cy 0, 40, .inl fce)), (si, .inl (cy 0, 40, .inl fsi)), (sp, .inl (cy 0, 40, .inl fsp))] sz) st oc ki ce si sp th foc fki fce fsi fsp kd v t.heap) (va_A [(st, .inr (7, [.ref oc, .ref ki, .ref ce, .ref si, .ref sp, .int th])), (oc, .inl (cy 0, 192, .inl foc)), (ki, .inl (cy 0, 40, .inl fki)), (ce, .inl (cy 0, 40, .inl fce)), (si, .inl (cy 0, 40, .inl fsi)), (sp, .inl (cy 0, 40, .inl fsp))] sz)) 0 0 (va_A [(st, .inr (7, [.ref oc, .ref ki, .ref ce, .ref si, .ref sp, .int th])), (oc, .inl (cy 0, 192, .inl foc)), (ki, .inl (cy 0, 40, .inl fki)), (ce, .inl (cy 0, 40, .inl fce)), (si, .inl (cy 0, 40, .inl fsi)), (sp, .inl (cy 0, 40, .inl fsp))] sz) := by
  refine mgw (Qc := fun A => (va_Qi (fun r (_ : Unit) => True) (fun _ t => B_c_X7_addThing G cy A st oc ki ce si sp th foc fki fce fsi fsp kd v t.heap) A)) (by decide) (Nat.le_of_ble_eq_true rfl) ?_
  intro p e s m below meth c ls A hx hb hr hml hts hown hlocks hin hP hE hD hS hA hT hl
  have hl : lv_has ls 4 [(0, .ref st), (1, .int kd), (2, .int v)] := hl
  refine lv_aload_n hx hb dX7_addThing_0 rfl (lv_at hl 0 rfl) ?_
  refine va_get (D := G) (ci := 7) (v := .int th) (C := RX7) (T := TX7) (N := 6) hx hb hts inB7 hown hE.1 hP 0 rfl rfl 5 (by decide) (hts _ m_132) (fun _ h9 => h9) rfl dX7_addThing_1 ?_
  refine lv_istore_n (lv' := [(3, .int th), (0, .ref st), (1, .int kd), (2, .int v)]) hx hb dX7_addThing_4 rfl hl (by decide) rfl (fun ls hl => ?_)
  refine lv_iload_n hx hb dX7_addThing_5 rfl (lv_at hl 0 rfl) ?_
  refine lv_if_lt (tgt := 15) hx hb dX7_addThing_6 (by decide) (fun c_1 => ?_) (fun c_1 => ?_)
  · refine lv_iconst (v := (-1)) hx hb dX7_addThing_15 (by decide) ?_
    have hP9 := P_cut (wc := [(st, .inr (7, [.ref oc, .ref ki, .ref ce, .ref si, .ref sp, .int th])), (oc, .inl (cy 0, 192, .inl foc)), (ki, .inl (cy 0, 40, .inl fki)), (ce, .inl (cy 0, 40, .inl fce)), (si, .inl (cy 0, 40, .inl fsi)), (sp, .inl (cy 0, 40, .inl fsp))]) hP [0, 1, 2, 3, 4, 5] rfl
    have hD9 := hD.sub (ws' := [(st, .inr (7, [.ref oc, .ref ki, .ref ce, .ref si, .ref sp, .int th])), (oc, .inl (cy 0, 192, .inl foc)), (ki, .inl (cy 0, 40, .inl fki)), (ce, .inl (cy 0, 40, .inl fce)), (si, .inl (cy 0, 40, .inl fsi)), (sp, .inl (cy 0, 40, .inl fsp))]) [0, 1, 2, 3, 4, 5] (by decide) rfl
    refine W.widen (k := 0) (n := 0) (by first | exact Nat.le_of_ble_eq_true rfl | omega) (by first | exact Nat.le_of_ble_eq_true rfl | omega) ?_
    exact W.iret (v := (-1)) hx hb hr (fun t ht hW => ⟨⟨(-1), (), rfl, trivial, by dsimp only; rw [ht]; exact ⟨th, foc, fki, fce, fsi, fsp, hP9, hD9⟩⟩, hS.F ht⟩) hS.2.2 dX7_addThing_16
  · refine lv_iload_n hx hb dX7_addThing_9 rfl (lv_at hl 0 rfl) ?_
    refine lv_bipush (v := 40) hx hb dX7_addThing_10 (by decide) ?_
    refine lv_icmp_lt (tgt := 17) hx hb dX7_addThing_12 (by decide) (fun c_2 => ?_) (fun c_2 => ?_)
    · refine lv_aload_n hx hb dX7_addThing_17 rfl (lv_at hl 1 rfl) ?_
      refine va_get (D := G) (ci := 7) (v := .ref ki) (C := RX7) (T := TX7) (N := 6) hx hb hts inB7 hown hE.1 hP 0 rfl rfl 1 (by decide) (hts _ m_124) (fun _ h9 => h9) rfl dX7_addThing_18 ?_
      refine lv_iload_n hx hb dX7_addThing_21 rfl (lv_at hl 0 rfl) ?_
      refine lv_iload_n hx hb dX7_addThing_22 rfl (lv_at hl 2 rfl) ?_
      refine va_iast hx hb hE.1 hP hD hS 2 0 rfl rfl (vi_c_X7_addThing_0 th c_1 c_2) dX7_addThing_23 (fun H locs hP hD hS => ?_)
      have hP : va_P G classes [(st, .inr (7, [.ref oc, .ref ki, .ref ce, .ref si, .ref sp, .int th])), (oc, .inl (cy 0, 192, .inl foc)), (ki, .inl (cy 0, 40, .inl (upd fki (th).toNatClampNeg kd))), (ce, .inl (cy 0, 40, .inl fce)), (si, .inl (cy 0, 40, .inl fsi)), (sp, .inl (cy 0, 40, .inl fsp))] H := hP
      have hD : va_D A [(st, .inr (7, [.ref oc, .ref ki, .ref ce, .ref si, .ref sp, .int th])), (oc, .inl (cy 0, 192, .inl foc)), (ki, .inl (cy 0, 40, .inl (upd fki (th).toNatClampNeg kd))), (ce, .inl (cy 0, 40, .inl fce)), (si, .inl (cy 0, 40, .inl fsi)), (sp, .inl (cy 0, 40, .inl fsp))] := hD
      refine lv_aload_n hx hb dX7_addThing_24 rfl (lv_at hl 1 rfl) ?_
      refine va_get (D := G) (ci := 7) (v := .ref ce) (C := RX7) (T := TX7) (N := 6) hx hb hts inB7 hown hE.1 hP 0 rfl rfl 2 (by decide) (hts _ m_126) (fun _ h9 => h9) rfl dX7_addThing_25 ?_
      refine lv_iload_n hx hb dX7_addThing_28 rfl (lv_at hl 0 rfl) ?_
      refine lv_iload_n hx hb dX7_addThing_29 rfl (lv_at hl 3 rfl) ?_
      refine va_iast hx hb hE.1 hP hD hS 3 0 rfl rfl (vi_c_X7_addThing_1 th c_1 c_2) dX7_addThing_30 (fun H locs hP hD hS => ?_)
      have hP : va_P G classes [(st, .inr (7, [.ref oc, .ref ki, .ref ce, .ref si, .ref sp, .int th])), (oc, .inl (cy 0, 192, .inl foc)), (ki, .inl (cy 0, 40, .inl (upd fki (th).toNatClampNeg kd))), (ce, .inl (cy 0, 40, .inl (upd fce (th).toNatClampNeg v))), (si, .inl (cy 0, 40, .inl fsi)), (sp, .inl (cy 0, 40, .inl fsp))] H := hP
      have hD : va_D A [(st, .inr (7, [.ref oc, .ref ki, .ref ce, .ref si, .ref sp, .int th])), (oc, .inl (cy 0, 192, .inl foc)), (ki, .inl (cy 0, 40, .inl (upd fki (th).toNatClampNeg kd))), (ce, .inl (cy 0, 40, .inl (upd fce (th).toNatClampNeg v))), (si, .inl (cy 0, 40, .inl fsi)), (sp, .inl (cy 0, 40, .inl fsp))] := hD
      refine lv_aload_n hx hb dX7_addThing_31 rfl (lv_at hl 1 rfl) ?_
      refine va_get (D := G) (ci := 7) (v := .ref si) (C := RX7) (T := TX7) (N := 6) hx hb hts inB7 hown hE.1 hP 0 rfl rfl 3 (by decide) (hts _ m_128) (fun _ h9 => h9) rfl dX7_addThing_32 ?_
      refine lv_iload_n hx hb dX7_addThing_35 rfl (lv_at hl 0 rfl) ?_
      refine lv_iconst (v := 0) hx hb dX7_addThing_36 (by decide) ?_
      refine va_iast hx hb hE.1 hP hD hS 4 0 rfl rfl (vi_c_X7_addThing_2 th c_1 c_2) dX7_addThing_37 (fun H locs hP hD hS => ?_)
      have hP : va_P G classes [(st, .inr (7, [.ref oc, .ref ki, .ref ce, .ref si, .ref sp, .int th])), (oc, .inl (cy 0, 192, .inl foc)), (ki, .inl (cy 0, 40, .inl (upd fki (th).toNatClampNeg kd))), (ce, .inl (cy 0, 40, .inl (upd fce (th).toNatClampNeg v))), (si, .inl (cy 0, 40, .inl (upd fsi (th).toNatClampNeg 0))), (sp, .inl (cy 0, 40, .inl fsp))] H := hP
      have hD : va_D A [(st, .inr (7, [.ref oc, .ref ki, .ref ce, .ref si, .ref sp, .int th])), (oc, .inl (cy 0, 192, .inl foc)), (ki, .inl (cy 0, 40, .inl (upd fki (th).toNatClampNeg kd))), (ce, .inl (cy 0, 40, .inl (upd fce (th).toNatClampNeg v))), (si, .inl (cy 0, 40, .inl (upd fsi (th).toNatClampNeg 0))), (sp, .inl (cy 0, 40, .inl fsp))] := hD
      refine lv_aload_n hx hb dX7_addThing_38 rfl (lv_at hl 1 rfl) ?_
      refine va_get (D := G) (ci := 7) (v := .ref sp) (C := RX7) (T := TX7) (N := 6) hx hb hts inB7 hown hE.1 hP 0 rfl rfl 4 (by decide) (hts _ m_130) (fun _ h9 => h9) rfl dX7_addThing_39 ?_
      refine lv_iload_n hx hb dX7_addThing_42 rfl (lv_at hl 0 rfl) ?_
      refine lv_iconst (v := 0) hx hb dX7_addThing_43 (by decide) ?_
      refine va_iast hx hb hE.1 hP hD hS 5 0 rfl rfl (vi_c_X7_addThing_3 th c_1 c_2) dX7_addThing_44 (fun H locs hP hD hS => ?_)
      have hP : va_P G classes [(st, .inr (7, [.ref oc, .ref ki, .ref ce, .ref si, .ref sp, .int th])), (oc, .inl (cy 0, 192, .inl foc)), (ki, .inl (cy 0, 40, .inl (upd fki (th).toNatClampNeg kd))), (ce, .inl (cy 0, 40, .inl (upd fce (th).toNatClampNeg v))), (si, .inl (cy 0, 40, .inl (upd fsi (th).toNatClampNeg 0))), (sp, .inl (cy 0, 40, .inl (upd fsp (th).toNatClampNeg 0)))] H := hP
      have hD : va_D A [(st, .inr (7, [.ref oc, .ref ki, .ref ce, .ref si, .ref sp, .int th])), (oc, .inl (cy 0, 192, .inl foc)), (ki, .inl (cy 0, 40, .inl (upd fki (th).toNatClampNeg kd))), (ce, .inl (cy 0, 40, .inl (upd fce (th).toNatClampNeg v))), (si, .inl (cy 0, 40, .inl (upd fsi (th).toNatClampNeg 0))), (sp, .inl (cy 0, 40, .inl (upd fsp (th).toNatClampNeg 0)))] := hD
      refine lv_aload_n hx hb dX7_addThing_45 rfl (lv_at hl 1 rfl) ?_
      refine lv_iload_n hx hb dX7_addThing_46 rfl (lv_at hl 3 rfl) ?_
      refine lv_iload_n hx hb dX7_addThing_47 rfl (lv_at hl 0 rfl) ?_
      refine gwVv (B := (B_c_X7_settle G cy (va_A [(st, .inr (7, [.ref oc, .ref ki, .ref ce, .ref si, .ref sp, .int th])), (oc, .inl (cy 0, 192, .inl foc))] H.size) st oc ki ce si sp th foc v th)) (wr := [(ki, .inl (cy 0, 40, .inl (upd fki (th).toNatClampNeg kd))), (ce, .inl (cy 0, 40, .inl (upd fce (th).toNatClampNeg v))), (si, .inl (cy 0, 40, .inl (upd fsi (th).toNatClampNeg 0))), (sp, .inl (cy 0, 40, .inl (upd fsp (th).toNatClampNeg 0)))]) (rest := []) hx hb hml hown hts hE (c_X7_settle l G cy sk sa H.size st oc ki ce si sp th foc v th) kV_X7_settle m_518 rfl rfl ⟨(Nat.le_of_ble_eq_true rfl), (Nat.le_of_ble_eq_true rfl)⟩ hP hD hS hT hA 0 rfl rfl rfl [0, 1] [2, 3, 4, 5] rfl rfl rfl rfl (by decide) rfl rfl hl.1 (Nat.le_of_ble_eq_true rfl) dX7_addThing_48 ⟨(Nat.le_of_ble_eq_true rfl), (Nat.le_of_ble_eq_true rfl)⟩ (fun H locs haf hS => ?_)
      obtain ⟨xf4, hP1, hD1⟩ := haf.1
      obtain ⟨hP, hD⟩ := haf.2.1 _ hP1 hD1
      have hP : va_P G classes [(ki, .inl (cy 0, 40, .inl (upd fki (th).toNatClampNeg kd))), (ce, .inl (cy 0, 40, .inl (upd fce (th).toNatClampNeg v))), (si, .inl (cy 0, 40, .inl (upd fsi (th).toNatClampNeg 0))), (sp, .inl (cy 0, 40, .inl (upd fsp (th).toNatClampNeg 0))), (st, .inr (7, [.ref oc, .ref ki, .ref ce, .ref si, .ref sp, .int th])), (oc, .inl (cy 0, 192, .inl xf4))] H := hP
      have hD : va_D A [(ki, .inl (cy 0, 40, .inl (upd fki (th).toNatClampNeg kd))), (ce, .inl (cy 0, 40, .inl (upd fce (th).toNatClampNeg v))), (si, .inl (cy 0, 40, .inl (upd fsi (th).toNatClampNeg 0))), (sp, .inl (cy 0, 40, .inl (upd fsp (th).toNatClampNeg 0))), (st, .inr (7, [.ref oc, .ref ki, .ref ce, .ref si, .ref sp, .int th])), (oc, .inl (cy 0, 192, .inl xf4))] := hD
      refine lv_aload_n hx hb dX7_addThing_51 rfl (lv_at hl 1 rfl) ?_
      refine lv_dup hx hb dX7_addThing_52 rfl ?_
      refine va_get (D := G) (ci := 7) (v := .int th) (C := RX7) (T := TX7) (N := 6) hx hb hts inB7 hown hE.1 hP 4 rfl rfl 5 (by decide) (hts _ m_132) (fun _ h9 => h9) rfl dX7_addThing_53 ?_
      refine lv_iconst (v := 1) hx hb dX7_addThing_56 (by decide) ?_
      refine lv_iadd hx hb dX7_addThing_57 ?_
      refine va_put (D := G) (ci := 7) (v := .int (th + 1)) (ty := .int) (C := RX7) (T := TX7) (N := 6) hx hb hts inB7 tyX7 tyX7_ok nmX7 hown hE.1 hP hD hS 4 rfl rfl 5 (by decide) (hts _ m_132) (fun _ h9 => h9) rfl (by decide +kernel) rfl rfl (Nat.le_of_ble_eq_true rfl) dX7_addThing_58 (fun H locs hP hD hS => ?_)
      have hP : va_P G classes [(ki, .inl (cy 0, 40, .inl (upd fki (th).toNatClampNeg kd))), (ce, .inl (cy 0, 40, .inl (upd fce (th).toNatClampNeg v))), (si, .inl (cy 0, 40, .inl (upd fsi (th).toNatClampNeg 0))), (sp, .inl (cy 0, 40, .inl (upd fsp (th).toNatClampNeg 0))), (st, .inr (7, [.ref oc, .ref ki, .ref ce, .ref si, .ref sp, .int (th + 1)])), (oc, .inl (cy 0, 192, .inl xf4))] H := hP
      have hD : va_D A [(ki, .inl (cy 0, 40, .inl (upd fki (th).toNatClampNeg kd))), (ce, .inl (cy 0, 40, .inl (upd fce (th).toNatClampNeg v))), (si, .inl (cy 0, 40, .inl (upd fsi (th).toNatClampNeg 0))), (sp, .inl (cy 0, 40, .inl (upd fsp (th).toNatClampNeg 0))), (st, .inr (7, [.ref oc, .ref ki, .ref ce, .ref si, .ref sp, .int (th + 1)])), (oc, .inl (cy 0, 192, .inl xf4))] := hD
      refine lv_iload_n hx hb dX7_addThing_61 rfl (lv_at hl 0 rfl) ?_
      have hP9 := P_cut (wc := [(st, .inr (7, [.ref oc, .ref ki, .ref ce, .ref si, .ref sp, .int (th + 1)])), (oc, .inl (cy 0, 192, .inl xf4)), (ki, .inl (cy 0, 40, .inl (upd fki (th).toNatClampNeg kd))), (ce, .inl (cy 0, 40, .inl (upd fce (th).toNatClampNeg v))), (si, .inl (cy 0, 40, .inl (upd fsi (th).toNatClampNeg 0))), (sp, .inl (cy 0, 40, .inl (upd fsp (th).toNatClampNeg 0)))]) hP [4, 5, 0, 1, 2, 3] rfl
      have hD9 := hD.sub (ws' := [(st, .inr (7, [.ref oc, .ref ki, .ref ce, .ref si, .ref sp, .int (th + 1)])), (oc, .inl (cy 0, 192, .inl xf4)), (ki, .inl (cy 0, 40, .inl (upd fki (th).toNatClampNeg kd))), (ce, .inl (cy 0, 40, .inl (upd fce (th).toNatClampNeg v))), (si, .inl (cy 0, 40, .inl (upd fsi (th).toNatClampNeg 0))), (sp, .inl (cy 0, 40, .inl (upd fsp (th).toNatClampNeg 0)))]) [4, 5, 0, 1, 2, 3] (by decide) rfl
      refine W.widen (k := 0) (n := 0) (by first | exact Nat.le_of_ble_eq_true rfl | omega) (by first | exact Nat.le_of_ble_eq_true rfl | omega) ?_
      exact W.iret (v := th) hx hb hr (fun t ht hW => ⟨⟨th, (), rfl, trivial, by dsimp only; rw [ht]; exact ⟨(th + 1), xf4, (upd fki (th).toNatClampNeg kd), (upd fce (th).toNatClampNeg v), (upd fsi (th).toNatClampNeg 0), (upd fsp (th).toNatClampNeg 0), hP9, hD9⟩⟩, hS.F ht⟩) hS.2.2 dX7_addThing_62
    · refine lv_iconst (v := (-1)) hx hb dX7_addThing_15 (by decide) ?_
      have hP9 := P_cut (wc := [(st, .inr (7, [.ref oc, .ref ki, .ref ce, .ref si, .ref sp, .int th])), (oc, .inl (cy 0, 192, .inl foc)), (ki, .inl (cy 0, 40, .inl fki)), (ce, .inl (cy 0, 40, .inl fce)), (si, .inl (cy 0, 40, .inl fsi)), (sp, .inl (cy 0, 40, .inl fsp))]) hP [0, 1, 2, 3, 4, 5] rfl
      have hD9 := hD.sub (ws' := [(st, .inr (7, [.ref oc, .ref ki, .ref ce, .ref si, .ref sp, .int th])), (oc, .inl (cy 0, 192, .inl foc)), (ki, .inl (cy 0, 40, .inl fki)), (ce, .inl (cy 0, 40, .inl fce)), (si, .inl (cy 0, 40, .inl fsi)), (sp, .inl (cy 0, 40, .inl fsp))]) [0, 1, 2, 3, 4, 5] (by decide) rfl
      refine W.widen (k := 0) (n := 0) (by first | exact Nat.le_of_ble_eq_true rfl | omega) (by first | exact Nat.le_of_ble_eq_true rfl | omega) ?_
      exact W.iret (v := (-1)) hx hb hr (fun t ht hW => ⟨⟨(-1), (), rfl, trivial, by dsimp only; rw [ht]; exact ⟨th, foc, fki, fce, fsi, fsp, hP9, hD9⟩⟩, hS.F ht⟩) hS.2.2 dX7_addThing_16
theorem sw_c_X7_factOf_0 (v : Int32) : v = 0 ∨ v = 1 ∨ v = 2 ∨ (v.toInt < 0 ∨ 2 < v.toInt) := by
  have e : v.toInt = 0 ∨ v.toInt = 1 ∨ v.toInt = 2 ∨ (v.toInt < 0 ∨ 2 < v.toInt) := by omega
  rcases e with e | e | e | e
  · exact Or.inl (Int32.toInt_inj.mp e)
  · exact Or.inr (Or.inl (Int32.toInt_inj.mp e))
  · exact Or.inr (Or.inr (Or.inl (Int32.toInt_inj.mp e)))
  · exact Or.inr (Or.inr (Or.inr (e)))
theorem vi_c_X7_factOf_1 (th : Int32) (v : Int32) (h_2 : (hasT v th)) : vp_in v 40 := by first | exact vin_len (by assumption) (by assumption) (by omega) | exact vin_len2 (by assumption) (by assumption) (by omega) | exact vin_len3 (by assumption) (by assumption) (by omega) | (rw [vp_in_iff]; simp only [inR, hasT, Int32.le_iff_toInt_le, Int32.lt_iff_toInt_lt] at *; simp at *; omega)
theorem vi_c_X7_factOf_2 (th : Int32) (v : Int32) (h_2 : (hasT v th)) : vp_in v 40 := by first | exact vin_len (by assumption) (by assumption) (by omega) | exact vin_len2 (by assumption) (by assumption) (by omega) | exact vin_len3 (by assumption) (by assumption) (by omega) | (rw [vp_in_iff]; simp only [inR, hasT, Int32.le_iff_toInt_le, Int32.lt_iff_toInt_lt] at *; simp at *; omega)
theorem vi_c_X7_factOf_3 (th : Int32) (v : Int32) (h_2 : (hasT v th)) : vp_in v 40 := by first | exact vin_len (by assumption) (by assumption) (by omega) | exact vin_len2 (by assumption) (by assumption) (by omega) | exact vin_len3 (by assumption) (by assumption) (by omega) | (rw [vp_in_iff]; simp only [inR, hasT, Int32.le_iff_toInt_le, Int32.lt_iff_toInt_lt] at *; simp at *; omega)
theorem vi_c_X7_factOf_4 (th : Int32) (v : Int32) (h_2 : (hasT v th)) : vp_in v 40 := by first | exact vin_len (by assumption) (by assumption) (by omega) | exact vin_len2 (by assumption) (by assumption) (by omega) | exact vin_len3 (by assumption) (by assumption) (by omega) | (rw [vp_in_iff]; simp only [inR, hasT, Int32.le_iff_toInt_le, Int32.lt_iff_toInt_lt] at *; simp at *; omega)
set_option maxHeartbeats 4000000 in
set_option maxRecDepth 100000 in
theorem c_X7_factOf (l : Launch) (G : va_G) (cy : Nat → ClassId) (sk sa : Nat → Nat) (sz : Nat) (st : Nat) (oc : Nat) (ki : Nat) (ce : Nat) (si : Nat) (sp : Nat) (th : Int32) (foc : Nat → Int32) (fki : Nat → Int32) (fce : Nat → Int32) (fsi : Nat → Int32) (fsp : Nat → Int32) (v : Int32) (wh : Int32)  : Met l yX7_factOf (wsO yX7_factOf cX7_factOf 3 (some .int)) ({ frames := 1, cells := 0, slots := 0, locals := 21 }) (va_Pc [.ref st, .int v, .int wh] (PG G cy sk sa sz [(st, .inr (7, [.ref oc, .ref ki, .ref ce, .ref si, .ref sp, .int th])), (oc, .inl (cy 0, 192, .inl foc)), (ki, .inl (cy 0, 40, .inl fki)), (ce, .inl (cy 0, 40, .inl fce)), (si, .inl (cy 0, 40, .inl fsi)), (sp, .inl (cy 0, 40, .inl fsp))])) (vp_Si (fun _ => True)) 0 0 (fun _ => False) := by
  refine mgr (by decide) (Nat.le_of_ble_eq_true rfl) ?_
  intro p e s m below meth c ls A hx hb hr hml hts hown hlocks hin hsz hP hE hD hS hT hl
  subst hsz
  have hl : lv_has ls 3 [(0, .ref st), (1, .int v), (2, .int wh)] := hl
  refine lv_aload_n hx hb dX7_factOf_0 rfl (lv_at hl 0 rfl) ?_
  refine lv_iload_n hx hb dX7_factOf_1 rfl (lv_at hl 1 rfl) ?_
  refine grV (rest := []) hx hb hml hown hts hE (c_X7_hasThing l G cy sk sa s.heap.size st oc ki ce si sp th v) kV_X7_hasThing m_534 rfl rfl ⟨(Nat.le_of_ble_eq_true rfl), (Nat.le_of_ble_eq_true rfl)⟩ hP hD hS hT 0 rfl rfl rfl [0] rfl rfl rfl rfl hl.1 (Nat.le_of_ble_eq_true rfl) dX7_factOf_2 ⟨Nat.zero_le _, Nat.zero_le _⟩ (fun r_1 hr_ => ?_)
  rcases hr_ with ⟨rfl, h_2⟩ | ⟨rfl, h_2⟩
  · refine lv_if_ne (tgt := 10) hx hb dX7_factOf_5 (by decide) (fun _ => ?_) (fun h9 => absurd h9 (by decide))
    refine lv_iload_n hx hb dX7_factOf_10 rfl (lv_at hl 2 rfl) ?_
    rcases sw_c_X7_factOf_0 wh with e_3 | e_3 | e_3 | e_3
    · refine lv_tableIn (tgt := 36) (off := 25) hx hb dX7_factOf_11 (by rw [e_3]; decide) (by rw [e_3]; decide) (by rw [e_3]; decide) (by decide) ?_
      refine lv_aload_n hx hb dX7_factOf_36 rfl (lv_at hl 0 rfl) ?_
      refine va_get (D := G) (ci := 7) (v := .ref ki) (C := RX7) (T := TX7) (N := 6) hx hb hts inB7 hown hE.1 hP 0 rfl rfl 1 (by decide) (hts _ m_124) (fun _ h9 => h9) rfl dX7_factOf_37 ?_
      refine lv_iload_n hx hb dX7_factOf_40 rfl (lv_at hl 1 rfl) ?_
      refine va_iald hx hb hE.1 hP 2 0 rfl rfl (vi_c_X7_factOf_1 th v h_2) dX7_factOf_41 ?_
      refine lv_topi (fun y4 ey4 => ?_)
      exact W.iret (v := y4) hx hb hr (fun t ht hW => ⟨y4, rfl, trivial, ht⟩) (fun _ h => by cases h) dX7_factOf_42
    · refine lv_tableIn (tgt := 43) (off := 32) hx hb dX7_factOf_11 (by rw [e_3]; decide) (by rw [e_3]; decide) (by rw [e_3]; decide) (by decide) ?_
      refine lv_aload_n hx hb dX7_factOf_43 rfl (lv_at hl 0 rfl) ?_
      refine va_get (D := G) (ci := 7) (v := .ref ce) (C := RX7) (T := TX7) (N := 6) hx hb hts inB7 hown hE.1 hP 0 rfl rfl 2 (by decide) (hts _ m_126) (fun _ h9 => h9) rfl dX7_factOf_44 ?_
      refine lv_iload_n hx hb dX7_factOf_47 rfl (lv_at hl 1 rfl) ?_
      refine va_iald hx hb hE.1 hP 3 0 rfl rfl (vi_c_X7_factOf_2 th v h_2) dX7_factOf_48 ?_
      refine lv_topi (fun y5 ey5 => ?_)
      exact W.iret (v := y5) hx hb hr (fun t ht hW => ⟨y5, rfl, trivial, ht⟩) (fun _ h => by cases h) dX7_factOf_49
    · refine lv_tableIn (tgt := 50) (off := 39) hx hb dX7_factOf_11 (by rw [e_3]; decide) (by rw [e_3]; decide) (by rw [e_3]; decide) (by decide) ?_
      refine lv_aload_n hx hb dX7_factOf_50 rfl (lv_at hl 0 rfl) ?_
      refine va_get (D := G) (ci := 7) (v := .ref si) (C := RX7) (T := TX7) (N := 6) hx hb hts inB7 hown hE.1 hP 0 rfl rfl 3 (by decide) (hts _ m_128) (fun _ h9 => h9) rfl dX7_factOf_51 ?_
      refine lv_iload_n hx hb dX7_factOf_54 rfl (lv_at hl 1 rfl) ?_
      refine va_iald hx hb hE.1 hP 4 0 rfl rfl (vi_c_X7_factOf_3 th v h_2) dX7_factOf_55 ?_
      refine lv_topi (fun y6 ey6 => ?_)
      exact W.iret (v := y6) hx hb hr (fun t ht hW => ⟨y6, rfl, trivial, ht⟩) (fun _ h => by cases h) dX7_factOf_56
    · refine lv_tableOut (tgt := 57) hx hb dX7_factOf_11 e_3 (by decide) ?_
      refine lv_aload_n hx hb dX7_factOf_57 rfl (lv_at hl 0 rfl) ?_
      refine va_get (D := G) (ci := 7) (v := .ref sp) (C := RX7) (T := TX7) (N := 6) hx hb hts inB7 hown hE.1 hP 0 rfl rfl 4 (by decide) (hts _ m_130) (fun _ h9 => h9) rfl dX7_factOf_58 ?_
      refine lv_iload_n hx hb dX7_factOf_61 rfl (lv_at hl 1 rfl) ?_
      refine va_iald hx hb hE.1 hP 5 0 rfl rfl (vi_c_X7_factOf_4 th v h_2) dX7_factOf_62 ?_
      refine lv_topi (fun y7 ey7 => ?_)
      exact W.iret (v := y7) hx hb hr (fun t ht hW => ⟨y7, rfl, trivial, ht⟩) (fun _ h => by cases h) dX7_factOf_63
  · refine lv_if_ne (tgt := 10) hx hb dX7_factOf_5 (by decide) (fun h9 => absurd h9 (by decide)) (fun _ => ?_)
    refine lv_iconst (v := 0) hx hb dX7_factOf_8 (by decide) ?_
    exact W.iret (v := 0) hx hb hr (fun t ht hW => ⟨0, rfl, trivial, ht⟩) (fun _ h => by cases h) dX7_factOf_9
def B_c_X7_takeAway (G : va_G) (cy : Nat → ClassId) (A : Nat → Prop) (st : Nat) (oc : Nat) (ki : Nat) (ce : Nat) (si : Nat) (sp : Nat) (th : Int32) (foc : Nat → Int32) (fki : Nat → Int32) (fce : Nat → Int32) (fsi : Nat → Int32) (fsp : Nat → Int32) (v : Int32) (H : Heap) : Prop := ∃ (th2 : Int32) (goc : Nat → Int32) (gki : Nat → Int32) (gce : Nat → Int32) (gsi : Nat → Int32) (gsp : Nat → Int32), va_P G classes [(st, .inr (7, [.ref oc, .ref ki, .ref ce, .ref si, .ref sp, .int th2])), (oc, .inl (cy 0, 192, .inl goc)), (ki, .inl (cy 0, 40, .inl gki)), (ce, .inl (cy 0, 40, .inl gce)), (si, .inl (cy 0, 40, .inl gsi)), (sp, .inl (cy 0, 40, .inl gsp))] H ∧ va_D A [(st, .inr (7, [.ref oc, .ref ki, .ref ce, .ref si, .ref sp, .int th2])), (oc, .inl (cy 0, 192, .inl goc)), (ki, .inl (cy 0, 40, .inl gki)), (ce, .inl (cy 0, 40, .inl gce)), (si, .inl (cy 0, 40, .inl gsi)), (sp, .inl (cy 0, 40, .inl gsp))]
theorem vi_c_X7_takeAway_0 (th : Int32) (v : Int32) (h_2 : (hasT v th)) : vp_in v 40 := by first | exact vin_len (by assumption) (by assumption) (by omega) | exact vin_len2 (by assumption) (by assumption) (by omega) | exact vin_len3 (by assumption) (by assumption) (by omega) | (rw [vp_in_iff]; simp only [inR, hasT, Int32.le_iff_toInt_le, Int32.lt_iff_toInt_lt] at *; simp at *; omega)
theorem vi_c_X7_takeAway_1 (th : Int32) (v : Int32) (h_2 : (hasT v th)) : vp_in v 40 := by first | exact vin_len (by assumption) (by assumption) (by omega) | exact vin_len2 (by assumption) (by assumption) (by omega) | exact vin_len3 (by assumption) (by assumption) (by omega) | (rw [vp_in_iff]; simp only [inR, hasT, Int32.le_iff_toInt_le, Int32.lt_iff_toInt_lt] at *; simp at *; omega)
set_option maxHeartbeats 4000000 in
set_option maxRecDepth 100000 in
theorem c_X7_takeAway (l : Launch) (G : va_G) (cy : Nat → ClassId) (sk sa : Nat → Nat) (sz : Nat) (st : Nat) (oc : Nat) (ki : Nat) (ce : Nat) (si : Nat) (sp : Nat) (th : Int32) (foc : Nat → Int32) (fki : Nat → Int32) (fce : Nat → Int32) (fsi : Nat → Int32) (fsp : Nat → Int32) (v : Int32)  : Met l yX7_takeAway (wsO yX7_takeAway cX7_takeAway 3 (some .int)) ({ frames := 2, cells := 0, slots := 0, locals := 42 }) (va_Pc [.ref st, .int v] (PG G cy sk sa sz [(st, .inr (7, [.ref oc, .ref ki, .ref ce, .ref si, .ref sp, .int th])), (oc, .inl (cy 0, 192, .inl foc)), (ki, .inl (cy 0, 40, .inl fki)), (ce, .inl (cy 0, 40, .inl fce)), (si, .inl (cy 0, 40, .inl fsi)), (sp, .inl (cy 0, 40, .inl fsp))])) (va_Qi (fun r (_ : Unit) => True) (fun _ t => B_c_X7_takeAway G cy (va_A [(st, .inr (7, [.ref oc, .ref ki, .ref ce, .ref si, .ref sp, .int th])), (oc, .inl (cy 0, 192, .inl foc)), (ki, .inl (cy 0, 40, .inl fki)), (ce, .inl (cy 0, 40, .inl fce)), (si, .inl (cy 0, 40, .inl fsi)), (sp, .inl (cy 0, 40, .inl fsp))] sz) st oc ki ce si sp th foc fki fce fsi fsp v t.heap) (va_A [(st, .inr (7, [.ref oc, .ref ki, .ref ce, .ref si, .ref sp, .int th])), (oc, .inl (cy 0, 192, .inl foc)), (ki, .inl (cy 0, 40, .inl fki)), (ce, .inl (cy 0, 40, .inl fce)), (si, .inl (cy 0, 40, .inl fsi)), (sp, .inl (cy 0, 40, .inl fsp))] sz)) 0 0 (va_A [(st, .inr (7, [.ref oc, .ref ki, .ref ce, .ref si, .ref sp, .int th])), (oc, .inl (cy 0, 192, .inl foc)), (ki, .inl (cy 0, 40, .inl fki)), (ce, .inl (cy 0, 40, .inl fce)), (si, .inl (cy 0, 40, .inl fsi)), (sp, .inl (cy 0, 40, .inl fsp))] sz) := by
  refine mgw (Qc := fun A => (va_Qi (fun r (_ : Unit) => True) (fun _ t => B_c_X7_takeAway G cy A st oc ki ce si sp th foc fki fce fsi fsp v t.heap) A)) (by decide) (Nat.le_of_ble_eq_true rfl) ?_
  intro p e s m below meth c ls A hx hb hr hml hts hown hlocks hin hP hE hD hS hA hT hl
  have hl : lv_has ls 3 [(0, .ref st), (1, .int v)] := hl
  refine lv_aload_n hx hb dX7_takeAway_0 rfl (lv_at hl 0 rfl) ?_
  refine lv_iload_n hx hb dX7_takeAway_1 rfl (lv_at hl 1 rfl) ?_
  refine grV (rest := []) hx hb hml hown hts hE (c_X7_hasThing l G cy sk sa s.heap.size st oc ki ce si sp th v) kV_X7_hasThing m_534 rfl rfl ⟨(Nat.le_of_ble_eq_true rfl), (Nat.le_of_ble_eq_true rfl)⟩ hP hD hS hT 0 rfl rfl rfl [0] rfl rfl rfl rfl hl.1 (Nat.le_of_ble_eq_true rfl) dX7_takeAway_2 ⟨(Nat.le_of_ble_eq_true rfl), (Nat.le_of_ble_eq_true rfl)⟩ (fun r_1 hr_ => ?_)
  rcases hr_ with ⟨rfl, h_2⟩ | ⟨rfl, h_2⟩
  · refine lv_if_ne (tgt := 10) hx hb dX7_takeAway_5 (by decide) (fun _ => ?_) (fun h9 => absurd h9 (by decide))
    refine lv_aload_n hx hb dX7_takeAway_10 rfl (lv_at hl 0 rfl) ?_
    refine va_get (D := G) (ci := 7) (v := .ref ce) (C := RX7) (T := TX7) (N := 6) hx hb hts inB7 hown hE.1 hP 0 rfl rfl 2 (by decide) (hts _ m_126) (fun _ h9 => h9) rfl dX7_takeAway_11 ?_
    refine lv_iload_n hx hb dX7_takeAway_14 rfl (lv_at hl 1 rfl) ?_
    refine va_iald hx hb hE.1 hP 3 0 rfl rfl (vi_c_X7_takeAway_0 th v h_2) dX7_takeAway_15 ?_
    refine lv_topi (fun y3 ey3 => ?_)
    refine lv_istore_n (lv' := [(2, .int y3), (0, .ref st), (1, .int v)]) hx hb dX7_takeAway_16 rfl hl (by decide) rfl (fun ls hl => ?_)
    refine lv_aload_n hx hb dX7_takeAway_17 rfl (lv_at hl 1 rfl) ?_
    refine lv_iload_n hx hb dX7_takeAway_18 rfl (lv_at hl 0 rfl) ?_
    refine lv_iconst (v := (-1)) hx hb dX7_takeAway_19 (by decide) ?_
    refine gwVv (B := (B_c_X7_settle G cy (va_A [(st, .inr (7, [.ref oc, .ref ki, .ref ce, .ref si, .ref sp, .int th])), (oc, .inl (cy 0, 192, .inl foc))] s.heap.size) st oc ki ce si sp th foc y3 (-1))) (wr := [(ki, .inl (cy 0, 40, .inl fki)), (ce, .inl (cy 0, 40, .inl fce)), (si, .inl (cy 0, 40, .inl fsi)), (sp, .inl (cy 0, 40, .inl fsp))]) (rest := []) hx hb hml hown hts hE (c_X7_settle l G cy sk sa s.heap.size st oc ki ce si sp th foc y3 (-1)) kV_X7_settle m_518 rfl rfl ⟨(Nat.le_of_ble_eq_true rfl), (Nat.le_of_ble_eq_true rfl)⟩ hP hD hS hT hA 0 rfl rfl rfl [0, 1] [2, 3, 4, 5] rfl rfl rfl rfl (by decide) rfl rfl hl.1 (Nat.le_of_ble_eq_true rfl) dX7_takeAway_20 ⟨(Nat.le_of_ble_eq_true rfl), (Nat.le_of_ble_eq_true rfl)⟩ (fun H locs haf hS => ?_)
    obtain ⟨xf5, hP1, hD1⟩ := haf.1
    obtain ⟨hP, hD⟩ := haf.2.1 _ hP1 hD1
    have hP : va_P G classes [(ki, .inl (cy 0, 40, .inl fki)), (ce, .inl (cy 0, 40, .inl fce)), (si, .inl (cy 0, 40, .inl fsi)), (sp, .inl (cy 0, 40, .inl fsp)), (st, .inr (7, [.ref oc, .ref ki, .ref ce, .ref si, .ref sp, .int th])), (oc, .inl (cy 0, 192, .inl xf5))] H := hP
    have hD : va_D A [(ki, .inl (cy 0, 40, .inl fki)), (ce, .inl (cy 0, 40, .inl fce)), (si, .inl (cy 0, 40, .inl fsi)), (sp, .inl (cy 0, 40, .inl fsp)), (st, .inr (7, [.ref oc, .ref ki, .ref ce, .ref si, .ref sp, .int th])), (oc, .inl (cy 0, 192, .inl xf5))] := hD
    refine lv_aload_n hx hb dX7_takeAway_23 rfl (lv_at hl 1 rfl) ?_
    refine va_get (D := G) (ci := 7) (v := .ref ce) (C := RX7) (T := TX7) (N := 6) hx hb hts inB7 hown hE.1 hP 4 rfl rfl 2 (by decide) (hts _ m_126) (fun _ h9 => h9) rfl dX7_takeAway_24 ?_
    refine lv_iload_n hx hb dX7_takeAway_27 rfl (lv_at hl 2 rfl) ?_
    refine lv_iconst (v := (-1)) hx hb dX7_takeAway_28 (by decide) ?_
    refine va_iast hx hb hE.1 hP hD hS 1 0 rfl rfl (vi_c_X7_takeAway_1 th v h_2) dX7_takeAway_29 (fun H locs hP hD hS => ?_)
    have hP : va_P G classes [(ki, .inl (cy 0, 40, .inl fki)), (ce, .inl (cy 0, 40, .inl (upd fce (v).toNatClampNeg (-1)))), (si, .inl (cy 0, 40, .inl fsi)), (sp, .inl (cy 0, 40, .inl fsp)), (st, .inr (7, [.ref oc, .ref ki, .ref ce, .ref si, .ref sp, .int th])), (oc, .inl (cy 0, 192, .inl xf5))] H := hP
    have hD : va_D A [(ki, .inl (cy 0, 40, .inl fki)), (ce, .inl (cy 0, 40, .inl (upd fce (v).toNatClampNeg (-1)))), (si, .inl (cy 0, 40, .inl fsi)), (sp, .inl (cy 0, 40, .inl fsp)), (st, .inr (7, [.ref oc, .ref ki, .ref ce, .ref si, .ref sp, .int th])), (oc, .inl (cy 0, 192, .inl xf5))] := hD
    refine lv_iload_n hx hb dX7_takeAway_30 rfl (lv_at hl 0 rfl) ?_
    have hP9 := P_cut (wc := [(st, .inr (7, [.ref oc, .ref ki, .ref ce, .ref si, .ref sp, .int th])), (oc, .inl (cy 0, 192, .inl xf5)), (ki, .inl (cy 0, 40, .inl fki)), (ce, .inl (cy 0, 40, .inl (upd fce (v).toNatClampNeg (-1)))), (si, .inl (cy 0, 40, .inl fsi)), (sp, .inl (cy 0, 40, .inl fsp))]) hP [4, 5, 0, 1, 2, 3] rfl
    have hD9 := hD.sub (ws' := [(st, .inr (7, [.ref oc, .ref ki, .ref ce, .ref si, .ref sp, .int th])), (oc, .inl (cy 0, 192, .inl xf5)), (ki, .inl (cy 0, 40, .inl fki)), (ce, .inl (cy 0, 40, .inl (upd fce (v).toNatClampNeg (-1)))), (si, .inl (cy 0, 40, .inl fsi)), (sp, .inl (cy 0, 40, .inl fsp))]) [4, 5, 0, 1, 2, 3] (by decide) rfl
    refine W.widen (k := 0) (n := 0) (by first | exact Nat.le_of_ble_eq_true rfl | omega) (by first | exact Nat.le_of_ble_eq_true rfl | omega) ?_
    exact W.iret (v := y3) hx hb hr (fun t ht hW => ⟨⟨y3, (), rfl, trivial, by dsimp only; rw [ht]; exact ⟨th, xf5, fki, (upd fce (v).toNatClampNeg (-1)), fsi, fsp, hP9, hD9⟩⟩, hS.F ht⟩) hS.2.2 dX7_takeAway_31
  · refine lv_if_ne (tgt := 10) hx hb dX7_takeAway_5 (by decide) (fun h9 => absurd h9 (by decide)) (fun _ => ?_)
    refine lv_iconst (v := (-1)) hx hb dX7_takeAway_8 (by decide) ?_
    have hP9 := P_cut (wc := [(st, .inr (7, [.ref oc, .ref ki, .ref ce, .ref si, .ref sp, .int th])), (oc, .inl (cy 0, 192, .inl foc)), (ki, .inl (cy 0, 40, .inl fki)), (ce, .inl (cy 0, 40, .inl fce)), (si, .inl (cy 0, 40, .inl fsi)), (sp, .inl (cy 0, 40, .inl fsp))]) hP [0, 1, 2, 3, 4, 5] rfl
    have hD9 := hD.sub (ws' := [(st, .inr (7, [.ref oc, .ref ki, .ref ce, .ref si, .ref sp, .int th])), (oc, .inl (cy 0, 192, .inl foc)), (ki, .inl (cy 0, 40, .inl fki)), (ce, .inl (cy 0, 40, .inl fce)), (si, .inl (cy 0, 40, .inl fsi)), (sp, .inl (cy 0, 40, .inl fsp))]) [0, 1, 2, 3, 4, 5] (by decide) rfl
    refine W.widen (k := 0) (n := 0) (by first | exact Nat.le_of_ble_eq_true rfl | omega) (by first | exact Nat.le_of_ble_eq_true rfl | omega) ?_
    exact W.iret (v := (-1)) hx hb hr (fun t ht hW => ⟨⟨(-1), (), rfl, trivial, by dsimp only; rw [ht]; exact ⟨th, foc, fki, fce, fsi, fsp, hP9, hD9⟩⟩, hS.F ht⟩) hS.2.2 dX7_takeAway_9
theorem vi_c_X7_kindIn_0 (th : Int32) (y3 : Int32) (h_5 : (hasT y3 th)) : vp_in y3 40 := by first | exact vin_len (by assumption) (by assumption) (by omega) | exact vin_len2 (by assumption) (by assumption) (by omega) | exact vin_len3 (by assumption) (by assumption) (by omega) | (rw [vp_in_iff]; simp only [inR, hasT, Int32.le_iff_toInt_le, Int32.lt_iff_toInt_lt] at *; simp at *; omega)
theorem vi_c_X7_kindIn_1 (th : Int32) (v : Int32) (h_2 : ¬ inR v 0 191) (h_8 : (hasT (-1) th)) : vp_in (-1) 40 := by exfalso; simp only [inR, hasT, Int32.le_iff_toInt_le, Int32.lt_iff_toInt_lt] at *; simp at *
set_option maxHeartbeats 4000000 in
set_option maxRecDepth 100000 in
theorem c_X7_kindIn (l : Launch) (G : va_G) (cy : Nat → ClassId) (sk sa : Nat → Nat) (sz : Nat) (st : Nat) (oc : Nat) (ki : Nat) (ce : Nat) (si : Nat) (sp : Nat) (th : Int32) (foc : Nat → Int32) (fki : Nat → Int32) (fce : Nat → Int32) (fsi : Nat → Int32) (fsp : Nat → Int32) (v : Int32)  : Met l yX7_kindIn (wsO yX7_kindIn cX7_kindIn 3 (some .int)) ({ frames := 1, cells := 0, slots := 0, locals := 21 }) (va_Pc [.ref st, .int v] (PG G cy sk sa sz [(st, .inr (7, [.ref oc, .ref ki, .ref ce, .ref si, .ref sp, .int th])), (oc, .inl (cy 0, 192, .inl foc)), (ki, .inl (cy 0, 40, .inl fki)), (ce, .inl (cy 0, 40, .inl fce)), (si, .inl (cy 0, 40, .inl fsi)), (sp, .inl (cy 0, 40, .inl fsp))])) (vp_Si (fun _ => True)) 0 0 (fun _ => False) := by
  refine mgr (by decide) (Nat.le_of_ble_eq_true rfl) ?_
  intro p e s m below meth c ls A hx hb hr hml hts hown hlocks hin hsz hP hE hD hS hT hl
  subst hsz
  have hl : lv_has ls 3 [(0, .ref st), (1, .int v)] := hl
  refine lv_iload_n hx hb dX7_kindIn_0 rfl (lv_at hl 1 rfl) ?_
  refine grS (rest := []) hx hb hml hown hts hE (c_X7_isCell l G cy sk sa s.heap.size v) kS_X7_isCell m_509 rfl rfl ⟨(Nat.le_of_ble_eq_true rfl), (Nat.le_of_ble_eq_true rfl)⟩ hP hD hS hT [] rfl rfl rfl rfl hl.1 (Nat.le_of_ble_eq_true rfl) dX7_kindIn_1 ⟨Nat.zero_le _, Nat.zero_le _⟩ (fun r_1 hr_ => ?_)
  rcases hr_ with ⟨rfl, h_2⟩ | ⟨rfl, h_2⟩
  · refine lv_if_eq (tgt := 16) hx hb dX7_kindIn_4 (by decide) (fun h9 => absurd h9 (by decide)) (fun _ => ?_)
    refine lv_aload_n hx hb dX7_kindIn_7 rfl (lv_at hl 0 rfl) ?_
    refine va_get (D := G) (ci := 7) (v := .ref oc) (C := RX7) (T := TX7) (N := 6) hx hb hts inB7 hown hE.1 hP 0 rfl rfl 0 (by decide) (hts _ m_121) (fun _ h9 => h9) rfl dX7_kindIn_8 ?_
    refine lv_iload_n hx hb dX7_kindIn_11 rfl (lv_at hl 1 rfl) ?_
    refine va_iald hx hb hE.1 hP 1 0 rfl rfl (vinB h_2 (by decide) (by decide)) dX7_kindIn_12 ?_
    refine lv_topi (fun y3 ey3 => ?_)
    refine lv_goto (tgt := 17) hx hb dX7_kindIn_13 (by decide) ?_
    refine lv_istore_n (lv' := [(2, .int y3), (0, .ref st), (1, .int v)]) hx hb dX7_kindIn_17 rfl hl (by decide) rfl (fun ls hl => ?_)
    refine lv_aload_n hx hb dX7_kindIn_18 rfl (lv_at hl 1 rfl) ?_
    refine lv_iload_n hx hb dX7_kindIn_19 rfl (lv_at hl 0 rfl) ?_
    refine grV (rest := []) hx hb hml hown hts hE (c_X7_hasThing l G cy sk sa s.heap.size st oc ki ce si sp th y3) kV_X7_hasThing m_534 rfl rfl ⟨(Nat.le_of_ble_eq_true rfl), (Nat.le_of_ble_eq_true rfl)⟩ hP hD hS hT 0 rfl rfl rfl [0] rfl rfl rfl rfl hl.1 (Nat.le_of_ble_eq_true rfl) dX7_kindIn_20 ⟨Nat.zero_le _, Nat.zero_le _⟩ (fun r_4 hr_ => ?_)
    rcases hr_ with ⟨rfl, h_5⟩ | ⟨rfl, h_5⟩
    · refine lv_if_eq (tgt := 35) hx hb dX7_kindIn_23 (by decide) (fun h9 => absurd h9 (by decide)) (fun _ => ?_)
      refine lv_aload_n hx hb dX7_kindIn_26 rfl (lv_at hl 1 rfl) ?_
      refine va_get (D := G) (ci := 7) (v := .ref ki) (C := RX7) (T := TX7) (N := 6) hx hb hts inB7 hown hE.1 hP 0 rfl rfl 1 (by decide) (hts _ m_124) (fun _ h9 => h9) rfl dX7_kindIn_27 ?_
      refine lv_iload_n hx hb dX7_kindIn_30 rfl (lv_at hl 0 rfl) ?_
      refine va_iald hx hb hE.1 hP 2 0 rfl rfl (vi_c_X7_kindIn_0 th y3 h_5) dX7_kindIn_31 ?_
      refine lv_topi (fun y6 ey6 => ?_)
      refine lv_goto (tgt := 36) hx hb dX7_kindIn_32 (by decide) ?_
      exact W.iret (v := y6) hx hb hr (fun t ht hW => ⟨y6, rfl, trivial, ht⟩) (fun _ h => by cases h) dX7_kindIn_36
    · refine lv_if_eq (tgt := 35) hx hb dX7_kindIn_23 (by decide) (fun _ => ?_) (fun h9 => absurd h9 (by decide))
      refine lv_iconst (v := 3) hx hb dX7_kindIn_35 (by decide) ?_
      exact W.iret (v := 3) hx hb hr (fun t ht hW => ⟨3, rfl, trivial, ht⟩) (fun _ h => by cases h) dX7_kindIn_36
  · refine lv_if_eq (tgt := 16) hx hb dX7_kindIn_4 (by decide) (fun _ => ?_) (fun h9 => absurd h9 (by decide))
    refine lv_iconst (v := (-1)) hx hb dX7_kindIn_16 (by decide) ?_
    refine lv_istore_n (lv' := [(2, .int (-1)), (0, .ref st), (1, .int v)]) hx hb dX7_kindIn_17 rfl hl (by decide) rfl (fun ls hl => ?_)
    refine lv_aload_n hx hb dX7_kindIn_18 rfl (lv_at hl 1 rfl) ?_
    refine lv_iload_n hx hb dX7_kindIn_19 rfl (lv_at hl 0 rfl) ?_
    refine grV (rest := []) hx hb hml hown hts hE (c_X7_hasThing l G cy sk sa s.heap.size st oc ki ce si sp th (-1)) kV_X7_hasThing m_534 rfl rfl ⟨(Nat.le_of_ble_eq_true rfl), (Nat.le_of_ble_eq_true rfl)⟩ hP hD hS hT 0 rfl rfl rfl [0] rfl rfl rfl rfl hl.1 (Nat.le_of_ble_eq_true rfl) dX7_kindIn_20 ⟨Nat.zero_le _, Nat.zero_le _⟩ (fun r_7 hr_ => ?_)
    rcases hr_ with ⟨rfl, h_8⟩ | ⟨rfl, h_8⟩
    · refine lv_if_eq (tgt := 35) hx hb dX7_kindIn_23 (by decide) (fun h9 => absurd h9 (by decide)) (fun _ => ?_)
      refine lv_aload_n hx hb dX7_kindIn_26 rfl (lv_at hl 1 rfl) ?_
      refine va_get (D := G) (ci := 7) (v := .ref ki) (C := RX7) (T := TX7) (N := 6) hx hb hts inB7 hown hE.1 hP 0 rfl rfl 1 (by decide) (hts _ m_124) (fun _ h9 => h9) rfl dX7_kindIn_27 ?_
      refine lv_iload_n hx hb dX7_kindIn_30 rfl (lv_at hl 0 rfl) ?_
      refine va_iald hx hb hE.1 hP 2 0 rfl rfl (vi_c_X7_kindIn_1 th v h_2 h_8) dX7_kindIn_31 ?_
      refine lv_topi (fun y9 ey9 => ?_)
      refine lv_goto (tgt := 36) hx hb dX7_kindIn_32 (by decide) ?_
      exact W.iret (v := y9) hx hb hr (fun t ht hW => ⟨y9, rfl, trivial, ht⟩) (fun _ h => by cases h) dX7_kindIn_36
    · refine lv_if_eq (tgt := 35) hx hb dX7_kindIn_23 (by decide) (fun _ => ?_) (fun h9 => absurd h9 (by decide))
      refine lv_iconst (v := 3) hx hb dX7_kindIn_35 (by decide) ?_
      exact W.iret (v := 3) hx hb hr (fun t ht hW => ⟨3, rfl, trivial, ht⟩) (fun _ h => by cases h) dX7_kindIn_36
