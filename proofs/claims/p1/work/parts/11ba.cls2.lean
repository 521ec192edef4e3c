def B_c_X3_tryRows (G : va_G) (cy : Nat → ClassId) (A : Nat → Prop) (le : Nat) (te : Nat) (ne : Nat) (mi : Nat) (tr : Nat) (be : Nat) (rta : Nat) (rba : Nat) (frt : Nat → Int32) (frb : Nat → Int32) (w : Int32) (kn : Int32) (H : Heap) : Prop := ∃ (fd : Int32), ((fd = 1 ∧ (w &&& (kn ^^^ (-1))) = 0) ∨ (fd = 0 ∧ ¬ (w &&& (kn ^^^ (-1))) = 0)) ∧ va_P G classes [(le, .inr (3, [.ref te, .ref ne, .ref mi, .int 0, .ref tr, .ref be, .int w, .int 0, .int fd])), (tr, .inr (5, [.ref rta, .int 0])), (be, .inr (5, [.ref rba, .int 0]))] H ∧ va_D A [(le, .inr (3, [.ref te, .ref ne, .ref mi, .int 0, .ref tr, .ref be, .int w, .int 0, .int fd])), (tr, .inr (5, [.ref rta, .int 0])), (be, .inr (5, [.ref rba, .int 0]))]
set_option maxHeartbeats 4000000 in
set_option maxRecDepth 100000 in
theorem c_X3_tryRows (l : Launch) (G : va_G) (cy : Nat → ClassId) (sk : Nat → Nat) (sz : Nat) (le : Nat) (te : Nat) (ne : Nat) (mi : Nat) (tr : Nat) (be : Nat) (rta : Nat) (rba : Nat) (frt : Nat → Int32) (frb : Nat → Int32) (w : Int32) (kn : Int32)  : Met l yX3_tryRows (wsO yX3_tryRows cX3_tryRows 5 none) ({ frames := 2, cells := 0, slots := 0, locals := 36 }) (va_Pc [.ref le, .int kn, .int 0, .int 0] (PR G cy sk sz [(le, .inr (3, [.ref te, .ref ne, .ref mi, .int 0, .ref tr, .ref be, .int w, .int 0, .int 0])), (tr, .inr (5, [.ref rta, .int 0])), (rta, .inl (cy 0, 7, .inl frt)), (be, .inr (5, [.ref rba, .int 0])), (rba, .inl (cy 0, 7, .inl frb))])) (va_Qv (fun (_ : Unit) => True) (fun _ t => B_c_X3_tryRows G cy (va_A [(le, .inr (3, [.ref te, .ref ne, .ref mi, .int 0, .ref tr, .ref be, .int w, .int 0, .int 0])), (tr, .inr (5, [.ref rta, .int 0])), (rta, .inl (cy 0, 7, .inl frt)), (be, .inr (5, [.ref rba, .int 0])), (rba, .inl (cy 0, 7, .inl frb))] sz) le te ne mi tr be rta rba frt frb w kn t.heap) (va_A [(le, .inr (3, [.ref te, .ref ne, .ref mi, .int 0, .ref tr, .ref be, .int w, .int 0, .int 0])), (tr, .inr (5, [.ref rta, .int 0])), (rta, .inl (cy 0, 7, .inl frt)), (be, .inr (5, [.ref rba, .int 0])), (rba, .inl (cy 0, 7, .inl frb))] sz)) 0 0 (va_A [(le, .inr (3, [.ref te, .ref ne, .ref mi, .int 0, .ref tr, .ref be, .int w, .int 0, .int 0])), (tr, .inr (5, [.ref rta, .int 0])), (rta, .inl (cy 0, 7, .inl frt)), (be, .inr (5, [.ref rba, .int 0])), (rba, .inl (cy 0, 7, .inl frb))] sz) := by
  refine mt (by decide) (Nat.le_of_ble_eq_true rfl) ?_
  intro p e s m below meth c ls hx hb hr hml hts hown hlocks hin hsz hP hE hD hl
  subst hsz
  have hl : lv_has ls 5 [(0, .ref le), (1, .int kn), (2, .int 0), (3, .int 0)] := hl
  have hD := hD.self (sz := s.heap.size)
  generalize hAe : va_A [(le, .inr (3, [.ref te, .ref ne, .ref mi, .int 0, .ref tr, .ref be, .int w, .int 0, .int 0])), (tr, .inr (5, [.ref rta, .int 0])), (rta, .inl (cy 0, 7, .inl frt)), (be, .inr (5, [.ref rba, .int 0])), (rba, .inl (cy 0, 7, .inl frb))] s.heap.size = A at hD ⊢
  have hA : ∀ q : Nat, s.heap.size ≤ q → A q := fun q h => by rw [← hAe]; exact Or.inr h
  have hS : va_S A s.heap s.heap [] := va_S.rf
  refine lv_aload_n hx hb dX3_tryRows_0 rfl (lv_at hl 0 rfl) ?_
  refine va_get (D := G) (ci := 3) (v := .int w) (C := RX3) (T := TX3) (N := 9) hx hb hts inB3 hown hE.1 hP 0 rfl rfl 6 (by decide) (hts _ m_226) (fun _ h9 => h9) rfl dX3_tryRows_1 ?_
  refine lv_iload_n hx hb dX3_tryRows_4 rfl (lv_at hl 1 rfl) ?_
  refine lv_iconst (v := (-1)) hx hb dX3_tryRows_5 (by decide) ?_
  refine lv_ixor hx hb dX3_tryRows_6 ?_
  refine lv_iand hx hb dX3_tryRows_7 ?_
  refine lv_if_ne (tgt := 48) hx hb dX3_tryRows_8 (by decide) (fun c_1 => ?_) (fun c_1 => ?_)
  · refine lv_aload_n hx hb dX3_tryRows_48 rfl (lv_at hl 0 rfl) ?_
    refine va_get (D := G) (ci := 3) (v := .ref tr) (C := RX3) (T := TX3) (N := 9) hx hb hts inB3 hown hE.1 hP 0 rfl rfl 4 (by decide) (hts _ m_223) (fun _ h9 => h9) rfl dX3_tryRows_49 ?_
    refine rV (rest := []) hx hb hml hown hts hE (c_X5_room l G cy sk s.heap.size tr rta 7 frt 0 7 (by first | decide | (unfold inR; decide))) kV_X5_room m_1148 rfl rfl ⟨(Nat.le_of_ble_eq_true rfl), (Nat.le_of_ble_eq_true rfl)⟩ hP hD 1 rfl rfl rfl [1, 2] rfl rfl rfl rfl hl.1 (Nat.le_of_ble_eq_true rfl) dX3_tryRows_52 ⟨(Nat.le_of_ble_eq_true rfl), (Nat.le_of_ble_eq_true rfl)⟩ (fun r_2 hr_ => ?_)
    subst hr_
    refine lv_if_eq (tgt := 73) hx hb dX3_tryRows_55 (by decide) (fun h9 => absurd h9 (by decide)) (fun _ => ?_)
    refine lv_aload_n hx hb dX3_tryRows_58 rfl (lv_at hl 0 rfl) ?_
    refine va_get (D := G) (ci := 3) (v := .int 0) (C := RX3) (T := TX3) (N := 9) hx hb hts inB3 hown hE.1 hP 0 rfl rfl 8 (by decide) (hts _ m_229) (fun _ h9 => h9) rfl dX3_tryRows_59 ?_
    refine lv_if_eq (tgt := 74) hx hb dX3_tryRows_62 (by decide) (fun _ => ?_) (fun h9 => absurd h9 (by decide))
    refine lv_iconst (v := 0) hx hb dX3_tryRows_74 (by decide) ?_
    refine lv_istore (lv' := [(4, .int 0), (0, .ref le), (1, .int kn), (2, .int 0), (3, .int 0)]) hx hb dX3_tryRows_75 hl (by decide) rfl (fun ls hl => ?_)
    refine lv_iload hx hb dX3_tryRows_77 (lv_at hl 0 rfl) ?_
    refine lv_aload_n hx hb dX3_tryRows_79 rfl (lv_at hl 1 rfl) ?_
    refine va_get (D := G) (ci := 3) (v := .int 0) (C := RX3) (T := TX3) (N := 9) hx hb hts inB3 hown hE.1 hP 0 rfl rfl 3 (by decide) (hts _ m_221) (fun _ h9 => h9) rfl dX3_tryRows_80 ?_
    refine lv_icmp_ge (tgt := 166) hx hb dX3_tryRows_83 (by decide) (fun _ => ?_) (fun h9 => absurd h9 (by decide))
    have hP9 := P_cut (wc := [(le, .inr (3, [.ref te, .ref ne, .ref mi, .int 0, .ref tr, .ref be, .int w, .int 0, .int 0])), (tr, .inr (5, [.ref rta, .int 0])), (be, .inr (5, [.ref rba, .int 0]))]) hP [0, 1, 3] rfl
    have hD9 := hD.sub (ws' := [(le, .inr (3, [.ref te, .ref ne, .ref mi, .int 0, .ref tr, .ref be, .int w, .int 0, .int 0])), (tr, .inr (5, [.ref rta, .int 0])), (be, .inr (5, [.ref rba, .int 0]))]) [0, 1, 3] (by decide) rfl
    refine W.widen (k := 0) (n := 0) (by first | exact Nat.le_of_ble_eq_true rfl | omega) (by first | exact Nat.le_of_ble_eq_true rfl | omega) ?_
    exact W.vret hx hb hr (fun t ht hW => ⟨⟨(), rfl, trivial, by dsimp only; rw [ht]; exact ⟨0, (Or.inr ⟨rfl, c_1⟩), hP9, hD9⟩⟩, hS.F ht⟩) hS.2.2 dX3_tryRows_166
  · refine lv_aload_n hx hb dX3_tryRows_11 rfl (lv_at hl 0 rfl) ?_
    refine va_get (D := G) (ci := 3) (v := .int 0) (C := RX3) (T := TX3) (N := 9) hx hb hts inB3 hown hE.1 hP 0 rfl rfl 8 (by decide) (hts _ m_229) (fun _ h9 => h9) rfl dX3_tryRows_12 ?_
    refine lv_if_eq (tgt := 26) hx hb dX3_tryRows_15 (by decide) (fun _ => ?_) (fun h9 => absurd h9 (by decide))
    refine lv_aload_n hx hb dX3_tryRows_26 rfl (lv_at hl 0 rfl) ?_
    refine lv_iconst (v := 1) hx hb dX3_tryRows_27 (by decide) ?_
    refine va_put (D := G) (ci := 3) (v := .int 1) (ty := .boolean) (C := RX3) (T := TX3) (N := 9) hx hb hts inB3 tyX3 tyX3_ok nmX3 hown hE.1 hP hD hS 0 rfl rfl 8 (by decide) (hts _ m_229) (fun _ h9 => h9) rfl (by decide +kernel) rfl rfl (Nat.le_of_ble_eq_true rfl) dX3_tryRows_28 (fun H locs hP hD hS => ?_)
    have hP : va_P G classes [(le, .inr (3, [.ref te, .ref ne, .ref mi, .int 0, .ref tr, .ref be, .int w, .int 0, .int 1])), (tr, .inr (5, [.ref rta, .int 0])), (rta, .inl (cy 0, 7, .inl frt)), (be, .inr (5, [.ref rba, .int 0])), (rba, .inl (cy 0, 7, .inl frb))] H := hP
    have hD : va_D A [(le, .inr (3, [.ref te, .ref ne, .ref mi, .int 0, .ref tr, .ref be, .int w, .int 0, .int 1])), (tr, .inr (5, [.ref rta, .int 0])), (rta, .inl (cy 0, 7, .inl frt)), (be, .inr (5, [.ref rba, .int 0])), (rba, .inl (cy 0, 7, .inl frb))] := hD
    refine lv_aload_n hx hb dX3_tryRows_31 rfl (lv_at hl 0 rfl) ?_
    refine lv_iload_n hx hb dX3_tryRows_32 rfl (lv_at hl 3 rfl) ?_
    refine va_put (D := G) (ci := 3) (v := .int 0) (ty := .int) (C := RX3) (T := TX3) (N := 9) hx hb hts inB3 tyX3 tyX3_ok nmX3 hown hE.1 hP hD hS 0 rfl rfl 7 (by decide) (hts _ m_227) (fun _ h9 => h9) rfl (by decide +kernel) rfl rfl (Nat.le_of_ble_eq_true rfl) dX3_tryRows_33 (fun H locs hP hD hS => ?_)
    have hP : va_P G classes [(le, .inr (3, [.ref te, .ref ne, .ref mi, .int 0, .ref tr, .ref be, .int w, .int 0, .int 1])), (tr, .inr (5, [.ref rta, .int 0])), (rta, .inl (cy 0, 7, .inl frt)), (be, .inr (5, [.ref rba, .int 0])), (rba, .inl (cy 0, 7, .inl frb))] H := hP
    have hD : va_D A [(le, .inr (3, [.ref te, .ref ne, .ref mi, .int 0, .ref tr, .ref be, .int w, .int 0, .int 1])), (tr, .inr (5, [.ref rta, .int 0])), (rta, .inl (cy 0, 7, .inl frt)), (be, .inr (5, [.ref rba, .int 0])), (rba, .inl (cy 0, 7, .inl frb))] := hD
    refine lv_aload_n hx hb dX3_tryRows_36 rfl (lv_at hl 0 rfl) ?_
    refine va_get (D := G) (ci := 3) (v := .ref be) (C := RX3) (T := TX3) (N := 9) hx hb hts inB3 hown hE.1 hP 0 rfl rfl 5 (by decide) (hts _ m_224) (fun _ h9 => h9) rfl dX3_tryRows_37 ?_
    refine lv_aload_n hx hb dX3_tryRows_40 rfl (lv_at hl 0 rfl) ?_
    refine va_get (D := G) (ci := 3) (v := .ref tr) (C := RX3) (T := TX3) (N := 9) hx hb hts inB3 hown hE.1 hP 0 rfl rfl 4 (by decide) (hts _ m_223) (fun _ h9 => h9) rfl dX3_tryRows_41 ?_
    refine wVv (B := (B_c_X5_takeFrom G cy (va_A [(be, .inr (5, [.ref rba, .int 0])), (rba, .inl (cy 0, 7, .inl frb)), (tr, .inr (5, [.ref rta, .int 0]))] H.size) be rba 7 frb 0 tr rta)) (wr := [(le, .inr (3, [.ref te, .ref ne, .ref mi, .int 0, .ref tr, .ref be, .int w, .int 0, .int 1])), (rta, .inl (cy 0, 7, .inl frt))]) (rest := []) hx hb hml hown hts hE (c_X5_takeFrom l G cy sk H.size be rba 7 frb 0 tr rta (by decide)) kV_X5_takeFrom m_1142 rfl rfl ⟨(Nat.le_of_ble_eq_true rfl), (Nat.le_of_ble_eq_true rfl)⟩ hP hD hS hA 3 rfl rfl rfl [3, 4, 1] [0, 2] rfl rfl rfl rfl (by decide) rfl rfl hl.1 (Nat.le_of_ble_eq_true rfl) dX3_tryRows_44 ⟨(Nat.le_of_ble_eq_true rfl), (Nat.le_of_ble_eq_true rfl)⟩ (fun H locs haf hS => ?_)
    obtain ⟨hP1, hD1⟩ := haf.1
    obtain ⟨hP, hD⟩ := haf.2.1 _ hP1 hD1
    have hP : va_P G classes [(le, .inr (3, [.ref te, .ref ne, .ref mi, .int 0, .ref tr, .ref be, .int w, .int 0, .int 1])), (rta, .inl (cy 0, 7, .inl frt)), (be, .inr (5, [.ref rba, .int 0])), (tr, .inr (5, [.ref rta, .int 0]))] H := hP
    have hD : va_D A [(le, .inr (3, [.ref te, .ref ne, .ref mi, .int 0, .ref tr, .ref be, .int w, .int 0, .int 1])), (rta, .inl (cy 0, 7, .inl frt)), (be, .inr (5, [.ref rba, .int 0])), (tr, .inr (5, [.ref rta, .int 0]))] := hD
    have hP9 := P_cut (wc := [(le, .inr (3, [.ref te, .ref ne, .ref mi, .int 0, .ref tr, .ref be, .int w, .int 0, .int 1])), (tr, .inr (5, [.ref rta, .int 0])), (be, .inr (5, [.ref rba, .int 0]))]) hP [0, 3, 2] rfl
    have hD9 := hD.sub (ws' := [(le, .inr (3, [.ref te, .ref ne, .ref mi, .int 0, .ref tr, .ref be, .int w, .int 0, .int 1])), (tr, .inr (5, [.ref rta, .int 0])), (be, .inr (5, [.ref rba, .int 0]))]) [0, 3, 2] (by decide) rfl
    refine W.widen (k := 0) (n := 0) (by first | exact Nat.le_of_ble_eq_true rfl | omega) (by first | exact Nat.le_of_ble_eq_true rfl | omega) ?_
    exact W.vret hx hb hr (fun t ht hW => ⟨⟨(), rfl, trivial, by dsimp only; rw [ht]; exact ⟨1, (Or.inl ⟨rfl, c_1⟩), hP9, hD9⟩⟩, hS.F ht⟩) hS.2.2 dX3_tryRows_47
def B_c_X3_findRow (G : va_G) (cy : Nat → ClassId) (A : Nat → Prop) (le : Nat) (te : Nat) (ne : Nat) (mi : Nat) (tr : Nat) (be : Nat) (rta : Nat) (rba : Nat) (frt : Nat → Int32) (frb : Nat → Int32) (kn : Int32) (w : Int32) (w0 : Int32) (H : Heap) : Prop := ∃ (fd : Int32), va_P G classes [(le, .inr (3, [.ref te, .ref ne, .ref mi, .int 0, .ref tr, .ref be, .int w, .int 0, .int fd])), (tr, .inr (5, [.ref rta, .int 0])), (be, .inr (5, [.ref rba, .int 0]))] H ∧ va_D A [(le, .inr (3, [.ref te, .ref ne, .ref mi, .int 0, .ref tr, .ref be, .int w, .int 0, .int fd])), (tr, .inr (5, [.ref rta, .int 0])), (be, .inr (5, [.ref rba, .int 0]))]
theorem lf_c_X3_findRow_0 (kn : Int32) (w : Int32) (h_5 : (w &&& (kn ^^^ (-1))) = 0) : (w &&& (kn ^^^ (-1))) = 0 := by assumption
theorem lf_c_X3_findRow_1 (kn : Int32) (w : Int32) (h_5 : ¬ (w &&& (kn ^^^ (-1))) = 0) : ¬ (w &&& (kn ^^^ (-1))) = 0 := by assumption
set_option maxHeartbeats 4000000 in
set_option maxRecDepth 100000 in
theorem c_X3_findRow (l : Launch) (G : va_G) (cy : Nat → ClassId) (sk : Nat → Nat) (sz : Nat) (le : Nat) (te : Nat) (ne : Nat) (mi : Nat) (tr : Nat) (be : Nat) (rta : Nat) (rba : Nat) (frt : Nat → Int32) (frb : Nat → Int32) (kn : Int32) (w : Int32) (w0 : Int32)  : Met l yX3_findRow (wsO yX3_findRow cX3_findRow 3 (some .boolean)) ({ frames := 3, cells := 0, slots := 0, locals := 60 }) (va_Pc [.ref le, .int kn, .int w] (PR G cy sk sz [(le, .inr (3, [.ref te, .ref ne, .ref mi, .int 0, .ref tr, .ref be, .int w0, .int 0, .int 0])), (tr, .inr (5, [.ref rta, .int 0])), (rta, .inl (cy 0, 7, .inl frt)), (be, .inr (5, [.ref rba, .int 0])), (rba, .inl (cy 0, 7, .inl frb))])) (va_Qi (fun r (_ : Unit) => (r = 1 ∧ (w &&& (kn ^^^ (-1))) = 0) ∨ (r = 0 ∧ ¬ (w &&& (kn ^^^ (-1))) = 0)) (fun _ t => B_c_X3_findRow G cy (va_A [(le, .inr (3, [.ref te, .ref ne, .ref mi, .int 0, .ref tr, .ref be, .int w0, .int 0, .int 0])), (tr, .inr (5, [.ref rta, .int 0])), (rta, .inl (cy 0, 7, .inl frt)), (be, .inr (5, [.ref rba, .int 0])), (rba, .inl (cy 0, 7, .inl frb))] sz) le te ne mi tr be rta rba frt frb kn w w0 t.heap) (va_A [(le, .inr (3, [.ref te, .ref ne, .ref mi, .int 0, .ref tr, .ref be, .int w0, .int 0, .int 0])), (tr, .inr (5, [.ref rta, .int 0])), (rta, .inl (cy 0, 7, .inl frt)), (be, .inr (5, [.ref rba, .int 0])), (rba, .inl (cy 0, 7, .inl frb))] sz)) 0 0 (va_A [(le, .inr (3, [.ref te, .ref ne, .ref mi, .int 0, .ref tr, .ref be, .int w0, .int 0, .int 0])), (tr, .inr (5, [.ref rta, .int 0])), (rta, .inl (cy 0, 7, .inl frt)), (be, .inr (5, [.ref rba, .int 0])), (rba, .inl (cy 0, 7, .inl frb))] sz) := by
  refine mt (by decide) (Nat.le_of_ble_eq_true rfl) ?_
  intro p e s m below meth c ls hx hb hr hml hts hown hlocks hin hsz hP hE hD hl
  subst hsz
  have hl : lv_has ls 3 [(0, .ref le), (1, .int kn), (2, .int w)] := hl
  have hD := hD.self (sz := s.heap.size)
  generalize hAe : va_A [(le, .inr (3, [.ref te, .ref ne, .ref mi, .int 0, .ref tr, .ref be, .int w0, .int 0, .int 0])), (tr, .inr (5, [.ref rta, .int 0])), (rta, .inl (cy 0, 7, .inl frt)), (be, .inr (5, [.ref rba, .int 0])), (rba, .inl (cy 0, 7, .inl frb))] s.heap.size = A at hD ⊢
  have hA : ∀ q : Nat, s.heap.size ≤ q → A q := fun q h => by rw [← hAe]; exact Or.inr h
  have hS : va_S A s.heap s.heap [] := va_S.rf
  refine lv_aload_n hx hb dX3_findRow_0 rfl (lv_at hl 0 rfl) ?_
  refine lv_iload_n hx hb dX3_findRow_1 rfl (lv_at hl 2 rfl) ?_
  refine va_put (D := G) (ci := 3) (v := .int w) (ty := .int) (C := RX3) (T := TX3) (N := 9) hx hb hts inB3 tyX3 tyX3_ok nmX3 hown hE.1 hP hD hS 0 rfl rfl 6 (by decide) (hts _ m_226) (fun _ h9 => h9) rfl (by decide +kernel) rfl rfl (Nat.le_of_ble_eq_true rfl) dX3_findRow_2 (fun H locs hP hD hS => ?_)
  have hP : va_P G classes [(le, .inr (3, [.ref te, .ref ne, .ref mi, .int 0, .ref tr, .ref be, .int w, .int 0, .int 0])), (tr, .inr (5, [.ref rta, .int 0])), (rta, .inl (cy 0, 7, .inl frt)), (be, .inr (5, [.ref rba, .int 0])), (rba, .inl (cy 0, 7, .inl frb))] H := hP
  have hD : va_D A [(le, .inr (3, [.ref te, .ref ne, .ref mi, .int 0, .ref tr, .ref be, .int w, .int 0, .int 0])), (tr, .inr (5, [.ref rta, .int 0])), (rta, .inl (cy 0, 7, .inl frt)), (be, .inr (5, [.ref rba, .int 0])), (rba, .inl (cy 0, 7, .inl frb))] := hD
  refine lv_aload_n hx hb dX3_findRow_5 rfl (lv_at hl 0 rfl) ?_
  refine lv_iconst (v := 0) hx hb dX3_findRow_6 (by decide) ?_
  refine va_put (D := G) (ci := 3) (v := .int 0) (ty := .boolean) (C := RX3) (T := TX3) (N := 9) hx hb hts inB3 tyX3 tyX3_ok nmX3 hown hE.1 hP hD hS 0 rfl rfl 8 (by decide) (hts _ m_229) (fun _ h9 => h9) rfl (by decide +kernel) rfl rfl (Nat.le_of_ble_eq_true rfl) dX3_findRow_7 (fun H locs hP hD hS => ?_)
  have hP : va_P G classes [(le, .inr (3, [.ref te, .ref ne, .ref mi, .int 0, .ref tr, .ref be, .int w, .int 0, .int 0])), (tr, .inr (5, [.ref rta, .int 0])), (rta, .inl (cy 0, 7, .inl frt)), (be, .inr (5, [.ref rba, .int 0])), (rba, .inl (cy 0, 7, .inl frb))] H := hP
  have hD : va_D A [(le, .inr (3, [.ref te, .ref ne, .ref mi, .int 0, .ref tr, .ref be, .int w, .int 0, .int 0])), (tr, .inr (5, [.ref rta, .int 0])), (rta, .inl (cy 0, 7, .inl frt)), (be, .inr (5, [.ref rba, .int 0])), (rba, .inl (cy 0, 7, .inl frb))] := hD
  refine lv_aload_n hx hb dX3_findRow_10 rfl (lv_at hl 0 rfl) ?_
  refine lv_iconst (v := 0) hx hb dX3_findRow_11 (by decide) ?_
  refine va_put (D := G) (ci := 3) (v := .int 0) (ty := .int) (C := RX3) (T := TX3) (N := 9) hx hb hts inB3 tyX3 tyX3_ok nmX3 hown hE.1 hP hD hS 0 rfl rfl 7 (by decide) (hts _ m_227) (fun _ h9 => h9) rfl (by decide +kernel) rfl rfl (Nat.le_of_ble_eq_true rfl) dX3_findRow_12 (fun H locs hP hD hS => ?_)
  have hP : va_P G classes [(le, .inr (3, [.ref te, .ref ne, .ref mi, .int 0, .ref tr, .ref be, .int w, .int 0, .int 0])), (tr, .inr (5, [.ref rta, .int 0])), (rta, .inl (cy 0, 7, .inl frt)), (be, .inr (5, [.ref rba, .int 0])), (rba, .inl (cy 0, 7, .inl frb))] H := hP
  have hD : va_D A [(le, .inr (3, [.ref te, .ref ne, .ref mi, .int 0, .ref tr, .ref be, .int w, .int 0, .int 0])), (tr, .inr (5, [.ref rta, .int 0])), (rta, .inl (cy 0, 7, .inl frt)), (be, .inr (5, [.ref rba, .int 0])), (rba, .inl (cy 0, 7, .inl frb))] := hD
  refine lv_aload_n hx hb dX3_findRow_15 rfl (lv_at hl 0 rfl) ?_
  refine va_get (D := G) (ci := 3) (v := .ref tr) (C := RX3) (T := TX3) (N := 9) hx hb hts inB3 hown hE.1 hP 0 rfl rfl 4 (by decide) (hts _ m_223) (fun _ h9 => h9) rfl dX3_findRow_16 ?_
  refine wVv (B := (B_c_X5_clear G cy (va_A [(tr, .inr (5, [.ref rta, .int 0]))] H.size) tr rta 0)) (wr := [(le, .inr (3, [.ref te, .ref ne, .ref mi, .int 0, .ref tr, .ref be, .int w, .int 0, .int 0])), (rta, .inl (cy 0, 7, .inl frt)), (be, .inr (5, [.ref rba, .int 0])), (rba, .inl (cy 0, 7, .inl frb))]) (rest := []) hx hb hml hown hts hE (c_X5_clear l G cy sk H.size tr rta 0) kV_X5_clear m_1133 rfl rfl ⟨(Nat.le_of_ble_eq_true rfl), (Nat.le_of_ble_eq_true rfl)⟩ hP hD hS hA 1 rfl rfl rfl [1] [0, 2, 3, 4] rfl rfl rfl rfl (by decide) rfl rfl hl.1 (Nat.le_of_ble_eq_true rfl) dX3_findRow_19 ⟨(Nat.le_of_ble_eq_true rfl), (Nat.le_of_ble_eq_true rfl)⟩ (fun H locs haf hS => ?_)
  obtain ⟨hP1, hD1⟩ := haf.1
  obtain ⟨hP, hD⟩ := haf.2.1 _ hP1 hD1
  have hP : va_P G classes [(le, .inr (3, [.ref te, .ref ne, .ref mi, .int 0, .ref tr, .ref be, .int w, .int 0, .int 0])), (rta, .inl (cy 0, 7, .inl frt)), (be, .inr (5, [.ref rba, .int 0])), (rba, .inl (cy 0, 7, .inl frb)), (tr, .inr (5, [.ref rta, .int 0]))] H := hP
  have hD : va_D A [(le, .inr (3, [.ref te, .ref ne, .ref mi, .int 0, .ref tr, .ref be, .int w, .int 0, .int 0])), (rta, .inl (cy 0, 7, .inl frt)), (be, .inr (5, [.ref rba, .int 0])), (rba, .inl (cy 0, 7, .inl frb)), (tr, .inr (5, [.ref rta, .int 0]))] := hD
  refine lv_aload_n hx hb dX3_findRow_22 rfl (lv_at hl 0 rfl) ?_
  refine va_get (D := G) (ci := 3) (v := .ref be) (C := RX3) (T := TX3) (N := 9) hx hb hts inB3 hown hE.1 hP 0 rfl rfl 5 (by decide) (hts _ m_224) (fun _ h9 => h9) rfl dX3_findRow_23 ?_
  refine wVv (B := (B_c_X5_clear G cy (va_A [(be, .inr (5, [.ref rba, .int 0]))] H.size) be rba 0)) (wr := [(le, .inr (3, [.ref te, .ref ne, .ref mi, .int 0, .ref tr, .ref be, .int w, .int 0, .int 0])), (rta, .inl (cy 0, 7, .inl frt)), (rba, .inl (cy 0, 7, .inl frb)), (tr, .inr (5, [.ref rta, .int 0]))]) (rest := []) hx hb hml hown hts hE (c_X5_clear l G cy sk H.size be rba 0) kV_X5_clear m_1133 rfl rfl ⟨(Nat.le_of_ble_eq_true rfl), (Nat.le_of_ble_eq_true rfl)⟩ hP hD hS hA 2 rfl rfl rfl [2] [0, 1, 3, 4] rfl rfl rfl rfl (by decide) rfl rfl hl.1 (Nat.le_of_ble_eq_true rfl) dX3_findRow_26 ⟨(Nat.le_of_ble_eq_true rfl), (Nat.le_of_ble_eq_true rfl)⟩ (fun H locs haf hS => ?_)
  obtain ⟨hP1, hD1⟩ := haf.1
  obtain ⟨hP, hD⟩ := haf.2.1 _ hP1 hD1
  have hP : va_P G classes [(le, .inr (3, [.ref te, .ref ne, .ref mi, .int 0, .ref tr, .ref be, .int w, .int 0, .int 0])), (rta, .inl (cy 0, 7, .inl frt)), (rba, .inl (cy 0, 7, .inl frb)), (tr, .inr (5, [.ref rta, .int 0])), (be, .inr (5, [.ref rba, .int 0]))] H := hP
  have hD : va_D A [(le, .inr (3, [.ref te, .ref ne, .ref mi, .int 0, .ref tr, .ref be, .int w, .int 0, .int 0])), (rta, .inl (cy 0, 7, .inl frt)), (rba, .inl (cy 0, 7, .inl frb)), (tr, .inr (5, [.ref rta, .int 0])), (be, .inr (5, [.ref rba, .int 0]))] := hD
  refine lv_aload_n hx hb dX3_findRow_29 rfl (lv_at hl 0 rfl) ?_
  refine lv_iload_n hx hb dX3_findRow_30 rfl (lv_at hl 1 rfl) ?_
  refine lv_iconst (v := 0) hx hb dX3_findRow_31 (by decide) ?_
  refine lv_iconst (v := 0) hx hb dX3_findRow_32 (by decide) ?_
  refine wVv (B := (B_c_X3_tryRows G cy (va_A [(le, .inr (3, [.ref te, .ref ne, .ref mi, .int 0, .ref tr, .ref be, .int w, .int 0, .int 0])), (tr, .inr (5, [.ref rta, .int 0])), (rta, .inl (cy 0, 7, .inl frt)), (be, .inr (5, [.ref rba, .int 0])), (rba, .inl (cy 0, 7, .inl frb))] H.size) le te ne mi tr be rta rba frt frb w kn)) (wr := []) (rest := []) hx hb hml hown hts hE (c_X3_tryRows l G cy sk H.size le te ne mi tr be rta rba frt frb w kn) kV_X3_tryRows m_1134 rfl rfl ⟨(Nat.le_of_ble_eq_true rfl), (Nat.le_of_ble_eq_true rfl)⟩ hP hD hS hA 0 rfl rfl rfl [0, 3, 1, 4, 2] [] rfl rfl rfl rfl (by decide) rfl rfl hl.1 (Nat.le_of_ble_eq_true rfl) dX3_findRow_33 ⟨(Nat.le_of_ble_eq_true rfl), (Nat.le_of_ble_eq_true rfl)⟩ (fun H locs haf hS => ?_)
  obtain ⟨xv4, h_5, hP1, hD1⟩ := haf.1
  obtain ⟨hP, hD⟩ := haf.2.1 _ hP1 hD1
  have hP : va_P G classes [(le, .inr (3, [.ref te, .ref ne, .ref mi, .int 0, .ref tr, .ref be, .int w, .int 0, .int xv4])), (tr, .inr (5, [.ref rta, .int 0])), (be, .inr (5, [.ref rba, .int 0]))] H := hP
  have hD : va_D A [(le, .inr (3, [.ref te, .ref ne, .ref mi, .int 0, .ref tr, .ref be, .int w, .int 0, .int xv4])), (tr, .inr (5, [.ref rta, .int 0])), (be, .inr (5, [.ref rba, .int 0]))] := hD
  rcases h_5 with ⟨rfl, h_5⟩ | ⟨rfl, h_5⟩
  · refine lv_aload_n hx hb dX3_findRow_36 rfl (lv_at hl 0 rfl) ?_
    refine va_get (D := G) (ci := 3) (v := .int 1) (C := RX3) (T := TX3) (N := 9) hx hb hts inB3 hown hE.1 hP 0 rfl rfl 8 (by decide) (hts _ m_229) (fun _ h9 => h9) rfl dX3_findRow_37 ?_
    have hP9 := P_cut (wc := [(le, .inr (3, [.ref te, .ref ne, .ref mi, .int 0, .ref tr, .ref be, .int w, .int 0, .int 1])), (tr, .inr (5, [.ref rta, .int 0])), (be, .inr (5, [.ref rba, .int 0]))]) hP [0, 1, 2] rfl
    have hD9 := hD.sub (ws' := [(le, .inr (3, [.ref te, .ref ne, .ref mi, .int 0, .ref tr, .ref be, .int w, .int 0, .int 1])), (tr, .inr (5, [.ref rta, .int 0])), (be, .inr (5, [.ref rba, .int 0]))]) [0, 1, 2] (by decide) rfl
    refine W.widen (k := 0) (n := 0) (by first | exact Nat.le_of_ble_eq_true rfl | omega) (by first | exact Nat.le_of_ble_eq_true rfl | omega) ?_
    exact W.zret (v := 1) hx hb hr rfl (fun t ht hW => ⟨⟨1, (), rfl, (Or.inl ⟨rfl, (lf_c_X3_findRow_0 kn w h_5)⟩), by dsimp only; rw [ht]; exact ⟨1, hP9, hD9⟩⟩, hS.F ht⟩) hS.2.2 dX3_findRow_40
  · refine lv_aload_n hx hb dX3_findRow_36 rfl (lv_at hl 0 rfl) ?_
    refine va_get (D := G) (ci := 3) (v := .int 0) (C := RX3) (T := TX3) (N := 9) hx hb hts inB3 hown hE.1 hP 0 rfl rfl 8 (by decide) (hts _ m_229) (fun _ h9 => h9) rfl dX3_findRow_37 ?_
    have hP9 := P_cut (wc := [(le, .inr (3, [.ref te, .ref ne, .ref mi, .int 0, .ref tr, .ref be, .int w, .int 0, .int 0])), (tr, .inr (5, [.ref rta, .int 0])), (be, .inr (5, [.ref rba, .int 0]))]) hP [0, 1, 2] rfl
    have hD9 := hD.sub (ws' := [(le, .inr (3, [.ref te, .ref ne, .ref mi, .int 0, .ref tr, .ref be, .int w, .int 0, .int 0])), (tr, .inr (5, [.ref rta, .int 0])), (be, .inr (5, [.ref rba, .int 0]))]) [0, 1, 2] (by decide) rfl
    refine W.widen (k := 0) (n := 0) (by first | exact Nat.le_of_ble_eq_true rfl | omega) (by first | exact Nat.le_of_ble_eq_true rfl | omega) ?_
    exact W.zret (v := 0) hx hb hr rfl (fun t ht hW => ⟨⟨0, (), rfl, (Or.inr ⟨rfl, (lf_c_X3_findRow_1 kn w h_5)⟩), by dsimp only; rw [ht]; exact ⟨0, hP9, hD9⟩⟩, hS.F ht⟩) hS.2.2 dX3_findRow_40
def B_c_X2_init (G : va_G) (cy : Nat → ClassId) (A : Nat → Prop) (h0 : Nat) (H : Heap) : Prop := ∃ (ld : Nat) (sr : Nat) (tx : Nat) (vl : Nat) (f0 : Nat) (f1 : Nat) (f2 : Nat) (c0 : Nat) (c1 : Nat) (c2 : Nat) (k0 : Nat) (k1 : Nat) (k2 : Nat) (fl : Nat → Int32) (gt : Nat → Option Nat), (∀ j, j < 5 → fl j = 50) ∧ (gt 0 = some f0) ∧ (gt 1 = some f1) ∧ (gt 2 = some f2) ∧ va_P G classes [(h0, .inr (2, [.int 5, .int 9, .int 0, .ref ld, .ref sr, .ref tx, .ref vl])), (ld, .inl (cy 0, 5, .inl fl)), (sr, .inl (cy 0, 5, .inl (fun _ => 0))), (tx, .inl (cy 3, 3, .inr (.inr (.inr (.inr gt))))), (f0, .inr (1, [.ref c0, .ref k0, .int 0])), (c0, .inl (cy 0, 48, .inl (fun _ => 0))), (f1, .inr (1, [.ref c1, .ref k1, .int 0])), (c1, .inl (cy 0, 48, .inl (fun _ => 0))), (f2, .inr (1, [.ref c2, .ref k2, .int 0])), (c2, .inl (cy 0, 48, .inl (fun _ => 0)))] H ∧ va_D A [(h0, .inr (2, [.int 5, .int 9, .int 0, .ref ld, .ref sr, .ref tx, .ref vl])), (ld, .inl (cy 0, 5, .inl fl)), (sr, .inl (cy 0, 5, .inl (fun _ => 0))), (tx, .inl (cy 3, 3, .inr (.inr (.inr (.inr gt))))), (f0, .inr (1, [.ref c0, .ref k0, .int 0])), (c0, .inl (cy 0, 48, .inl (fun _ => 0))), (f1, .inr (1, [.ref c1, .ref k1, .int 0])), (c1, .inl (cy 0, 48, .inl (fun _ => 0))), (f2, .inr (1, [.ref c2, .ref k2, .int 0])), (c2, .inl (cy 0, 48, .inl (fun _ => 0)))]
set_option maxHeartbeats 4000000 in
set_option maxRecDepth 100000 in
theorem c_X2_init (l : Launch) (G : va_G) (cy : Nat → ClassId) (sk : Nat → Nat) (sz : Nat) (h0 : Nat)  : Met l yX2_init (wsO yX2_init cX2_init 2 none) ({ frames := 2, cells := 13, slots := 315, locals := 32 }) (va_Pc [.ref h0] (PR G cy sk sz [(h0, .inr (2, [.int 0, .int 0, .int 0, .null, .null, .null, .null]))])) (va_Qv (fun (_ : Unit) => True) (fun _ t => B_c_X2_init G cy (va_A [(h0, .inr (2, [.int 0, .int 0, .int 0, .null, .null, .null, .null]))] sz) h0 t.heap) (va_A [(h0, .inr (2, [.int 0, .int 0, .int 0, .null, .null, .null, .null]))] sz)) 13 315 (va_A [(h0, .inr (2, [.int 0, .int 0, .int 0, .null, .null, .null, .null]))] sz) := by
  refine mt (by decide) (Nat.le_of_ble_eq_true rfl) ?_
  intro p e s m below meth c ls hx hb hr hml hts hown hlocks hin hsz hP hE hD hl
  subst hsz
  have hl : lv_has ls 2 [(0, .ref h0)] := hl
  have hD := hD.self (sz := s.heap.size)
  generalize hAe : va_A [(h0, .inr (2, [.int 0, .int 0, .int 0, .null, .null, .null, .null]))] s.heap.size = A at hD ⊢
  have hA : ∀ q : Nat, s.heap.size ≤ q → A q := fun q h => by rw [← hAe]; exact Or.inr h
  have hS : va_S A s.heap s.heap [] := va_S.rf
  refine lv_aload_n hx hb dX2_init_0 rfl (lv_at hl 0 rfl) ?_
  refine W.objInit hx hb hown (hts _ m_152) (hts _ m_107) (hts _ m_108) rfl (by rw [hml]; exact hl.1) rfl dX2_init_1 (Nat.le_of_ble_eq_true rfl) (Nat.le_of_ble_eq_true rfl) ?_
  refine W.eq (g2 := F0 m 4 ls []) rfl ?_
  refine lv_aload_n hx hb dX2_init_4 rfl (lv_at hl 0 rfl) ?_
  refine lv_iconst (v := 5) hx hb dX2_init_5 (by decide) ?_
  refine va_put (D := G) (ci := 2) (v := .int 5) (ty := .int) (C := RX2) (T := TX2) (N := 7) hx hb hts inB2 tyX2 tyX2_ok nmX2 hown hE.1 hP hD hS 0 rfl rfl 0 (by decide) (hts _ m_170) (fun _ h9 => h9) rfl (by decide +kernel) rfl rfl (Nat.le_of_ble_eq_true rfl) dX2_init_6 (fun H locs hP hD hS => ?_)
  have hP : va_P G classes [(h0, .inr (2, [.int 5, .int 0, .int 0, .null, .null, .null, .null]))] H := hP
  have hD : va_D A [(h0, .inr (2, [.int 5, .int 0, .int 0, .null, .null, .null, .null]))] := hD
  refine lv_aload_n hx hb dX2_init_9 rfl (lv_at hl 0 rfl) ?_
  refine lv_bipush (v := 9) hx hb dX2_init_10 (by decide) ?_
  refine va_put (D := G) (ci := 2) (v := .int 9) (ty := .int) (C := RX2) (T := TX2) (N := 7) hx hb hts inB2 tyX2 tyX2_ok nmX2 hown hE.1 hP hD hS 0 rfl rfl 1 (by decide) (hts _ m_171) (fun _ h9 => h9) rfl (by decide +kernel) rfl rfl (Nat.le_of_ble_eq_true rfl) dX2_init_12 (fun H locs hP hD hS => ?_)
  have hP : va_P G classes [(h0, .inr (2, [.int 5, .int 9, .int 0, .null, .null, .null, .null]))] H := hP
  have hD : va_D A [(h0, .inr (2, [.int 5, .int 9, .int 0, .null, .null, .null, .null]))] := hD
  refine lv_aload_n hx hb dX2_init_15 rfl (lv_at hl 0 rfl) ?_
  refine lv_iconst (v := 0) hx hb dX2_init_16 (by decide) ?_
  refine va_put (D := G) (ci := 2) (v := .int 0) (ty := .int) (C := RX2) (T := TX2) (N := 7) hx hb hts inB2 tyX2 tyX2_ok nmX2 hown hE.1 hP hD hS 0 rfl rfl 2 (by decide) (hts _ m_172) (fun _ h9 => h9) rfl (by decide +kernel) rfl rfl (Nat.le_of_ble_eq_true rfl) dX2_init_17 (fun H locs hP hD hS => ?_)
  have hP : va_P G classes [(h0, .inr (2, [.int 5, .int 9, .int 0, .null, .null, .null, .null]))] H := hP
  have hD : va_D A [(h0, .inr (2, [.int 5, .int 9, .int 0, .null, .null, .null, .null]))] := hD
  refine lv_aload_n hx hb dX2_init_20 rfl (lv_at hl 0 rfl) ?_
  refine lv_iconst (v := 5) hx hb dX2_init_21 (by decide) ?_
  refine nwI (n := 5) (N := 5) hx hb hts m_146 hE hP hD hS hA (by decide) (by decide) (Nat.le_of_ble_eq_true rfl) (Nat.le_of_ble_eq_true rfl) (Nat.le_of_ble_eq_true rfl) dX2_init_22 (fun nq1 H hP hD hS => ?_)
  have hP : va_P G classes [(h0, .inr (2, [.int 5, .int 9, .int 0, .null, .null, .null, .null])), (nq1, .inl (cy 0, 5, .inl (fun _ => 0)))] H := hP
  have hD : va_D A [(h0, .inr (2, [.int 5, .int 9, .int 0, .null, .null, .null, .null])), (nq1, .inl (cy 0, 5, .inl (fun _ => 0)))] := hD
  refine va_putF (D := G) (ci := 2) (v := .ref nq1) (ty := (.array .int)) (C := RX2) (T := TX2) (N := 7) hx hb hts inB2 tyX2 tyX2_ok nmX2 hown hE.1 hP hD hS 0 rfl rfl 3 (by decide) (hts _ m_173) (fun _ h9 => h9) rfl hin rfl (by decide +kernel) rfl rfl (Nat.le_of_ble_eq_true rfl) dX2_init_24 (fun H locs hP hD hS => ?_)
  have hP : va_P G classes [(h0, .inr (2, [.int 5, .int 9, .int 0, .ref nq1, .null, .null, .null])), (nq1, .inl (cy 0, 5, .inl (fun _ => 0)))] H := hP
  have hD : va_D A [(h0, .inr (2, [.int 5, .int 9, .int 0, .ref nq1, .null, .null, .null])), (nq1, .inl (cy 0, 5, .inl (fun _ => 0)))] := hD
  refine lv_aload_n hx hb dX2_init_27 rfl (lv_at hl 0 rfl) ?_
  refine lv_iconst (v := 5) hx hb dX2_init_28 (by decide) ?_
  refine nwI (n := 5) (N := 5) hx hb hts m_146 hE hP hD hS hA (by decide) (by decide) (Nat.le_of_ble_eq_true rfl) (Nat.le_of_ble_eq_true rfl) (Nat.le_of_ble_eq_true rfl) dX2_init_29 (fun nq2 H hP hD hS => ?_)
  have hP : va_P G classes [(h0, .inr (2, [.int 5, .int 9, .int 0, .ref nq1, .null, .null, .null])), (nq1, .inl (cy 0, 5, .inl (fun _ => 0))), (nq2, .inl (cy 0, 5, .inl (fun _ => 0)))] H := hP
  have hD : va_D A [(h0, .inr (2, [.int 5, .int 9, .int 0, .ref nq1, .null, .null, .null])), (nq1, .inl (cy 0, 5, .inl (fun _ => 0))), (nq2, .inl (cy 0, 5, .inl (fun _ => 0)))] := hD
  refine va_putF (D := G) (ci := 2) (v := .ref nq2) (ty := (.array .int)) (C := RX2) (T := TX2) (N := 7) hx hb hts inB2 tyX2 tyX2_ok nmX2 hown hE.1 hP hD hS 0 rfl rfl 4 (by decide) (hts _ m_174) (fun _ h9 => h9) rfl hin rfl (by decide +kernel) rfl rfl (Nat.le_of_ble_eq_true rfl) dX2_init_31 (fun H locs hP hD hS => ?_)
  have hP : va_P G classes [(h0, .inr (2, [.int 5, .int 9, .int 0, .ref nq1, .ref nq2, .null, .null])), (nq1, .inl (cy 0, 5, .inl (fun _ => 0))), (nq2, .inl (cy 0, 5, .inl (fun _ => 0)))] H := hP
  have hD : va_D A [(h0, .inr (2, [.int 5, .int 9, .int 0, .ref nq1, .ref nq2, .null, .null])), (nq1, .inl (cy 0, 5, .inl (fun _ => 0))), (nq2, .inl (cy 0, 5, .inl (fun _ => 0)))] := hD
  refine lv_aload_n hx hb dX2_init_34 rfl (lv_at hl 0 rfl) ?_
  refine lv_iconst (v := 3) hx hb dX2_init_35 (by decide) ?_
  refine nwQ (n := 3) (N := 3) (C := "ClickStreet$Formula") (t0 := 3) hx hb hown hts m_153 (by decide) hE hP hD hS hA rfl (by decide) (by decide) (Nat.le_of_ble_eq_true rfl) (Nat.le_of_ble_eq_true rfl) (Nat.le_of_ble_eq_true rfl) dX2_init_36 (fun nq3 H hP hD hS => ?_)
  have hP : va_P G classes [(h0, .inr (2, [.int 5, .int 9, .int 0, .ref nq1, .ref nq2, .null, .null])), (nq1, .inl (cy 0, 5, .inl (fun _ => 0))), (nq2, .inl (cy 0, 5, .inl (fun _ => 0))), (nq3, .inl (cy 3, 3, .inr (.inr (.inr (.inr (fun _ => none))))))] H := hP
  have hD : va_D A [(h0, .inr (2, [.int 5, .int 9, .int 0, .ref nq1, .ref nq2, .null, .null])), (nq1, .inl (cy 0, 5, .inl (fun _ => 0))), (nq2, .inl (cy 0, 5, .inl (fun _ => 0))), (nq3, .inl (cy 3, 3, .inr (.inr (.inr (.inr (fun _ => none))))))] := hD
  refine va_putF (D := G) (ci := 2) (v := .ref nq3) (ty := (.array (.object "ClickStreet$Formula"))) (C := RX2) (T := TX2) (N := 7) hx hb hts inB2 tyX2 tyX2_ok nmX2 hown hE.1 hP hD hS 0 rfl rfl 5 (by decide) (hts _ m_175) (fun _ h9 => h9) rfl hin rfl (by decide +kernel) rfl rfl (Nat.le_of_ble_eq_true rfl) dX2_init_39 (fun H locs hP hD hS => ?_)
  have hP : va_P G classes [(h0, .inr (2, [.int 5, .int 9, .int 0, .ref nq1, .ref nq2, .ref nq3, .null])), (nq1, .inl (cy 0, 5, .inl (fun _ => 0))), (nq2, .inl (cy 0, 5, .inl (fun _ => 0))), (nq3, .inl (cy 3, 3, .inr (.inr (.inr (.inr (fun _ => none))))))] H := hP
  have hD : va_D A [(h0, .inr (2, [.int 5, .int 9, .int 0, .ref nq1, .ref nq2, .ref nq3, .null])), (nq1, .inl (cy 0, 5, .inl (fun _ => 0))), (nq2, .inl (cy 0, 5, .inl (fun _ => 0))), (nq3, .inl (cy 3, 3, .inr (.inr (.inr (.inr (fun _ => none))))))] := hD
  refine lv_aload_n hx hb dX2_init_42 rfl (lv_at hl 0 rfl) ?_
  refine lv_iconst (v := 5) hx hb dX2_init_43 (by decide) ?_
  refine nwI (n := 5) (N := 5) hx hb hts m_146 hE hP hD hS hA (by decide) (by decide) (Nat.le_of_ble_eq_true rfl) (Nat.le_of_ble_eq_true rfl) (Nat.le_of_ble_eq_true rfl) dX2_init_44 (fun nq4 H hP hD hS => ?_)
  have hP : va_P G classes [(h0, .inr (2, [.int 5, .int 9, .int 0, .ref nq1, .ref nq2, .ref nq3, .null])), (nq1, .inl (cy 0, 5, .inl (fun _ => 0))), (nq2, .inl (cy 0, 5, .inl (fun _ => 0))), (nq3, .inl (cy 3, 3, .inr (.inr (.inr (.inr (fun _ => none)))))), (nq4, .inl (cy 0, 5, .inl (fun _ => 0)))] H := hP
  have hD : va_D A [(h0, .inr (2, [.int 5, .int 9, .int 0, .ref nq1, .ref nq2, .ref nq3, .null])), (nq1, .inl (cy 0, 5, .inl (fun _ => 0))), (nq2, .inl (cy 0, 5, .inl (fun _ => 0))), (nq3, .inl (cy 3, 3, .inr (.inr (.inr (.inr (fun _ => none)))))), (nq4, .inl (cy 0, 5, .inl (fun _ => 0)))] := hD
  refine va_putF (D := G) (ci := 2) (v := .ref nq4) (ty := (.array .int)) (C := RX2) (T := TX2) (N := 7) hx hb hts inB2 tyX2 tyX2_ok nmX2 hown hE.1 hP hD hS 0 rfl rfl 6 (by decide) (hts _ m_177) (fun _ h9 => h9) rfl hin rfl (by decide +kernel) rfl rfl (Nat.le_of_ble_eq_true rfl) dX2_init_46 (fun H locs hP hD hS => ?_)
  have hP : va_P G classes [(h0, .inr (2, [.int 5, .int 9, .int 0, .ref nq1, .ref nq2, .ref nq3, .ref nq4])), (nq1, .inl (cy 0, 5, .inl (fun _ => 0))), (nq2, .inl (cy 0, 5, .inl (fun _ => 0))), (nq3, .inl (cy 3, 3, .inr (.inr (.inr (.inr (fun _ => none)))))), (nq4, .inl (cy 0, 5, .inl (fun _ => 0)))] H := hP
  have hD : va_D A [(h0, .inr (2, [.int 5, .int 9, .int 0, .ref nq1, .ref nq2, .ref nq3, .ref nq4])), (nq1, .inl (cy 0, 5, .inl (fun _ => 0))), (nq2, .inl (cy 0, 5, .inl (fun _ => 0))), (nq3, .inl (cy 3, 3, .inr (.inr (.inr (.inr (fun _ => none)))))), (nq4, .inl (cy 0, 5, .inl (fun _ => 0)))] := hD
  refine lv_iconst (v := 0) hx hb dX2_init_49 (by decide) ?_
  refine lv_istore_n (lv' := [(1, .int 0), (0, .ref h0)]) hx hb dX2_init_50 rfl hl (by decide) rfl (fun ls hl => ?_)
  refine lv_iload_n hx hb dX2_init_51 rfl (lv_at hl 0 rfl) ?_
  refine lv_iconst (v := 5) hx hb dX2_init_52 (by decide) ?_
  refine lv_icmp_ge (tgt := 70) hx hb dX2_init_53 (by decide) (fun h9 => absurd h9 (by decide)) (fun _ => ?_)
  refine lv_aload_n hx hb dX2_init_56 rfl (lv_at hl 1 rfl) ?_
  refine va_get (D := G) (ci := 2) (v := .ref nq1) (C := RX2) (T := TX2) (N := 7) hx hb hts inB2 hown hE.1 hP 0 rfl rfl 3 (by decide) (hts _ m_173) (fun _ h9 => h9) rfl dX2_init_57 ?_
  refine lv_iload_n hx hb dX2_init_60 rfl (lv_at hl 0 rfl) ?_
  refine lv_bipush (v := 50) hx hb dX2_init_61 (by decide) ?_
  refine va_iast hx hb hE.1 hP hD hS 1 0 rfl rfl (vinL (by decide)) dX2_init_63 (fun H locs hP hD hS => ?_)
  have hP : va_P G classes [(h0, .inr (2, [.int 5, .int 9, .int 0, .ref nq1, .ref nq2, .ref nq3, .ref nq4])), (nq1, .inl (cy 0, 5, .inl (upd (fun _ => 0) 0 50))), (nq2, .inl (cy 0, 5, .inl (fun _ => 0))), (nq3, .inl (cy 3, 3, .inr (.inr (.inr (.inr (fun _ => none)))))), (nq4, .inl (cy 0, 5, .inl (fun _ => 0)))] H := hP
  have hD : va_D A [(h0, .inr (2, [.int 5, .int 9, .int 0, .ref nq1, .ref nq2, .ref nq3, .ref nq4])), (nq1, .inl (cy 0, 5, .inl (upd (fun _ => 0) 0 50))), (nq2, .inl (cy 0, 5, .inl (fun _ => 0))), (nq3, .inl (cy 3, 3, .inr (.inr (.inr (.inr (fun _ => none)))))), (nq4, .inl (cy 0, 5, .inl (fun _ => 0)))] := hD
  refine lv_iinc (v := 1) (lv' := [(1, .int 1), (0, .ref h0)]) hx hb dX2_init_64 hl (k := 0) rfl (by decide) (by decide) rfl (fun ls hl => ?_)
  refine lv_goto (tgt := 51) hx hb dX2_init_67 (by decide) ?_
  refine lv_iload_n hx hb dX2_init_51 rfl (lv_at hl 0 rfl) ?_
  refine lv_iconst (v := 5) hx hb dX2_init_52 (by decide) ?_
  refine lv_icmp_ge (tgt := 70) hx hb dX2_init_53 (by decide) (fun h9 => absurd h9 (by decide)) (fun _ => ?_)
  refine lv_aload_n hx hb dX2_init_56 rfl (lv_at hl 1 rfl) ?_
  refine va_get (D := G) (ci := 2) (v := .ref nq1) (C := RX2) (T := TX2) (N := 7) hx hb hts inB2 hown hE.1 hP 0 rfl rfl 3 (by decide) (hts _ m_173) (fun _ h9 => h9) rfl dX2_init_57 ?_
  refine lv_iload_n hx hb dX2_init_60 rfl (lv_at hl 0 rfl) ?_
  refine lv_bipush (v := 50) hx hb dX2_init_61 (by decide) ?_
  refine va_iast hx hb hE.1 hP hD hS 1 0 rfl rfl (vinL (by decide)) dX2_init_63 (fun H locs hP hD hS => ?_)
  have hP : va_P G classes [(h0, .inr (2, [.int 5, .int 9, .int 0, .ref nq1, .ref nq2, .ref nq3, .ref nq4])), (nq1, .inl (cy 0, 5, .inl (upd (upd (fun _ => 0) 0 50) 1 50))), (nq2, .inl (cy 0, 5, .inl (fun _ => 0))), (nq3, .inl (cy 3, 3, .inr (.inr (.inr (.inr (fun _ => none)))))), (nq4, .inl (cy 0, 5, .inl (fun _ => 0)))] H := hP
  have hD : va_D A [(h0, .inr (2, [.int 5, .int 9, .int 0, .ref nq1, .ref nq2, .ref nq3, .ref nq4])), (nq1, .inl (cy 0, 5, .inl (upd (upd (fun _ => 0) 0 50) 1 50))), (nq2, .inl (cy 0, 5, .inl (fun _ => 0))), (nq3, .inl (cy 3, 3, .inr (.inr (.inr (.inr (fun _ => none)))))), (nq4, .inl (cy 0, 5, .inl (fun _ => 0)))] := hD
  refine lv_iinc (v := 2) (lv' := [(1, .int 2), (0, .ref h0)]) hx hb dX2_init_64 hl (k := 0) rfl (by decide) (by decide) rfl (fun ls hl => ?_)
  refine lv_goto (tgt := 51) hx hb dX2_init_67 (by decide) ?_
  refine lv_iload_n hx hb dX2_init_51 rfl (lv_at hl 0 rfl) ?_
  refine lv_iconst (v := 5) hx hb dX2_init_52 (by decide) ?_
  refine lv_icmp_ge (tgt := 70) hx hb dX2_init_53 (by decide) (fun h9 => absurd h9 (by decide)) (fun _ => ?_)
  refine lv_aload_n hx hb dX2_init_56 rfl (lv_at hl 1 rfl) ?_
  refine va_get (D := G) (ci := 2) (v := .ref nq1) (C := RX2) (T := TX2) (N := 7) hx hb hts inB2 hown hE.1 hP 0 rfl rfl 3 (by decide) (hts _ m_173) (fun _ h9 => h9) rfl dX2_init_57 ?_
  refine lv_iload_n hx hb dX2_init_60 rfl (lv_at hl 0 rfl) ?_
  refine lv_bipush (v := 50) hx hb dX2_init_61 (by decide) ?_
  refine va_iast hx hb hE.1 hP hD hS 1 0 rfl rfl (vinL (by decide)) dX2_init_63 (fun H locs hP hD hS => ?_)
  have hP : va_P G classes [(h0, .inr (2, [.int 5, .int 9, .int 0, .ref nq1, .ref nq2, .ref nq3, .ref nq4])), (nq1, .inl (cy 0, 5, .inl (upd (upd (upd (fun _ => 0) 0 50) 1 50) 2 50))), (nq2, .inl (cy 0, 5, .inl (fun _ => 0))), (nq3, .inl (cy 3, 3, .inr (.inr (.inr (.inr (fun _ => none)))))), (nq4, .inl (cy 0, 5, .inl (fun _ => 0)))] H := hP
  have hD : va_D A [(h0, .inr (2, [.int 5, .int 9, .int 0, .ref nq1, .ref nq2, .ref nq3, .ref nq4])), (nq1, .inl (cy 0, 5, .inl (upd (upd (upd (fun _ => 0) 0 50) 1 50) 2 50))), (nq2, .inl (cy 0, 5, .inl (fun _ => 0))), (nq3, .inl (cy 3, 3, .inr (.inr (.inr (.inr (fun _ => none)))))), (nq4, .inl (cy 0, 5, .inl (fun _ => 0)))] := hD
  refine lv_iinc (v := 3) (lv' := [(1, .int 3), (0, .ref h0)]) hx hb dX2_init_64 hl (k := 0) rfl (by decide) (by decide) rfl (fun ls hl => ?_)
  refine lv_goto (tgt := 51) hx hb dX2_init_67 (by decide) ?_
  refine lv_iload_n hx hb dX2_init_51 rfl (lv_at hl 0 rfl) ?_
  refine lv_iconst (v := 5) hx hb dX2_init_52 (by decide) ?_
  refine lv_icmp_ge (tgt := 70) hx hb dX2_init_53 (by decide) (fun h9 => absurd h9 (by decide)) (fun _ => ?_)
  refine lv_aload_n hx hb dX2_init_56 rfl (lv_at hl 1 rfl) ?_
  refine va_get (D := G) (ci := 2) (v := .ref nq1) (C := RX2) (T := TX2) (N := 7) hx hb hts inB2 hown hE.1 hP 0 rfl rfl 3 (by decide) (hts _ m_173) (fun _ h9 => h9) rfl dX2_init_57 ?_
  refine lv_iload_n hx hb dX2_init_60 rfl (lv_at hl 0 rfl) ?_
  refine lv_bipush (v := 50) hx hb dX2_init_61 (by decide) ?_
  refine va_iast hx hb hE.1 hP hD hS 1 0 rfl rfl (vinL (by decide)) dX2_init_63 (fun H locs hP hD hS => ?_)
  have hP : va_P G classes [(h0, .inr (2, [.int 5, .int 9, .int 0, .ref nq1, .ref nq2, .ref nq3, .ref nq4])), (nq1, .inl (cy 0, 5, .inl (upd (upd (upd (upd (fun _ => 0) 0 50) 1 50) 2 50) 3 50))), (nq2, .inl (cy 0, 5, .inl (fun _ => 0))), (nq3, .inl (cy 3, 3, .inr (.inr (.inr (.inr (fun _ => none)))))), (nq4, .inl (cy 0, 5, .inl (fun _ => 0)))] H := hP
  have hD : va_D A [(h0, .inr (2, [.int 5, .int 9, .int 0, .ref nq1, .ref nq2, .ref nq3, .ref nq4])), (nq1, .inl (cy 0, 5, .inl (upd (upd (upd (upd (fun _ => 0) 0 50) 1 50) 2 50) 3 50))), (nq2, .inl (cy 0, 5, .inl (fun _ => 0))), (nq3, .inl (cy 3, 3, .inr (.inr (.inr (.inr (fun _ => none)))))), (nq4, .inl (cy 0, 5, .inl (fun _ => 0)))] := hD
  refine lv_iinc (v := 4) (lv' := [(1, .int 4), (0, .ref h0)]) hx hb dX2_init_64 hl (k := 0) rfl (by decide) (by decide) rfl (fun ls hl => ?_)
  refine lv_goto (tgt := 51) hx hb dX2_init_67 (by decide) ?_
  refine lv_iload_n hx hb dX2_init_51 rfl (lv_at hl 0 rfl) ?_
  refine lv_iconst (v := 5) hx hb dX2_init_52 (by decide) ?_
  refine lv_icmp_ge (tgt := 70) hx hb dX2_init_53 (by decide) (fun h9 => absurd h9 (by decide)) (fun _ => ?_)
  refine lv_aload_n hx hb dX2_init_56 rfl (lv_at hl 1 rfl) ?_
  refine va_get (D := G) (ci := 2) (v := .ref nq1) (C := RX2) (T := TX2) (N := 7) hx hb hts inB2 hown hE.1 hP 0 rfl rfl 3 (by decide) (hts _ m_173) (fun _ h9 => h9) rfl dX2_init_57 ?_
  refine lv_iload_n hx hb dX2_init_60 rfl (lv_at hl 0 rfl) ?_
  refine lv_bipush (v := 50) hx hb dX2_init_61 (by decide) ?_
  refine va_iast hx hb hE.1 hP hD hS 1 0 rfl rfl (vinL (by decide)) dX2_init_63 (fun H locs hP hD hS => ?_)
  have hP : va_P G classes [(h0, .inr (2, [.int 5, .int 9, .int 0, .ref nq1, .ref nq2, .ref nq3, .ref nq4])), (nq1, .inl (cy 0, 5, .inl (upd (upd (upd (upd (upd (fun _ => 0) 0 50) 1 50) 2 50) 3 50) 4 50))), (nq2, .inl (cy 0, 5, .inl (fun _ => 0))), (nq3, .inl (cy 3, 3, .inr (.inr (.inr (.inr (fun _ => none)))))), (nq4, .inl (cy 0, 5, .inl (fun _ => 0)))] H := hP
  have hD : va_D A [(h0, .inr (2, [.int 5, .int 9, .int 0, .ref nq1, .ref nq2, .ref nq3, .ref nq4])), (nq1, .inl (cy 0, 5, .inl (upd (upd (upd (upd (upd (fun _ => 0) 0 50) 1 50) 2 50) 3 50) 4 50))), (nq2, .inl (cy 0, 5, .inl (fun _ => 0))), (nq3, .inl (cy 3, 3, .inr (.inr (.inr (.inr (fun _ => none)))))), (nq4, .inl (cy 0, 5, .inl (fun _ => 0)))] := hD
  refine lv_iinc (v := 5) (lv' := [(1, .int 5), (0, .ref h0)]) hx hb dX2_init_64 hl (k := 0) rfl (by decide) (by decide) rfl (fun ls hl => ?_)
  refine lv_goto (tgt := 51) hx hb dX2_init_67 (by decide) ?_
  refine lv_iload_n hx hb dX2_init_51 rfl (lv_at hl 0 rfl) ?_
  refine lv_iconst (v := 5) hx hb dX2_init_52 (by decide) ?_
  refine lv_icmp_ge (tgt := 70) hx hb dX2_init_53 (by decide) (fun _ => ?_) (fun h9 => absurd h9 (by decide))
  refine lv_iconst (v := 0) hx hb dX2_init_70 (by decide) ?_
  refine lv_istore_n (lv' := [(1, .int 0), (0, .ref h0)]) hx hb dX2_init_71 rfl hl (by decide) rfl (fun ls hl => ?_)
  refine lv_iload_n hx hb dX2_init_72 rfl (lv_at hl 0 rfl) ?_
  refine lv_iconst (v := 3) hx hb dX2_init_73 (by decide) ?_
  refine lv_icmp_ge (tgt := 96) hx hb dX2_init_74 (by decide) (fun h9 => absurd h9 (by decide)) (fun _ => ?_)
  refine lv_aload_n hx hb dX2_init_77 rfl (lv_at hl 1 rfl) ?_
  refine va_get (D := G) (ci := 2) (v := .ref nq3) (C := RX2) (T := TX2) (N := 7) hx hb hts inB2 hown hE.1 hP 0 rfl rfl 5 (by decide) (hts _ m_175) (fun _ h9 => h9) rfl dX2_init_78 ?_
  refine lv_iload_n hx hb dX2_init_81 rfl (lv_at hl 0 rfl) ?_
  refine va_new (ci := 1) (fs := [.null, .null, .int 0]) (C := RX1) (T := TX1) (N := 3) hx hb hts inB1 tyX1 tyX1_ok hown (hts _ m_153) (hts _ m_155) (hts _ m_83) hE.1 hP hD hS hA rfl df1 (Nat.le_of_ble_eq_true rfl) (Nat.le_of_ble_eq_true rfl) dX2_init_82 (fun nq5 H hP hD hS => ?_)
  have hP : va_P G classes [(h0, .inr (2, [.int 5, .int 9, .int 0, .ref nq1, .ref nq2, .ref nq3, .ref nq4])), (nq1, .inl (cy 0, 5, .inl (upd (upd (upd (upd (upd (fun _ => 0) 0 50) 1 50) 2 50) 3 50) 4 50))), (nq2, .inl (cy 0, 5, .inl (fun _ => 0))), (nq3, .inl (cy 3, 3, .inr (.inr (.inr (.inr (fun _ => none)))))), (nq4, .inl (cy 0, 5, .inl (fun _ => 0))), (nq5, .inr (1, [.null, .null, .int 0]))] H := hP
  have hD : va_D A [(h0, .inr (2, [.int 5, .int 9, .int 0, .ref nq1, .ref nq2, .ref nq3, .ref nq4])), (nq1, .inl (cy 0, 5, .inl (upd (upd (upd (upd (upd (fun _ => 0) 0 50) 1 50) 2 50) 3 50) 4 50))), (nq2, .inl (cy 0, 5, .inl (fun _ => 0))), (nq3, .inl (cy 3, 3, .inr (.inr (.inr (.inr (fun _ => none)))))), (nq4, .inl (cy 0, 5, .inl (fun _ => 0))), (nq5, .inr (1, [.null, .null, .int 0]))] := hD
  refine lv_dup hx hb dX2_init_85 rfl ?_
  refine wIN (B := (B_c_X1_init G cy (va_A [(nq5, .inr (1, [.null, .null, .int 0]))] H.size) nq5)) (wr := [(h0, .inr (2, [.int 5, .int 9, .int 0, .ref nq1, .ref nq2, .ref nq3, .ref nq4])), (nq1, .inl (cy 0, 5, .inl (upd (upd (upd (upd (upd (fun _ => 0) 0 50) 1 50) 2 50) 3 50) 4 50))), (nq2, .inl (cy 0, 5, .inl (fun _ => 0))), (nq3, .inl (cy 3, 3, .inr (.inr (.inr (.inr (fun _ => none)))))), (nq4, .inl (cy 0, 5, .inl (fun _ => 0)))]) (rest := [.ref nq5, .int 0, .ref nq3]) (host := "ClickStreet") hx hb hml hown hts hE (c_X1_init l G cy sk H.size nq5) kI_X1_init (by decide +kernel) rfl rfl ⟨(Nat.le_of_ble_eq_true rfl), (Nat.le_of_ble_eq_true rfl)⟩ hP hD hS hA [5] [0, 1, 2, 3, 4] rfl rfl rfl rfl (by decide) rfl rfl hl.1 (Nat.le_of_ble_eq_true rfl) dX2_init_86 ⟨(Nat.le_of_ble_eq_true rfl), (Nat.le_of_ble_eq_true rfl)⟩ (fun H locs haf hS => ?_)
  obtain ⟨xq7, xq8, hP1, hD1⟩ := haf.1
  obtain ⟨hP, hD⟩ := haf.2.1 _ hP1 hD1
  have hP : va_P G classes [(h0, .inr (2, [.int 5, .int 9, .int 0, .ref nq1, .ref nq2, .ref nq3, .ref nq4])), (nq1, .inl (cy 0, 5, .inl (upd (upd (upd (upd (upd (fun _ => 0) 0 50) 1 50) 2 50) 3 50) 4 50))), (nq2, .inl (cy 0, 5, .inl (fun _ => 0))), (nq3, .inl (cy 3, 3, .inr (.inr (.inr (.inr (fun _ => none)))))), (nq4, .inl (cy 0, 5, .inl (fun _ => 0))), (nq5, .inr (1, [.ref xq7, .ref xq8, .int 0])), (xq7, .inl (cy 0, 48, .inl (fun _ => 0)))] H := hP
  have hD : va_D A [(h0, .inr (2, [.int 5, .int 9, .int 0, .ref nq1, .ref nq2, .ref nq3, .ref nq4])), (nq1, .inl (cy 0, 5, .inl (upd (upd (upd (upd (upd (fun _ => 0) 0 50) 1 50) 2 50) 3 50) 4 50))), (nq2, .inl (cy 0, 5, .inl (fun _ => 0))), (nq3, .inl (cy 3, 3, .inr (.inr (.inr (.inr (fun _ => none)))))), (nq4, .inl (cy 0, 5, .inl (fun _ => 0))), (nq5, .inr (1, [.ref xq7, .ref xq8, .int 0])), (xq7, .inl (cy 0, 48, .inl (fun _ => 0)))] := hD
  refine va_astq hx hb hE.1 hP hD hS 3 3 5 1 rfl rfl rfl rfl (vinL (by decide)) dX2_init_89 (fun H locs hP hD hS => ?_)
  have hP : va_P G classes [(h0, .inr (2, [.int 5, .int 9, .int 0, .ref nq1, .ref nq2, .ref nq3, .ref nq4])), (nq1, .inl (cy 0, 5, .inl (upd (upd (upd (upd (upd (fun _ => 0) 0 50) 1 50) 2 50) 3 50) 4 50))), (nq2, .inl (cy 0, 5, .inl (fun _ => 0))), (nq3, .inl (cy 3, 3, .inr (.inr (.inr (.inr (va_up (fun _ => none) 0 (some nq5))))))), (nq4, .inl (cy 0, 5, .inl (fun _ => 0))), (nq5, .inr (1, [.ref xq7, .ref xq8, .int 0])), (xq7, .inl (cy 0, 48, .inl (fun _ => 0)))] H := hP
  have hD : va_D A [(h0, .inr (2, [.int 5, .int 9, .int 0, .ref nq1, .ref nq2, .ref nq3, .ref nq4])), (nq1, .inl (cy 0, 5, .inl (upd (upd (upd (upd (upd (fun _ => 0) 0 50) 1 50) 2 50) 3 50) 4 50))), (nq2, .inl (cy 0, 5, .inl (fun _ => 0))), (nq3, .inl (cy 3, 3, .inr (.inr (.inr (.inr (va_up (fun _ => none) 0 (some nq5))))))), (nq4, .inl (cy 0, 5, .inl (fun _ => 0))), (nq5, .inr (1, [.ref xq7, .ref xq8, .int 0])), (xq7, .inl (cy 0, 48, .inl (fun _ => 0)))] := hD
  refine lv_iinc (v := 1) (lv' := [(1, .int 1), (0, .ref h0)]) hx hb dX2_init_90 hl (k := 0) rfl (by decide) (by decide) rfl (fun ls hl => ?_)
  refine lv_goto (tgt := 72) hx hb dX2_init_93 (by decide) ?_
  refine lv_iload_n hx hb dX2_init_72 rfl (lv_at hl 0 rfl) ?_
  refine lv_iconst (v := 3) hx hb dX2_init_73 (by decide) ?_
  refine lv_icmp_ge (tgt := 96) hx hb dX2_init_74 (by decide) (fun h9 => absurd h9 (by decide)) (fun _ => ?_)
  refine lv_aload_n hx hb dX2_init_77 rfl (lv_at hl 1 rfl) ?_
  refine va_get (D := G) (ci := 2) (v := .ref nq3) (C := RX2) (T := TX2) (N := 7) hx hb hts inB2 hown hE.1 hP 0 rfl rfl 5 (by decide) (hts _ m_175) (fun _ h9 => h9) rfl dX2_init_78 ?_
  refine lv_iload_n hx hb dX2_init_81 rfl (lv_at hl 0 rfl) ?_
  refine va_new (ci := 1) (fs := [.null, .null, .int 0]) (C := RX1) (T := TX1) (N := 3) hx hb hts inB1 tyX1 tyX1_ok hown (hts _ m_153) (hts _ m_155) (hts _ m_83) hE.1 hP hD hS hA rfl df1 (Nat.le_of_ble_eq_true rfl) (Nat.le_of_ble_eq_true rfl) dX2_init_82 (fun nq9 H hP hD hS => ?_)
  have hP : va_P G classes [(h0, .inr (2, [.int 5, .int 9, .int 0, .ref nq1, .ref nq2, .ref nq3, .ref nq4])), (nq1, .inl (cy 0, 5, .inl (upd (upd (upd (upd (upd (fun _ => 0) 0 50) 1 50) 2 50) 3 50) 4 50))), (nq2, .inl (cy 0, 5, .inl (fun _ => 0))), (nq3, .inl (cy 3, 3, .inr (.inr (.inr (.inr (va_up (fun _ => none) 0 (some nq5))))))), (nq4, .inl (cy 0, 5, .inl (fun _ => 0))), (nq5, .inr (1, [.ref xq7, .ref xq8, .int 0])), (xq7, .inl (cy 0, 48, .inl (fun _ => 0))), (nq9, .inr (1, [.null, .null, .int 0]))] H := hP
  have hD : va_D A [(h0, .inr (2, [.int 5, .int 9, .int 0, .ref nq1, .ref nq2, .ref nq3, .ref nq4])), (nq1, .inl (cy 0, 5, .inl (upd (upd (upd (upd (upd (fun _ => 0) 0 50) 1 50) 2 50) 3 50) 4 50))), (nq2, .inl (cy 0, 5, .inl (fun _ => 0))), (nq3, .inl (cy 3, 3, .inr (.inr (.inr (.inr (va_up (fun _ => none) 0 (some nq5))))))), (nq4, .inl (cy 0, 5, .inl (fun _ => 0))), (nq5, .inr (1, [.ref xq7, .ref xq8, .int 0])), (xq7, .inl (cy 0, 48, .inl (fun _ => 0))), (nq9, .inr (1, [.null, .null, .int 0]))] := hD
  refine lv_dup hx hb dX2_init_85 rfl ?_
  refine wIN (B := (B_c_X1_init G cy (va_A [(nq9, .inr (1, [.null, .null, .int 0]))] H.size) nq9)) (wr := [(h0, .inr (2, [.int 5, .int 9, .int 0, .ref nq1, .ref nq2, .ref nq3, .ref nq4])), (nq1, .inl (cy 0, 5, .inl (upd (upd (upd (upd (upd (fun _ => 0) 0 50) 1 50) 2 50) 3 50) 4 50))), (nq2, .inl (cy 0, 5, .inl (fun _ => 0))), (nq3, .inl (cy 3, 3, .inr (.inr (.inr (.inr (va_up (fun _ => none) 0 (some nq5))))))), (nq4, .inl (cy 0, 5, .inl (fun _ => 0))), (nq5, .inr (1, [.ref xq7, .ref xq8, .int 0])), (xq7, .inl (cy 0, 48, .inl (fun _ => 0)))]) (rest := [.ref nq9, .int 1, .ref nq3]) (host := "ClickStreet") hx hb hml hown hts hE (c_X1_init l G cy sk H.size nq9) kI_X1_init (by decide +kernel) rfl rfl ⟨(Nat.le_of_ble_eq_true rfl), (Nat.le_of_ble_eq_true rfl)⟩ hP hD hS hA [7] [0, 1, 2, 3, 4, 5, 6] rfl rfl rfl rfl (by decide) rfl rfl hl.1 (Nat.le_of_ble_eq_true rfl) dX2_init_86 ⟨(Nat.le_of_ble_eq_true rfl), (Nat.le_of_ble_eq_true rfl)⟩ (fun H locs haf hS => ?_)
  obtain ⟨xq11, xq12, hP1, hD1⟩ := haf.1
  obtain ⟨hP, hD⟩ := haf.2.1 _ hP1 hD1
  have hP : va_P G classes [(h0, .inr (2, [.int 5, .int 9, .int 0, .ref nq1, .ref nq2, .ref nq3, .ref nq4])), (nq1, .inl (cy 0, 5, .inl (upd (upd (upd (upd (upd (fun _ => 0) 0 50) 1 50) 2 50) 3 50) 4 50))), (nq2, .inl (cy 0, 5, .inl (fun _ => 0))), (nq3, .inl (cy 3, 3, .inr (.inr (.inr (.inr (va_up (fun _ => none) 0 (some nq5))))))), (nq4, .inl (cy 0, 5, .inl (fun _ => 0))), (nq5, .inr (1, [.ref xq7, .ref xq8, .int 0])), (xq7, .inl (cy 0, 48, .inl (fun _ => 0))), (nq9, .inr (1, [.ref xq11, .ref xq12, .int 0])), (xq11, .inl (cy 0, 48, .inl (fun _ => 0)))] H := hP
  have hD : va_D A [(h0, .inr (2, [.int 5, .int 9, .int 0, .ref nq1, .ref nq2, .ref nq3, .ref nq4])), (nq1, .inl (cy 0, 5, .inl (upd (upd (upd (upd (upd (fun _ => 0) 0 50) 1 50) 2 50) 3 50) 4 50))), (nq2, .inl (cy 0, 5, .inl (fun _ => 0))), (nq3, .inl (cy 3, 3, .inr (.inr (.inr (.inr (va_up (fun _ => none) 0 (some nq5))))))), (nq4, .inl (cy 0, 5, .inl (fun _ => 0))), (nq5, .inr (1, [.ref xq7, .ref xq8, .int 0])), (xq7, .inl (cy 0, 48, .inl (fun _ => 0))), (nq9, .inr (1, [.ref xq11, .ref xq12, .int 0])), (xq11, .inl (cy 0, 48, .inl (fun _ => 0)))] := hD
  refine va_astq hx hb hE.1 hP hD hS 3 3 7 1 rfl rfl rfl rfl (vinL (by decide)) dX2_init_89 (fun H locs hP hD hS => ?_)
  have hP : va_P G classes [(h0, .inr (2, [.int 5, .int 9, .int 0, .ref nq1, .ref nq2, .ref nq3, .ref nq4])), (nq1, .inl (cy 0, 5, .inl (upd (upd (upd (upd (upd (fun _ => 0) 0 50) 1 50) 2 50) 3 50) 4 50))), (nq2, .inl (cy 0, 5, .inl (fun _ => 0))), (nq3, .inl (cy 3, 3, .inr (.inr (.inr (.inr (va_up (va_up (fun _ => none) 0 (some nq5)) 1 (some nq9))))))), (nq4, .inl (cy 0, 5, .inl (fun _ => 0))), (nq5, .inr (1, [.ref xq7, .ref xq8, .int 0])), (xq7, .inl (cy 0, 48, .inl (fun _ => 0))), (nq9, .inr (1, [.ref xq11, .ref xq12, .int 0])), (xq11, .inl (cy 0, 48, .inl (fun _ => 0)))] H := hP
  have hD : va_D A [(h0, .inr (2, [.int 5, .int 9, .int 0, .ref nq1, .ref nq2, .ref nq3, .ref nq4])), (nq1, .inl (cy 0, 5, .inl (upd (upd (upd (upd (upd (fun _ => 0) 0 50) 1 50) 2 50) 3 50) 4 50))), (nq2, .inl (cy 0, 5, .inl (fun _ => 0))), (nq3, .inl (cy 3, 3, .inr (.inr (.inr (.inr (va_up (va_up (fun _ => none) 0 (some nq5)) 1 (some nq9))))))), (nq4, .inl (cy 0, 5, .inl (fun _ => 0))), (nq5, .inr (1, [.ref xq7, .ref xq8, .int 0])), (xq7, .inl (cy 0, 48, .inl (fun _ => 0))), (nq9, .inr (1, [.ref xq11, .ref xq12, .int 0])), (xq11, .inl (cy 0, 48, .inl (fun _ => 0)))] := hD
  refine lv_iinc (v := 2) (lv' := [(1, .int 2), (0, .ref h0)]) hx hb dX2_init_90 hl (k := 0) rfl (by decide) (by decide) rfl (fun ls hl => ?_)
  refine lv_goto (tgt := 72) hx hb dX2_init_93 (by decide) ?_
  refine lv_iload_n hx hb dX2_init_72 rfl (lv_at hl 0 rfl) ?_
  refine lv_iconst (v := 3) hx hb dX2_init_73 (by decide) ?_
  refine lv_icmp_ge (tgt := 96) hx hb dX2_init_74 (by decide) (fun h9 => absurd h9 (by decide)) (fun _ => ?_)
  refine lv_aload_n hx hb dX2_init_77 rfl (lv_at hl 1 rfl) ?_
  refine va_get (D := G) (ci := 2) (v := .ref nq3) (C := RX2) (T := TX2) (N := 7) hx hb hts inB2 hown hE.1 hP 0 rfl rfl 5 (by decide) (hts _ m_175) (fun _ h9 => h9) rfl dX2_init_78 ?_
  refine lv_iload_n hx hb dX2_init_81 rfl (lv_at hl 0 rfl) ?_
  refine va_new (ci := 1) (fs := [.null, .null, .int 0]) (C := RX1) (T := TX1) (N := 3) hx hb hts inB1 tyX1 tyX1_ok hown (hts _ m_153) (hts _ m_155) (hts _ m_83) hE.1 hP hD hS hA rfl df1 (Nat.le_of_ble_eq_true rfl) (Nat.le_of_ble_eq_true rfl) dX2_init_82 (fun nq13 H hP hD hS => ?_)
  have hP : va_P G classes [(h0, .inr (2, [.int 5, .int 9, .int 0, .ref nq1, .ref nq2, .ref nq3, .ref nq4])), (nq1, .inl (cy 0, 5, .inl (upd (upd (upd (upd (upd (fun _ => 0) 0 50) 1 50) 2 50) 3 50) 4 50))), (nq2, .inl (cy 0, 5, .inl (fun _ => 0))), (nq3, .inl (cy 3, 3, .inr (.inr (.inr (.inr (va_up (va_up (fun _ => none) 0 (some nq5)) 1 (some nq9))))))), (nq4, .inl (cy 0, 5, .inl (fun _ => 0))), (nq5, .inr (1, [.ref xq7, .ref xq8, .int 0])), (xq7, .inl (cy 0, 48, .inl (fun _ => 0))), (nq9, .inr (1, [.ref xq11, .ref xq12, .int 0])), (xq11, .inl (cy 0, 48, .inl (fun _ => 0))), (nq13, .inr (1, [.null, .null, .int 0]))] H := hP
  have hD : va_D A [(h0, .inr (2, [.int 5, .int 9, .int 0, .ref nq1, .ref nq2, .ref nq3, .ref nq4])), (nq1, .inl (cy 0, 5, .inl (upd (upd (upd (upd (upd (fun _ => 0) 0 50) 1 50) 2 50) 3 50) 4 50))), (nq2, .inl (cy 0, 5, .inl (fun _ => 0))), (nq3, .inl (cy 3, 3, .inr (.inr (.inr (.inr (va_up (va_up (fun _ => none) 0 (some nq5)) 1 (some nq9))))))), (nq4, .inl (cy 0, 5, .inl (fun _ => 0))), (nq5, .inr (1, [.ref xq7, .ref xq8, .int 0])), (xq7, .inl (cy 0, 48, .inl (fun _ => 0))), (nq9, .inr (1, [.ref xq11, .ref xq12, .int 0])), (xq11, .inl (cy 0, 48, .inl (fun _ => 0))), (nq13, .inr (1, [.null, .null, .int 0]))] := hD
  refine lv_dup hx hb dX2_init_85 rfl ?_
  refine wIN (B := (B_c_X1_init G cy (va_A [(nq13, .inr (1, [.null, .null, .int 0]))] H.size) nq13)) (wr := [(h0, .inr (2, [.int 5, .int 9, .int 0, .ref nq1, .ref nq2, .ref nq3, .ref nq4])), (nq1, .inl (cy 0, 5, .inl (upd (upd (upd (upd (upd (fun _ => 0) 0 50) 1 50) 2 50) 3 50) 4 50))), (nq2, .inl (cy 0, 5, .inl (fun _ => 0))), (nq3, .inl (cy 3, 3, .inr (.inr (.inr (.inr (va_up (va_up (fun _ => none) 0 (some nq5)) 1 (some nq9))))))), (nq4, .inl (cy 0, 5, .inl (fun _ => 0))), (nq5, .inr (1, [.ref xq7, .ref xq8, .int 0])), (xq7, .inl (cy 0, 48, .inl (fun _ => 0))), (nq9, .inr (1, [.ref xq11, .ref xq12, .int 0])), (xq11, .inl (cy 0, 48, .inl (fun _ => 0)))]) (rest := [.ref nq13, .int 2, .ref nq3]) (host := "ClickStreet") hx hb hml hown hts hE (c_X1_init l G cy sk H.size nq13) kI_X1_init (by decide +kernel) rfl rfl ⟨(Nat.le_of_ble_eq_true rfl), (Nat.le_of_ble_eq_true rfl)⟩ hP hD hS hA [9] [0, 1, 2, 3, 4, 5, 6, 7, 8] rfl rfl rfl rfl (by decide) rfl rfl hl.1 (Nat.le_of_ble_eq_true rfl) dX2_init_86 ⟨(Nat.le_of_ble_eq_true rfl), (Nat.le_of_ble_eq_true rfl)⟩ (fun H locs haf hS => ?_)
  obtain ⟨xq15, xq16, hP1, hD1⟩ := haf.1
  obtain ⟨hP, hD⟩ := haf.2.1 _ hP1 hD1
  have hP : va_P G classes [(h0, .inr (2, [.int 5, .int 9, .int 0, .ref nq1, .ref nq2, .ref nq3, .ref nq4])), (nq1, .inl (cy 0, 5, .inl (upd (upd (upd (upd (upd (fun _ => 0) 0 50) 1 50) 2 50) 3 50) 4 50))), (nq2, .inl (cy 0, 5, .inl (fun _ => 0))), (nq3, .inl (cy 3, 3, .inr (.inr (.inr (.inr (va_up (va_up (fun _ => none) 0 (some nq5)) 1 (some nq9))))))), (nq4, .inl (cy 0, 5, .inl (fun _ => 0))), (nq5, .inr (1, [.ref xq7, .ref xq8, .int 0])), (xq7, .inl (cy 0, 48, .inl (fun _ => 0))), (nq9, .inr (1, [.ref xq11, .ref xq12, .int 0])), (xq11, .inl (cy 0, 48, .inl (fun _ => 0))), (nq13, .inr (1, [.ref xq15, .ref xq16, .int 0])), (xq15, .inl (cy 0, 48, .inl (fun _ => 0)))] H := hP
  have hD : va_D A [(h0, .inr (2, [.int 5, .int 9, .int 0, .ref nq1, .ref nq2, .ref nq3, .ref nq4])), (nq1, .inl (cy 0, 5, .inl (upd (upd (upd (upd (upd (fun _ => 0) 0 50) 1 50) 2 50) 3 50) 4 50))), (nq2, .inl (cy 0, 5, .inl (fun _ => 0))), (nq3, .inl (cy 3, 3, .inr (.inr (.inr (.inr (va_up (va_up (fun _ => none) 0 (some nq5)) 1 (some nq9))))))), (nq4, .inl (cy 0, 5, .inl (fun _ => 0))), (nq5, .inr (1, [.ref xq7, .ref xq8, .int 0])), (xq7, .inl (cy 0, 48, .inl (fun _ => 0))), (nq9, .inr (1, [.ref xq11, .ref xq12, .int 0])), (xq11, .inl (cy 0, 48, .inl (fun _ => 0))), (nq13, .inr (1, [.ref xq15, .ref xq16, .int 0])), (xq15, .inl (cy 0, 48, .inl (fun _ => 0)))] := hD
  refine va_astq hx hb hE.1 hP hD hS 3 3 9 1 rfl rfl rfl rfl (vinL (by decide)) dX2_init_89 (fun H locs hP hD hS => ?_)
  have hP : va_P G classes [(h0, .inr (2, [.int 5, .int 9, .int 0, .ref nq1, .ref nq2, .ref nq3, .ref nq4])), (nq1, .inl (cy 0, 5, .inl (upd (upd (upd (upd (upd (fun _ => 0) 0 50) 1 50) 2 50) 3 50) 4 50))), (nq2, .inl (cy 0, 5, .inl (fun _ => 0))), (nq3, .inl (cy 3, 3, .inr (.inr (.inr (.inr (va_up (va_up (va_up (fun _ => none) 0 (some nq5)) 1 (some nq9)) 2 (some nq13))))))), (nq4, .inl (cy 0, 5, .inl (fun _ => 0))), (nq5, .inr (1, [.ref xq7, .ref xq8, .int 0])), (xq7, .inl (cy 0, 48, .inl (fun _ => 0))), (nq9, .inr (1, [.ref xq11, .ref xq12, .int 0])), (xq11, .inl (cy 0, 48, .inl (fun _ => 0))), (nq13, .inr (1, [.ref xq15, .ref xq16, .int 0])), (xq15, .inl (cy 0, 48, .inl (fun _ => 0)))] H := hP
  have hD : va_D A [(h0, .inr (2, [.int 5, .int 9, .int 0, .ref nq1, .ref nq2, .ref nq3, .ref nq4])), (nq1, .inl (cy 0, 5, .inl (upd (upd (upd (upd (upd (fun _ => 0) 0 50) 1 50) 2 50) 3 50) 4 50))), (nq2, .inl (cy 0, 5, .inl (fun _ => 0))), (nq3, .inl (cy 3, 3, .inr (.inr (.inr (.inr (va_up (va_up (va_up (fun _ => none) 0 (some nq5)) 1 (some nq9)) 2 (some nq13))))))), (nq4, .inl (cy 0, 5, .inl (fun _ => 0))), (nq5, .inr (1, [.ref xq7, .ref xq8, .int 0])), (xq7, .inl (cy 0, 48, .inl (fun _ => 0))), (nq9, .inr (1, [.ref xq11, .ref xq12, .int 0])), (xq11, .inl (cy 0, 48, .inl (fun _ => 0))), (nq13, .inr (1, [.ref xq15, .ref xq16, .int 0])), (xq15, .inl (cy 0, 48, .inl (fun _ => 0)))] := hD
  refine lv_iinc (v := 3) (lv' := [(1, .int 3), (0, .ref h0)]) hx hb dX2_init_90 hl (k := 0) rfl (by decide) (by decide) rfl (fun ls hl => ?_)
  refine lv_goto (tgt := 72) hx hb dX2_init_93 (by decide) ?_
  refine lv_iload_n hx hb dX2_init_72 rfl (lv_at hl 0 rfl) ?_
  refine lv_iconst (v := 3) hx hb dX2_init_73 (by decide) ?_
  refine lv_icmp_ge (tgt := 96) hx hb dX2_init_74 (by decide) (fun _ => ?_) (fun h9 => absurd h9 (by decide))
  have hP9 := P_cut (wc := [(h0, .inr (2, [.int 5, .int 9, .int 0, .ref nq1, .ref nq2, .ref nq3, .ref nq4])), (nq1, .inl (cy 0, 5, .inl (upd (upd (upd (upd (upd (fun _ => 0) 0 50) 1 50) 2 50) 3 50) 4 50))), (nq2, .inl (cy 0, 5, .inl (fun _ => 0))), (nq3, .inl (cy 3, 3, .inr (.inr (.inr (.inr (va_up (va_up (va_up (fun _ => none) 0 (some nq5)) 1 (some nq9)) 2 (some nq13))))))), (nq5, .inr (1, [.ref xq7, .ref xq8, .int 0])), (xq7, .inl (cy 0, 48, .inl (fun _ => 0))), (nq9, .inr (1, [.ref xq11, .ref xq12, .int 0])), (xq11, .inl (cy 0, 48, .inl (fun _ => 0))), (nq13, .inr (1, [.ref xq15, .ref xq16, .int 0])), (xq15, .inl (cy 0, 48, .inl (fun _ => 0)))]) hP [0, 1, 2, 3, 5, 6, 7, 8, 9, 10] rfl
  have hD9 := hD.sub (ws' := [(h0, .inr (2, [.int 5, .int 9, .int 0, .ref nq1, .ref nq2, .ref nq3, .ref nq4])), (nq1, .inl (cy 0, 5, .inl (upd (upd (upd (upd (upd (fun _ => 0) 0 50) 1 50) 2 50) 3 50) 4 50))), (nq2, .inl (cy 0, 5, .inl (fun _ => 0))), (nq3, .inl (cy 3, 3, .inr (.inr (.inr (.inr (va_up (va_up (va_up (fun _ => none) 0 (some nq5)) 1 (some nq9)) 2 (some nq13))))))), (nq5, .inr (1, [.ref xq7, .ref xq8, .int 0])), (xq7, .inl (cy 0, 48, .inl (fun _ => 0))), (nq9, .inr (1, [.ref xq11, .ref xq12, .int 0])), (xq11, .inl (cy 0, 48, .inl (fun _ => 0))), (nq13, .inr (1, [.ref xq15, .ref xq16, .int 0])), (xq15, .inl (cy 0, 48, .inl (fun _ => 0)))]) [0, 1, 2, 3, 5, 6, 7, 8, 9, 10] (by decide) rfl
  refine W.widen (k := 13) (n := 315) (by first | exact Nat.le_of_ble_eq_true rfl | omega) (by first | exact Nat.le_of_ble_eq_true rfl | omega) ?_
  exact W.vret hx hb hr (fun t ht hW => ⟨⟨(), rfl, trivial, by dsimp only; rw [ht]; exact ⟨nq1, nq2, nq3, nq4, nq5, nq9, nq13, xq7, xq11, xq15, xq8, xq12, xq16, (upd (upd (upd (upd (upd (fun _ => 0) 0 50) 1 50) 2 50) 3 50) 4 50), (va_up (va_up (va_up (fun _ => none) 0 (some nq5)) 1 (some nq9)) 2 (some nq13)), (fun j hj => co_dec (N := 5) (P := fun j => (upd (upd (upd (upd (upd (fun _ => 0) 0 50) 1 50) 2 50) 3 50) 4 50) j = 50) (by decide) hj), rfl, rfl, rfl, hP9, hD9⟩⟩, hS.F ht⟩) hS.2.2 dX2_init_96
theorem kf_c_X2_changeKind_0 (kd : Int32) (hk : inR kd 0 4) (h9 : kd < 0) : False := by simp only [inR, Int32.le_iff_toInt_le, Int32.lt_iff_toInt_lt] at *; simp at *; omega
theorem kf_c_X2_changeKind_1 (kd : Int32) (hk : inR kd 0 4) (h9 : ¬ kd < 5) : False := by simp only [inR, Int32.le_iff_toInt_le, Int32.lt_iff_toInt_lt] at *; simp at *; omega
theorem lf_c_X2_changeKind_2 (fl : Nat → Int32) (kd : Int32) (wh : Int32) (hfl : ∀ j, j < 5 → fl j = 50) (hk : inR kd 0 4) (c_1 : ¬ wh = 0) : (0 : Int32) = (if wh = 0 then 50 else 0) := by simp only [*, if_true, if_false]
theorem kf_c_X2_changeKind_3 (kd : Int32) (hk : inR kd 0 4) (h9 : kd < 0) : False := by simp only [inR, Int32.le_iff_toInt_le, Int32.lt_iff_toInt_lt] at *; simp at *; omega
theorem kf_c_X2_changeKind_4 (kd : Int32) (hk : inR kd 0 4) (h9 : ¬ kd < 5) : False := by simp only [inR, Int32.le_iff_toInt_le, Int32.lt_iff_toInt_lt] at *; simp at *; omega
theorem lf_c_X2_changeKind_5 (fl : Nat → Int32) (kd : Int32) (wh : Int32) (hfl : ∀ j, j < 5 → fl j = 50) (hk : inR kd 0 4) (c_1 : wh = 0) : (50 : Int32) = (if wh = 0 then 50 else 0) := by simp only [*, if_true, if_false]
set_option maxHeartbeats 4000000 in
set_option maxRecDepth 100000 in
theorem c_X2_changeKind (l : Launch) (G : va_G) (cy : Nat → ClassId) (sk : Nat → Nat) (sz : Nat) (la : Nat) (ld : Nat) (sr : Nat) (tx : Nat) (vl : Nat) (fl : Nat → Int32) (kd : Int32) (wh : Int32) (v : Int32) (hfl : ∀ j, j < 5 → fl j = 50) (hk : inR kd 0 4) : Met l yX2_changeKind (wsO yX2_changeKind cX2_changeKind 6 (some .int)) ({ frames := 0, cells := 0, slots := 0, locals := 0 }) (va_Pc [.ref la, .int kd, .int wh, .int v] (PR G cy sk sz [(la, .inr (2, [.int 5, .int 9, .int 0, .ref ld, .ref sr, .ref tx, .ref vl])), (ld, .inl (cy 0, 5, .inl fl)), (sr, .inl (cy 0, 5, .inl (fun _ => 0)))])) (va_Qi (fun r (_ : Unit) => r = (if wh = 0 then 50 else 0)) (fun _ _ => True) (va_A [(la, .inr (2, [.int 5, .int 9, .int 0, .ref ld, .ref sr, .ref tx, .ref vl])), (ld, .inl (cy 0, 5, .inl fl)), (sr, .inl (cy 0, 5, .inl (fun _ => 0)))] sz)) 0 0 (va_A [(la, .inr (2, [.int 5, .int 9, .int 0, .ref ld, .ref sr, .ref tx, .ref vl])), (ld, .inl (cy 0, 5, .inl fl)), (sr, .inl (cy 0, 5, .inl (fun _ => 0)))] sz) := by
  refine mt (by decide) (Nat.le_of_ble_eq_true rfl) ?_
  intro p e s m below meth c ls hx hb hr hml hts hown hlocks hin hsz hP hE hD hl
  subst hsz
  have hl : lv_has ls 6 [(0, .ref la), (1, .int kd), (2, .int wh), (3, .int v)] := hl
  have hD := hD.self (sz := s.heap.size)
  generalize hAe : va_A [(la, .inr (2, [.int 5, .int 9, .int 0, .ref ld, .ref sr, .ref tx, .ref vl])), (ld, .inl (cy 0, 5, .inl fl)), (sr, .inl (cy 0, 5, .inl (fun _ => 0)))] s.heap.size = A at hD ⊢
  have hA : ∀ q : Nat, s.heap.size ≤ q → A q := fun q h => by rw [← hAe]; exact Or.inr h
  have hS : va_S A s.heap s.heap [] := va_S.rf
  refine lv_iload_n hx hb dX2_changeKind_0 rfl (lv_at hl 2 rfl) ?_
  refine lv_if_ne (tgt := 11) hx hb dX2_changeKind_1 (by decide) (fun c_1 => ?_) (fun c_1 => ?_)
  · refine lv_aload_n hx hb dX2_changeKind_11 rfl (lv_at hl 0 rfl) ?_
    refine va_get (D := G) (ci := 2) (v := .ref sr) (C := RX2) (T := TX2) (N := 7) hx hb hts inB2 hown hE.1 hP 0 rfl rfl 4 (by decide) (hts _ m_174) (fun _ h9 => h9) rfl dX2_changeKind_12 ?_
    refine lv_astore (lv' := [(4, .ref sr), (0, .ref la), (1, .int kd), (2, .int wh), (3, .int v)]) hx hb dX2_changeKind_15 hl (by decide) rfl (fun ls hl => ?_)
    refine lv_iload_n hx hb dX2_changeKind_17 rfl (lv_at hl 2 rfl) ?_
    refine lv_if_lt (tgt := 28) hx hb dX2_changeKind_18 (by decide) (fun h9 => (kf_c_X2_changeKind_0 kd hk h9).elim) (fun _ => ?_)
    refine lv_iload_n hx hb dX2_changeKind_21 rfl (lv_at hl 2 rfl) ?_
    refine lv_aload hx hb dX2_changeKind_22 (lv_at hl 0 rfl) ?_
    refine va_alen (v := 5) hx hb hE.1 hP 2 0 rfl rfl rfl dX2_changeKind_24 ?_
    refine lv_icmp_lt (tgt := 30) hx hb dX2_changeKind_25 (by decide) (fun _ => ?_) (fun h9 => (kf_c_X2_changeKind_1 kd hk h9).elim)
    refine lv_aload hx hb dX2_changeKind_30 (lv_at hl 0 rfl) ?_
    refine lv_iload_n hx hb dX2_changeKind_32 rfl (lv_at hl 2 rfl) ?_
    refine va_iald hx hb hE.1 hP 2 0 rfl rfl (vinB hk (by decide) (by decide)) dX2_changeKind_33 ?_
    refine tp (v := 0) rfl ?_
    refine lv_istore (lv' := [(5, .int 0), (4, .ref sr), (0, .ref la), (1, .int kd), (2, .int wh), (3, .int v)]) hx hb dX2_changeKind_34 hl (by decide) rfl (fun ls hl => ?_)
    refine lv_aload hx hb dX2_changeKind_36 (lv_at hl 1 rfl) ?_
    refine lv_iload_n hx hb dX2_changeKind_38 rfl (lv_at hl 3 rfl) ?_
    refine lv_iload_n hx hb dX2_changeKind_39 rfl (lv_at hl 5 rfl) ?_
    refine va_iast hx hb hE.1 hP hD hS 2 0 rfl rfl (vinB hk (by decide) (by decide)) dX2_changeKind_40 (fun H locs hP hD hS => ?_)
    have hP : va_P G classes [(la, .inr (2, [.int 5, .int 9, .int 0, .ref ld, .ref sr, .ref tx, .ref vl])), (ld, .inl (cy 0, 5, .inl fl)), (sr, .inl (cy 0, 5, .inl (upd (fun _ => 0) (kd).toNatClampNeg v)))] H := hP
    have hD : va_D A [(la, .inr (2, [.int 5, .int 9, .int 0, .ref ld, .ref sr, .ref tx, .ref vl])), (ld, .inl (cy 0, 5, .inl fl)), (sr, .inl (cy 0, 5, .inl (upd (fun _ => 0) (kd).toNatClampNeg v)))] := hD
    refine lv_iload hx hb dX2_changeKind_41 (lv_at hl 0 rfl) ?_
    refine W.widen (k := 0) (n := 0) (by first | exact Nat.le_of_ble_eq_true rfl | omega) (by first | exact Nat.le_of_ble_eq_true rfl | omega) ?_
    exact W.iret (v := 0) hx hb hr (fun t ht hW => ⟨⟨0, (), rfl, (lf_c_X2_changeKind_2 fl kd wh hfl hk c_1), trivial⟩, hS.F ht⟩) hS.2.2 dX2_changeKind_43
  · refine lv_aload_n hx hb dX2_changeKind_4 rfl (lv_at hl 0 rfl) ?_
    refine va_get (D := G) (ci := 2) (v := .ref ld) (C := RX2) (T := TX2) (N := 7) hx hb hts inB2 hown hE.1 hP 0 rfl rfl 3 (by decide) (hts _ m_173) (fun _ h9 => h9) rfl dX2_changeKind_5 ?_
    refine lv_goto (tgt := 15) hx hb dX2_changeKind_8 (by decide) ?_
    refine lv_astore (lv' := [(4, .ref ld), (0, .ref la), (1, .int kd), (2, .int wh), (3, .int v)]) hx hb dX2_changeKind_15 hl (by decide) rfl (fun ls hl => ?_)
    refine lv_iload_n hx hb dX2_changeKind_17 rfl (lv_at hl 2 rfl) ?_
    refine lv_if_lt (tgt := 28) hx hb dX2_changeKind_18 (by decide) (fun h9 => (kf_c_X2_changeKind_3 kd hk h9).elim) (fun _ => ?_)
    refine lv_iload_n hx hb dX2_changeKind_21 rfl (lv_at hl 2 rfl) ?_
    refine lv_aload hx hb dX2_changeKind_22 (lv_at hl 0 rfl) ?_
    refine va_alen (v := 5) hx hb hE.1 hP 1 0 rfl rfl rfl dX2_changeKind_24 ?_
    refine lv_icmp_lt (tgt := 30) hx hb dX2_changeKind_25 (by decide) (fun _ => ?_) (fun h9 => (kf_c_X2_changeKind_4 kd hk h9).elim)
    refine lv_aload hx hb dX2_changeKind_30 (lv_at hl 0 rfl) ?_
    refine lv_iload_n hx hb dX2_changeKind_32 rfl (lv_at hl 2 rfl) ?_
    refine va_iald hx hb hE.1 hP 1 0 rfl rfl (vinB hk (by decide) (by decide)) dX2_changeKind_33 ?_
    refine tp (v := 50) (hfl _ (vinB_nat hk (by decide) (by decide))) ?_
    refine lv_istore (lv' := [(5, .int 50), (4, .ref ld), (0, .ref la), (1, .int kd), (2, .int wh), (3, .int v)]) hx hb dX2_changeKind_34 hl (by decide) rfl (fun ls hl => ?_)
    refine lv_aload hx hb dX2_changeKind_36 (lv_at hl 1 rfl) ?_
    refine lv_iload_n hx hb dX2_changeKind_38 rfl (lv_at hl 3 rfl) ?_
    refine lv_iload_n hx hb dX2_changeKind_39 rfl (lv_at hl 5 rfl) ?_
    refine va_iast hx hb hE.1 hP hD hS 1 0 rfl rfl (vinB hk (by decide) (by decide)) dX2_changeKind_40 (fun H locs hP hD hS => ?_)
    have hP : va_P G classes [(la, .inr (2, [.int 5, .int 9, .int 0, .ref ld, .ref sr, .ref tx, .ref vl])), (ld, .inl (cy 0, 5, .inl (upd fl (kd).toNatClampNeg v))), (sr, .inl (cy 0, 5, .inl (fun _ => 0)))] H := hP
    have hD : va_D A [(la, .inr (2, [.int 5, .int 9, .int 0, .ref ld, .ref sr, .ref tx, .ref vl])), (ld, .inl (cy 0, 5, .inl (upd fl (kd).toNatClampNeg v))), (sr, .inl (cy 0, 5, .inl (fun _ => 0)))] := hD
    refine lv_iload hx hb dX2_changeKind_41 (lv_at hl 0 rfl) ?_
    refine W.widen (k := 0) (n := 0) (by first | exact Nat.le_of_ble_eq_true rfl | omega) (by first | exact Nat.le_of_ble_eq_true rfl | omega) ?_
    exact W.iret (v := 50) hx hb hr (fun t ht hW => ⟨⟨50, (), rfl, (lf_c_X2_changeKind_5 fl kd wh hfl hk c_1), trivial⟩, hS.F ht⟩) hS.2.2 dX2_changeKind_43
