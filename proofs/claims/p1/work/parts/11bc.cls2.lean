def B_c_X4_readSum (G : va_G) (cy : Nat → ClassId) (A : Nat → Prop) (re : Nat) (dr : Nat) (ta : Nat) (nm : Nat) (rta : Nat) (H : Heap) : Prop := va_P G classes [(re, .inr (4, [.ref dr, .ref ta, .ref nm, .int 0, .int 0, .int 0, .int 0])), (ta, .inr (5, [.ref rta, .int 0]))] H ∧ va_D A [(re, .inr (4, [.ref dr, .ref ta, .ref nm, .int 0, .int 0, .int 0, .int 0])), (ta, .inr (5, [.ref rta, .int 0]))]
set_option maxHeartbeats 4000000 in
set_option maxRecDepth 100000 in
theorem c_X4_readSum (l : Launch) (G : va_G) (cy : Nat → ClassId) (sk : Nat → Nat) (sz : Nat) (re : Nat) (dr : Nat) (ta : Nat) (nm : Nat) (rta : Nat)  : Met l yX4_readSum (wsO yX4_readSum cX4_readSum 3 none) ({ frames := 4, cells := 0, slots := 0, locals := 85 }) (va_Pc [.ref re] (PR G cy sk sz [(re, .inr (4, [.ref dr, .ref ta, .ref nm, .int 0, .int (-1), .int 0, .int 0])), (ta, .inr (5, [.ref rta, .int 0]))])) (va_Qv (fun (_ : Unit) => True) (fun _ t => B_c_X4_readSum G cy (va_A [(re, .inr (4, [.ref dr, .ref ta, .ref nm, .int 0, .int (-1), .int 0, .int 0])), (ta, .inr (5, [.ref rta, .int 0]))] sz) re dr ta nm rta t.heap) (va_A [(re, .inr (4, [.ref dr, .ref ta, .ref nm, .int 0, .int (-1), .int 0, .int 0])), (ta, .inr (5, [.ref rta, .int 0]))] sz)) 0 0 (va_A [(re, .inr (4, [.ref dr, .ref ta, .ref nm, .int 0, .int (-1), .int 0, .int 0])), (ta, .inr (5, [.ref rta, .int 0]))] sz) := by
  refine mt (by decide) (Nat.le_of_ble_eq_true rfl) ?_
  intro p e s m below meth c ls hx hb hr hml hts hown hlocks hin hsz hP hE hD hl
  subst hsz
  have hl : lv_has ls 3 [(0, .ref re)] := hl
  have hD := hD.self (sz := s.heap.size)
  generalize hAe : va_A [(re, .inr (4, [.ref dr, .ref ta, .ref nm, .int 0, .int (-1), .int 0, .int 0])), (ta, .inr (5, [.ref rta, .int 0]))] s.heap.size = A at hD ⊢
  have hA : ∀ q : Nat, s.heap.size ≤ q → A q := fun q h => by rw [← hAe]; exact Or.inr h
  have hS : va_S A s.heap s.heap [] := va_S.rf
  refine lv_aload_n hx hb dX4_readSum_0 rfl (lv_at hl 0 rfl) ?_
  refine wVv (B := (B_c_X4_readTerm G cy (va_A [(re, .inr (4, [.ref dr, .ref ta, .ref nm, .int 0, .int (-1), .int 0, .int 0])), (ta, .inr (5, [.ref rta, .int 0]))] s.heap.size) re dr ta nm rta)) (wr := []) (rest := []) hx hb hml hown hts hE (c_X4_readTerm l G cy sk s.heap.size re dr ta nm rta) kV_X4_readTerm m_700 rfl rfl ⟨(Nat.le_of_ble_eq_true rfl), (Nat.le_of_ble_eq_true rfl)⟩ hP hD hS hA 0 rfl rfl rfl [0, 1] [] rfl rfl rfl rfl (by decide) rfl rfl hl.1 (Nat.le_of_ble_eq_true rfl) dX4_readSum_1 ⟨(Nat.le_of_ble_eq_true rfl), (Nat.le_of_ble_eq_true rfl)⟩ (fun H locs haf hS => ?_)
  obtain ⟨hP1, hD1⟩ := haf.1
  obtain ⟨hP, hD⟩ := haf.2.1 _ hP1 hD1
  have hP : va_P G classes [(re, .inr (4, [.ref dr, .ref ta, .ref nm, .int 0, .int 0, .int 0, .int 0])), (ta, .inr (5, [.ref rta, .int 0]))] H := hP
  have hD : va_D A [(re, .inr (4, [.ref dr, .ref ta, .ref nm, .int 0, .int 0, .int 0, .int 0])), (ta, .inr (5, [.ref rta, .int 0]))] := hD
  refine lv_iconst (v := 0) hx hb dX4_readSum_4 (by decide) ?_
  refine lv_istore_n (lv' := [(1, .int 0), (0, .ref re)]) hx hb dX4_readSum_5 rfl hl (by decide) rfl (fun ls hl => ?_)
  refine lv_iload_n hx hb dX4_readSum_6 rfl (lv_at hl 0 rfl) ?_
  refine lv_bipush (v := 48) hx hb dX4_readSum_7 (by decide) ?_
  refine lv_icmp_ge (tgt := 69) hx hb dX4_readSum_9 (by decide) (fun h9 => absurd h9 (by decide)) (fun _ => ?_)
  refine lv_aload_n hx hb dX4_readSum_12 rfl (lv_at hl 1 rfl) ?_
  refine va_get (D := G) (ci := 4) (v := .int 0) (C := RX4) (T := TX4) (N := 7) hx hb hts inB4 hown hE.1 hP 0 rfl rfl 4 (by decide) (hts _ m_363) (fun _ h9 => h9) rfl dX4_readSum_13 ?_
  refine lv_if_ge (tgt := 69) hx hb dX4_readSum_16 (by decide) (fun _ => ?_) (fun h9 => absurd h9 (by decide))
  have hP9 := P_cut (wc := [(re, .inr (4, [.ref dr, .ref ta, .ref nm, .int 0, .int 0, .int 0, .int 0])), (ta, .inr (5, [.ref rta, .int 0]))]) hP [0, 1] rfl
  have hD9 := hD.sub (ws' := [(re, .inr (4, [.ref dr, .ref ta, .ref nm, .int 0, .int 0, .int 0, .int 0])), (ta, .inr (5, [.ref rta, .int 0]))]) [0, 1] (by decide) rfl
  refine W.widen (k := 0) (n := 0) (by first | exact Nat.le_of_ble_eq_true rfl | omega) (by first | exact Nat.le_of_ble_eq_true rfl | omega) ?_
  exact W.vret hx hb hr (fun t ht hW => ⟨⟨(), rfl, trivial, by dsimp only; rw [ht]; exact ⟨hP9, hD9⟩⟩, hS.F ht⟩) hS.2.2 dX4_readSum_69
def B_c_X4_readComparisons (G : va_G) (cy : Nat → ClassId) (A : Nat → Prop) (re : Nat) (dr : Nat) (ta : Nat) (nm : Nat) (rta : Nat) (H : Heap) : Prop := va_P G classes [(re, .inr (4, [.ref dr, .ref ta, .ref nm, .int 0, .int 0, .int 0, .int 0])), (ta, .inr (5, [.ref rta, .int 0]))] H ∧ va_D A [(re, .inr (4, [.ref dr, .ref ta, .ref nm, .int 0, .int 0, .int 0, .int 0])), (ta, .inr (5, [.ref rta, .int 0]))]
set_option maxHeartbeats 4000000 in
set_option maxRecDepth 100000 in
theorem c_X4_readComparisons (l : Launch) (G : va_G) (cy : Nat → ClassId) (sk : Nat → Nat) (sz : Nat) (re : Nat) (dr : Nat) (ta : Nat) (nm : Nat) (rta : Nat)  : Met l yX4_readComparisons (wsO yX4_readComparisons cX4_readComparisons 3 none) ({ frames := 5, cells := 0, slots := 0, locals := 107 }) (va_Pc [.ref re] (PR G cy sk sz [(re, .inr (4, [.ref dr, .ref ta, .ref nm, .int 0, .int (-1), .int 0, .int 0])), (ta, .inr (5, [.ref rta, .int 0]))])) (va_Qv (fun (_ : Unit) => True) (fun _ t => B_c_X4_readComparisons G cy (va_A [(re, .inr (4, [.ref dr, .ref ta, .ref nm, .int 0, .int (-1), .int 0, .int 0])), (ta, .inr (5, [.ref rta, .int 0]))] sz) re dr ta nm rta t.heap) (va_A [(re, .inr (4, [.ref dr, .ref ta, .ref nm, .int 0, .int (-1), .int 0, .int 0])), (ta, .inr (5, [.ref rta, .int 0]))] sz)) 0 0 (va_A [(re, .inr (4, [.ref dr, .ref ta, .ref nm, .int 0, .int (-1), .int 0, .int 0])), (ta, .inr (5, [.ref rta, .int 0]))] sz) := by
  refine mt (by decide) (Nat.le_of_ble_eq_true rfl) ?_
  intro p e s m below meth c ls hx hb hr hml hts hown hlocks hin hsz hP hE hD hl
  subst hsz
  have hl : lv_has ls 3 [(0, .ref re)] := hl
  have hD := hD.self (sz := s.heap.size)
  generalize hAe : va_A [(re, .inr (4, [.ref dr, .ref ta, .ref nm, .int 0, .int (-1), .int 0, .int 0])), (ta, .inr (5, [.ref rta, .int 0]))] s.heap.size = A at hD ⊢
  have hA : ∀ q : Nat, s.heap.size ≤ q → A q := fun q h => by rw [← hAe]; exact Or.inr h
  have hS : va_S A s.heap s.heap [] := va_S.rf
  refine lv_aload_n hx hb dX4_readComparisons_0 rfl (lv_at hl 0 rfl) ?_
  refine wVv (B := (B_c_X4_readSum G cy (va_A [(re, .inr (4, [.ref dr, .ref ta, .ref nm, .int 0, .int (-1), .int 0, .int 0])), (ta, .inr (5, [.ref rta, .int 0]))] s.heap.size) re dr ta nm rta)) (wr := []) (rest := []) hx hb hml hown hts hE (c_X4_readSum l G cy sk s.heap.size re dr ta nm rta) kV_X4_readSum m_696 rfl rfl ⟨(Nat.le_of_ble_eq_true rfl), (Nat.le_of_ble_eq_true rfl)⟩ hP hD hS hA 0 rfl rfl rfl [0, 1] [] rfl rfl rfl rfl (by decide) rfl rfl hl.1 (Nat.le_of_ble_eq_true rfl) dX4_readComparisons_1 ⟨(Nat.le_of_ble_eq_true rfl), (Nat.le_of_ble_eq_true rfl)⟩ (fun H locs haf hS => ?_)
  obtain ⟨hP1, hD1⟩ := haf.1
  obtain ⟨hP, hD⟩ := haf.2.1 _ hP1 hD1
  have hP : va_P G classes [(re, .inr (4, [.ref dr, .ref ta, .ref nm, .int 0, .int 0, .int 0, .int 0])), (ta, .inr (5, [.ref rta, .int 0]))] H := hP
  have hD : va_D A [(re, .inr (4, [.ref dr, .ref ta, .ref nm, .int 0, .int 0, .int 0, .int 0])), (ta, .inr (5, [.ref rta, .int 0]))] := hD
  refine lv_iconst (v := 0) hx hb dX4_readComparisons_4 (by decide) ?_
  refine lv_istore_n (lv' := [(1, .int 0), (0, .ref re)]) hx hb dX4_readComparisons_5 rfl hl (by decide) rfl (fun ls hl => ?_)
  refine lv_iload_n hx hb dX4_readComparisons_6 rfl (lv_at hl 0 rfl) ?_
  refine lv_bipush (v := 48) hx hb dX4_readComparisons_7 (by decide) ?_
  refine lv_icmp_ge (tgt := 75) hx hb dX4_readComparisons_9 (by decide) (fun h9 => absurd h9 (by decide)) (fun _ => ?_)
  refine lv_aload_n hx hb dX4_readComparisons_12 rfl (lv_at hl 1 rfl) ?_
  refine va_get (D := G) (ci := 4) (v := .int 0) (C := RX4) (T := TX4) (N := 7) hx hb hts inB4 hown hE.1 hP 0 rfl rfl 4 (by decide) (hts _ m_363) (fun _ h9 => h9) rfl dX4_readComparisons_13 ?_
  refine lv_if_ge (tgt := 75) hx hb dX4_readComparisons_16 (by decide) (fun _ => ?_) (fun h9 => absurd h9 (by decide))
  have hP9 := P_cut (wc := [(re, .inr (4, [.ref dr, .ref ta, .ref nm, .int 0, .int 0, .int 0, .int 0])), (ta, .inr (5, [.ref rta, .int 0]))]) hP [0, 1] rfl
  have hD9 := hD.sub (ws' := [(re, .inr (4, [.ref dr, .ref ta, .ref nm, .int 0, .int 0, .int 0, .int 0])), (ta, .inr (5, [.ref rta, .int 0]))]) [0, 1] (by decide) rfl
  refine W.widen (k := 0) (n := 0) (by first | exact Nat.le_of_ble_eq_true rfl | omega) (by first | exact Nat.le_of_ble_eq_true rfl | omega) ?_
  exact W.vret hx hb hr (fun t ht hW => ⟨⟨(), rfl, trivial, by dsimp only; rw [ht]; exact ⟨hP9, hD9⟩⟩, hS.F ht⟩) hS.2.2 dX4_readComparisons_75
def B_c_X4_read (G : va_G) (cy : Nat → ClassId) (A : Nat → Prop) (re : Nat) (dr : Nat) (t0 : Nat) (nm : Nat) (ta : Nat) (rta : Nat) (co : Nat) (ck : Nat) (us : Int32) (H : Heap) : Prop := va_P G classes [(ta, .inr (5, [.ref rta, .int 0]))] H ∧ va_D A [(ta, .inr (5, [.ref rta, .int 0]))]
set_option maxHeartbeats 4000000 in
set_option maxRecDepth 100000 in
theorem c_X4_read (l : Launch) (G : va_G) (cy : Nat → ClassId) (sk : Nat → Nat) (sz : Nat) (re : Nat) (dr : Nat) (t0 : Nat) (nm : Nat) (ta : Nat) (rta : Nat) (co : Nat) (ck : Nat) (us : Int32)  : Met l yX4_read (wsO yX4_read cX4_read 3 (some .int)) ({ frames := 6, cells := 0, slots := 0, locals := 129 }) (va_Pc [.ref re, .ref ta, .int us] (PR G cy sk sz [(re, .inr (4, [.ref dr, .ref t0, .ref nm, .int 0, .int (-1), .int 0, .int 0])), (dr, .inr (1, [.ref co, .ref ck, .int 0])), (ta, .inr (5, [.ref rta, .int 0]))])) (va_Qi (fun r (_ : Unit) => r = (-10)) (fun _ t => B_c_X4_read G cy (va_A [(re, .inr (4, [.ref dr, .ref t0, .ref nm, .int 0, .int (-1), .int 0, .int 0])), (dr, .inr (1, [.ref co, .ref ck, .int 0])), (ta, .inr (5, [.ref rta, .int 0]))] sz) re dr t0 nm ta rta co ck us t.heap) (va_A [(re, .inr (4, [.ref dr, .ref t0, .ref nm, .int 0, .int (-1), .int 0, .int 0])), (dr, .inr (1, [.ref co, .ref ck, .int 0])), (ta, .inr (5, [.ref rta, .int 0]))] sz)) 0 0 (va_A [(re, .inr (4, [.ref dr, .ref t0, .ref nm, .int 0, .int (-1), .int 0, .int 0])), (dr, .inr (1, [.ref co, .ref ck, .int 0])), (ta, .inr (5, [.ref rta, .int 0]))] sz) := by
  refine mt (by decide) (Nat.le_of_ble_eq_true rfl) ?_
  intro p e s m below meth c ls hx hb hr hml hts hown hlocks hin hsz hP hE hD hl
  subst hsz
  have hl : lv_has ls 3 [(0, .ref re), (1, .ref ta), (2, .int us)] := hl
  have hD := hD.self (sz := s.heap.size)
  generalize hAe : va_A [(re, .inr (4, [.ref dr, .ref t0, .ref nm, .int 0, .int (-1), .int 0, .int 0])), (dr, .inr (1, [.ref co, .ref ck, .int 0])), (ta, .inr (5, [.ref rta, .int 0]))] s.heap.size = A at hD ⊢
  have hA : ∀ q : Nat, s.heap.size ≤ q → A q := fun q h => by rw [← hAe]; exact Or.inr h
  have hS : va_S A s.heap s.heap [] := va_S.rf
  refine lv_aload_n hx hb dX4_read_0 rfl (lv_at hl 0 rfl) ?_
  refine lv_aload_n hx hb dX4_read_1 rfl (lv_at hl 1 rfl) ?_
  refine va_put (D := G) (ci := 4) (v := .ref ta) (ty := (.object "ClickStreet$Row")) (C := RX4) (T := TX4) (N := 7) hx hb hts inB4 tyX4 tyX4_ok nmX4 hown hE.1 hP hD hS 0 rfl rfl 1 (by decide) (hts _ m_360) (fun _ h9 => h9) rfl (by decide +kernel) rfl rfl (Nat.le_of_ble_eq_true rfl) dX4_read_2 (fun H locs hP hD hS => ?_)
  have hP : va_P G classes [(re, .inr (4, [.ref dr, .ref ta, .ref nm, .int 0, .int (-1), .int 0, .int 0])), (dr, .inr (1, [.ref co, .ref ck, .int 0])), (ta, .inr (5, [.ref rta, .int 0]))] H := hP
  have hD : va_D A [(re, .inr (4, [.ref dr, .ref ta, .ref nm, .int 0, .int (-1), .int 0, .int 0])), (dr, .inr (1, [.ref co, .ref ck, .int 0])), (ta, .inr (5, [.ref rta, .int 0]))] := hD
  refine lv_aload_n hx hb dX4_read_5 rfl (lv_at hl 0 rfl) ?_
  refine lv_iload_n hx hb dX4_read_6 rfl (lv_at hl 2 rfl) ?_
  refine lv_if_ne (tgt := 15) hx hb dX4_read_7 (by decide) (fun c_1 => ?_) (fun c_1 => ?_)
  · refine lv_iload_n hx hb dX4_read_15 rfl (lv_at hl 2 rfl) ?_
    refine lv_iconst (v := 1) hx hb dX4_read_16 (by decide) ?_
    refine lv_icmp_ne (tgt := 25) hx hb dX4_read_17 (by decide) (fun c_2 => ?_) (fun c_2 => ?_)
    · refine va_ldcS hx hb hown (hE.2.2.2.1 3 _ rfl) dX4_read_25 ?_
      refine va_put (D := G) (ci := 4) (v := .ref (sk 3)) (ty := (.object "java/lang/String")) (C := RX4) (T := TX4) (N := 7) hx hb hts inB4 tyX4 tyX4_ok nmX4 hown hE.1 hP hD hS 0 rfl rfl 2 (by decide) (hts _ m_361) (fun _ h9 => h9) rfl (by decide +kernel) rfl rfl (Nat.le_of_ble_eq_true rfl) dX4_read_27 (fun H locs hP hD hS => ?_)
      have hP : va_P G classes [(re, .inr (4, [.ref dr, .ref ta, .ref (sk 3), .int 0, .int (-1), .int 0, .int 0])), (dr, .inr (1, [.ref co, .ref ck, .int 0])), (ta, .inr (5, [.ref rta, .int 0]))] H := hP
      have hD : va_D A [(re, .inr (4, [.ref dr, .ref ta, .ref (sk 3), .int 0, .int (-1), .int 0, .int 0])), (dr, .inr (1, [.ref co, .ref ck, .int 0])), (ta, .inr (5, [.ref rta, .int 0]))] := hD
      refine lv_aload_n hx hb dX4_read_30 rfl (lv_at hl 0 rfl) ?_
      refine lv_iconst (v := 0) hx hb dX4_read_31 (by decide) ?_
      refine va_put (D := G) (ci := 4) (v := .int 0) (ty := .int) (C := RX4) (T := TX4) (N := 7) hx hb hts inB4 tyX4 tyX4_ok nmX4 hown hE.1 hP hD hS 0 rfl rfl 3 (by decide) (hts _ m_362) (fun _ h9 => h9) rfl (by decide +kernel) rfl rfl (Nat.le_of_ble_eq_true rfl) dX4_read_32 (fun H locs hP hD hS => ?_)
      have hP : va_P G classes [(re, .inr (4, [.ref dr, .ref ta, .ref (sk 3), .int 0, .int (-1), .int 0, .int 0])), (dr, .inr (1, [.ref co, .ref ck, .int 0])), (ta, .inr (5, [.ref rta, .int 0]))] H := hP
      have hD : va_D A [(re, .inr (4, [.ref dr, .ref ta, .ref (sk 3), .int 0, .int (-1), .int 0, .int 0])), (dr, .inr (1, [.ref co, .ref ck, .int 0])), (ta, .inr (5, [.ref rta, .int 0]))] := hD
      refine lv_aload_n hx hb dX4_read_35 rfl (lv_at hl 0 rfl) ?_
      refine lv_iconst (v := (-1)) hx hb dX4_read_36 (by decide) ?_
      refine va_put (D := G) (ci := 4) (v := .int (-1)) (ty := .int) (C := RX4) (T := TX4) (N := 7) hx hb hts inB4 tyX4 tyX4_ok nmX4 hown hE.1 hP hD hS 0 rfl rfl 4 (by decide) (hts _ m_363) (fun _ h9 => h9) rfl (by decide +kernel) rfl rfl (Nat.le_of_ble_eq_true rfl) dX4_read_37 (fun H locs hP hD hS => ?_)
      have hP : va_P G classes [(re, .inr (4, [.ref dr, .ref ta, .ref (sk 3), .int 0, .int (-1), .int 0, .int 0])), (dr, .inr (1, [.ref co, .ref ck, .int 0])), (ta, .inr (5, [.ref rta, .int 0]))] H := hP
      have hD : va_D A [(re, .inr (4, [.ref dr, .ref ta, .ref (sk 3), .int 0, .int (-1), .int 0, .int 0])), (dr, .inr (1, [.ref co, .ref ck, .int 0])), (ta, .inr (5, [.ref rta, .int 0]))] := hD
      refine lv_aload_n hx hb dX4_read_40 rfl (lv_at hl 0 rfl) ?_
      refine lv_iconst (v := 0) hx hb dX4_read_41 (by decide) ?_
      refine va_put (D := G) (ci := 4) (v := .int 0) (ty := .int) (C := RX4) (T := TX4) (N := 7) hx hb hts inB4 tyX4 tyX4_ok nmX4 hown hE.1 hP hD hS 0 rfl rfl 5 (by decide) (hts _ m_364) (fun _ h9 => h9) rfl (by decide +kernel) rfl rfl (Nat.le_of_ble_eq_true rfl) dX4_read_42 (fun H locs hP hD hS => ?_)
      have hP : va_P G classes [(re, .inr (4, [.ref dr, .ref ta, .ref (sk 3), .int 0, .int (-1), .int 0, .int 0])), (dr, .inr (1, [.ref co, .ref ck, .int 0])), (ta, .inr (5, [.ref rta, .int 0]))] H := hP
      have hD : va_D A [(re, .inr (4, [.ref dr, .ref ta, .ref (sk 3), .int 0, .int (-1), .int 0, .int 0])), (dr, .inr (1, [.ref co, .ref ck, .int 0])), (ta, .inr (5, [.ref rta, .int 0]))] := hD
      refine lv_aload_n hx hb dX4_read_45 rfl (lv_at hl 0 rfl) ?_
      refine lv_iconst (v := 0) hx hb dX4_read_46 (by decide) ?_
      refine va_put (D := G) (ci := 4) (v := .int 0) (ty := .int) (C := RX4) (T := TX4) (N := 7) hx hb hts inB4 tyX4 tyX4_ok nmX4 hown hE.1 hP hD hS 0 rfl rfl 6 (by decide) (hts _ m_365) (fun _ h9 => h9) rfl (by decide +kernel) rfl rfl (Nat.le_of_ble_eq_true rfl) dX4_read_47 (fun H locs hP hD hS => ?_)
      have hP : va_P G classes [(re, .inr (4, [.ref dr, .ref ta, .ref (sk 3), .int 0, .int (-1), .int 0, .int 0])), (dr, .inr (1, [.ref co, .ref ck, .int 0])), (ta, .inr (5, [.ref rta, .int 0]))] H := hP
      have hD : va_D A [(re, .inr (4, [.ref dr, .ref ta, .ref (sk 3), .int 0, .int (-1), .int 0, .int 0])), (dr, .inr (1, [.ref co, .ref ck, .int 0])), (ta, .inr (5, [.ref rta, .int 0]))] := hD
      refine lv_aload_n hx hb dX4_read_50 rfl (lv_at hl 0 rfl) ?_
      refine va_get (D := G) (ci := 4) (v := .ref dr) (C := RX4) (T := TX4) (N := 7) hx hb hts inB4 hown hE.1 hP 0 rfl rfl 0 (by decide) (hts _ m_358) (fun _ h9 => h9) rfl dX4_read_51 ?_
      refine wVv (B := (B_c_X1_clear G cy (va_A [(dr, .inr (1, [.ref co, .ref ck, .int 0]))] H.size) dr co ck 0)) (wr := [(re, .inr (4, [.ref dr, .ref ta, .ref (sk 3), .int 0, .int (-1), .int 0, .int 0])), (ta, .inr (5, [.ref rta, .int 0]))]) (rest := []) hx hb hml hown hts hE (c_X1_clear l G cy sk H.size dr co ck 0) kV_X1_clear m_688 rfl rfl ⟨(Nat.le_of_ble_eq_true rfl), (Nat.le_of_ble_eq_true rfl)⟩ hP hD hS hA 1 rfl rfl rfl [1] [0, 2] rfl rfl rfl rfl (by decide) rfl rfl hl.1 (Nat.le_of_ble_eq_true rfl) dX4_read_54 ⟨(Nat.le_of_ble_eq_true rfl), (Nat.le_of_ble_eq_true rfl)⟩ (fun H locs haf hS => ?_)
      obtain ⟨hP1, hD1⟩ := haf.1
      obtain ⟨hP, hD⟩ := haf.2.1 _ hP1 hD1
      have hP : va_P G classes [(re, .inr (4, [.ref dr, .ref ta, .ref (sk 3), .int 0, .int (-1), .int 0, .int 0])), (ta, .inr (5, [.ref rta, .int 0])), (dr, .inr (1, [.ref co, .ref ck, .int 0]))] H := hP
      have hD : va_D A [(re, .inr (4, [.ref dr, .ref ta, .ref (sk 3), .int 0, .int (-1), .int 0, .int 0])), (ta, .inr (5, [.ref rta, .int 0])), (dr, .inr (1, [.ref co, .ref ck, .int 0]))] := hD
      refine lv_aload_n hx hb dX4_read_57 rfl (lv_at hl 0 rfl) ?_
      refine wVv (B := (B_c_X4_readComparisons G cy (va_A [(re, .inr (4, [.ref dr, .ref ta, .ref (sk 3), .int 0, .int (-1), .int 0, .int 0])), (ta, .inr (5, [.ref rta, .int 0]))] H.size) re dr ta (sk 3) rta)) (wr := [(dr, .inr (1, [.ref co, .ref ck, .int 0]))]) (rest := []) hx hb hml hown hts hE (c_X4_readComparisons l G cy sk H.size re dr ta (sk 3) rta) kV_X4_readComparisons m_692 rfl rfl ⟨(Nat.le_of_ble_eq_true rfl), (Nat.le_of_ble_eq_true rfl)⟩ hP hD hS hA 0 rfl rfl rfl [0, 1] [2] rfl rfl rfl rfl (by decide) rfl rfl hl.1 (Nat.le_of_ble_eq_true rfl) dX4_read_58 ⟨(Nat.le_of_ble_eq_true rfl), (Nat.le_of_ble_eq_true rfl)⟩ (fun H locs haf hS => ?_)
      obtain ⟨hP1, hD1⟩ := haf.1
      obtain ⟨hP, hD⟩ := haf.2.1 _ hP1 hD1
      have hP : va_P G classes [(dr, .inr (1, [.ref co, .ref ck, .int 0])), (re, .inr (4, [.ref dr, .ref ta, .ref (sk 3), .int 0, .int 0, .int 0, .int 0])), (ta, .inr (5, [.ref rta, .int 0]))] H := hP
      have hD : va_D A [(dr, .inr (1, [.ref co, .ref ck, .int 0])), (re, .inr (4, [.ref dr, .ref ta, .ref (sk 3), .int 0, .int 0, .int 0, .int 0])), (ta, .inr (5, [.ref rta, .int 0]))] := hD
      refine lv_aload_n hx hb dX4_read_61 rfl (lv_at hl 0 rfl) ?_
      refine rV (rest := []) hx hb hml hown hts hE (c_X4_next l G cy sk H.size re dr ta (sk 3) rta 0) kV_X4_next m_708 rfl rfl ⟨(Nat.le_of_ble_eq_true rfl), (Nat.le_of_ble_eq_true rfl)⟩ hP hD 1 rfl rfl rfl [1, 2] rfl rfl rfl rfl hl.1 (Nat.le_of_ble_eq_true rfl) dX4_read_62 ⟨(Nat.le_of_ble_eq_true rfl), (Nat.le_of_ble_eq_true rfl)⟩ (fun r_5 hr_ => ?_)
      subst hr_
      refine lv_if_lt (tgt := 72) hx hb dX4_read_65 (by decide) (fun _ => ?_) (fun h9 => absurd h9 (by decide))
      refine lv_aload_n hx hb dX4_read_72 rfl (lv_at hl 0 rfl) ?_
      refine va_get (D := G) (ci := 4) (v := .int 0) (C := RX4) (T := TX4) (N := 7) hx hb hts inB4 hown hE.1 hP 1 rfl rfl 4 (by decide) (hts _ m_363) (fun _ h9 => h9) rfl dX4_read_73 ?_
      refine lv_if_ge (tgt := 86) hx hb dX4_read_76 (by decide) (fun _ => ?_) (fun h9 => absurd h9 (by decide))
      refine lv_bipush (v := (-10)) hx hb dX4_read_86 (by decide) ?_
      refine lv_aload_n hx hb dX4_read_88 rfl (lv_at hl 0 rfl) ?_
      refine va_get (D := G) (ci := 4) (v := .int 0) (C := RX4) (T := TX4) (N := 7) hx hb hts inB4 hown hE.1 hP 1 rfl rfl 4 (by decide) (hts _ m_363) (fun _ h9 => h9) rfl dX4_read_89 ?_
      refine lv_isub hx hb dX4_read_92 ?_
      refine tp (v := (-10)) (by decide) ?_
      have hP9 := P_cut (wc := [(ta, .inr (5, [.ref rta, .int 0]))]) hP [2] rfl
      have hD9 := hD.sub (ws' := [(ta, .inr (5, [.ref rta, .int 0]))]) [2] (by decide) rfl
      refine W.widen (k := 0) (n := 0) (by first | exact Nat.le_of_ble_eq_true rfl | omega) (by first | exact Nat.le_of_ble_eq_true rfl | omega) ?_
      exact W.iret (v := (-10)) hx hb hr (fun t ht hW => ⟨⟨(-10), (), rfl, rfl, by dsimp only; rw [ht]; exact ⟨hP9, hD9⟩⟩, hS.F ht⟩) hS.2.2 dX4_read_93
    · refine va_ldcS hx hb hown (hE.2.2.2.1 2 _ rfl) dX4_read_20 ?_
      refine lv_goto (tgt := 27) hx hb dX4_read_22 (by decide) ?_
      refine va_put (D := G) (ci := 4) (v := .ref (sk 2)) (ty := (.object "java/lang/String")) (C := RX4) (T := TX4) (N := 7) hx hb hts inB4 tyX4 tyX4_ok nmX4 hown hE.1 hP hD hS 0 rfl rfl 2 (by decide) (hts _ m_361) (fun _ h9 => h9) rfl (by decide +kernel) rfl rfl (Nat.le_of_ble_eq_true rfl) dX4_read_27 (fun H locs hP hD hS => ?_)
      have hP : va_P G classes [(re, .inr (4, [.ref dr, .ref ta, .ref (sk 2), .int 0, .int (-1), .int 0, .int 0])), (dr, .inr (1, [.ref co, .ref ck, .int 0])), (ta, .inr (5, [.ref rta, .int 0]))] H := hP
      have hD : va_D A [(re, .inr (4, [.ref dr, .ref ta, .ref (sk 2), .int 0, .int (-1), .int 0, .int 0])), (dr, .inr (1, [.ref co, .ref ck, .int 0])), (ta, .inr (5, [.ref rta, .int 0]))] := hD
      refine lv_aload_n hx hb dX4_read_30 rfl (lv_at hl 0 rfl) ?_
      refine lv_iconst (v := 0) hx hb dX4_read_31 (by decide) ?_
      refine va_put (D := G) (ci := 4) (v := .int 0) (ty := .int) (C := RX4) (T := TX4) (N := 7) hx hb hts inB4 tyX4 tyX4_ok nmX4 hown hE.1 hP hD hS 0 rfl rfl 3 (by decide) (hts _ m_362) (fun _ h9 => h9) rfl (by decide +kernel) rfl rfl (Nat.le_of_ble_eq_true rfl) dX4_read_32 (fun H locs hP hD hS => ?_)
      have hP : va_P G classes [(re, .inr (4, [.ref dr, .ref ta, .ref (sk 2), .int 0, .int (-1), .int 0, .int 0])), (dr, .inr (1, [.ref co, .ref ck, .int 0])), (ta, .inr (5, [.ref rta, .int 0]))] H := hP
      have hD : va_D A [(re, .inr (4, [.ref dr, .ref ta, .ref (sk 2), .int 0, .int (-1), .int 0, .int 0])), (dr, .inr (1, [.ref co, .ref ck, .int 0])), (ta, .inr (5, [.ref rta, .int 0]))] := hD
      refine lv_aload_n hx hb dX4_read_35 rfl (lv_at hl 0 rfl) ?_
      refine lv_iconst (v := (-1)) hx hb dX4_read_36 (by decide) ?_
      refine va_put (D := G) (ci := 4) (v := .int (-1)) (ty := .int) (C := RX4) (T := TX4) (N := 7) hx hb hts inB4 tyX4 tyX4_ok nmX4 hown hE.1 hP hD hS 0 rfl rfl 4 (by decide) (hts _ m_363) (fun _ h9 => h9) rfl (by decide +kernel) rfl rfl (Nat.le_of_ble_eq_true rfl) dX4_read_37 (fun H locs hP hD hS => ?_)
      have hP : va_P G classes [(re, .inr (4, [.ref dr, .ref ta, .ref (sk 2), .int 0, .int (-1), .int 0, .int 0])), (dr, .inr (1, [.ref co, .ref ck, .int 0])), (ta, .inr (5, [.ref rta, .int 0]))] H := hP
      have hD : va_D A [(re, .inr (4, [.ref dr, .ref ta, .ref (sk 2), .int 0, .int (-1), .int 0, .int 0])), (dr, .inr (1, [.ref co, .ref ck, .int 0])), (ta, .inr (5, [.ref rta, .int 0]))] := hD
      refine lv_aload_n hx hb dX4_read_40 rfl (lv_at hl 0 rfl) ?_
      refine lv_iconst (v := 0) hx hb dX4_read_41 (by decide) ?_
      refine va_put (D := G) (ci := 4) (v := .int 0) (ty := .int) (C := RX4) (T := TX4) (N := 7) hx hb hts inB4 tyX4 tyX4_ok nmX4 hown hE.1 hP hD hS 0 rfl rfl 5 (by decide) (hts _ m_364) (fun _ h9 => h9) rfl (by decide +kernel) rfl rfl (Nat.le_of_ble_eq_true rfl) dX4_read_42 (fun H locs hP hD hS => ?_)
      have hP : va_P G classes [(re, .inr (4, [.ref dr, .ref ta, .ref (sk 2), .int 0, .int (-1), .int 0, .int 0])), (dr, .inr (1, [.ref co, .ref ck, .int 0])), (ta, .inr (5, [.ref rta, .int 0]))] H := hP
      have hD : va_D A [(re, .inr (4, [.ref dr, .ref ta, .ref (sk 2), .int 0, .int (-1), .int 0, .int 0])), (dr, .inr (1, [.ref co, .ref ck, .int 0])), (ta, .inr (5, [.ref rta, .int 0]))] := hD
      refine lv_aload_n hx hb dX4_read_45 rfl (lv_at hl 0 rfl) ?_
      refine lv_iconst (v := 0) hx hb dX4_read_46 (by decide) ?_
      refine va_put (D := G) (ci := 4) (v := .int 0) (ty := .int) (C := RX4) (T := TX4) (N := 7) hx hb hts inB4 tyX4 tyX4_ok nmX4 hown hE.1 hP hD hS 0 rfl rfl 6 (by decide) (hts _ m_365) (fun _ h9 => h9) rfl (by decide +kernel) rfl rfl (Nat.le_of_ble_eq_true rfl) dX4_read_47 (fun H locs hP hD hS => ?_)
      have hP : va_P G classes [(re, .inr (4, [.ref dr, .ref ta, .ref (sk 2), .int 0, .int (-1), .int 0, .int 0])), (dr, .inr (1, [.ref co, .ref ck, .int 0])), (ta, .inr (5, [.ref rta, .int 0]))] H := hP
      have hD : va_D A [(re, .inr (4, [.ref dr, .ref ta, .ref (sk 2), .int 0, .int (-1), .int 0, .int 0])), (dr, .inr (1, [.ref co, .ref ck, .int 0])), (ta, .inr (5, [.ref rta, .int 0]))] := hD
      refine lv_aload_n hx hb dX4_read_50 rfl (lv_at hl 0 rfl) ?_
      refine va_get (D := G) (ci := 4) (v := .ref dr) (C := RX4) (T := TX4) (N := 7) hx hb hts inB4 hown hE.1 hP 0 rfl rfl 0 (by decide) (hts _ m_358) (fun _ h9 => h9) rfl dX4_read_51 ?_
      refine wVv (B := (B_c_X1_clear G cy (va_A [(dr, .inr (1, [.ref co, .ref ck, .int 0]))] H.size) dr co ck 0)) (wr := [(re, .inr (4, [.ref dr, .ref ta, .ref (sk 2), .int 0, .int (-1), .int 0, .int 0])), (ta, .inr (5, [.ref rta, .int 0]))]) (rest := []) hx hb hml hown hts hE (c_X1_clear l G cy sk H.size dr co ck 0) kV_X1_clear m_688 rfl rfl ⟨(Nat.le_of_ble_eq_true rfl), (Nat.le_of_ble_eq_true rfl)⟩ hP hD hS hA 1 rfl rfl rfl [1] [0, 2] rfl rfl rfl rfl (by decide) rfl rfl hl.1 (Nat.le_of_ble_eq_true rfl) dX4_read_54 ⟨(Nat.le_of_ble_eq_true rfl), (Nat.le_of_ble_eq_true rfl)⟩ (fun H locs haf hS => ?_)
      obtain ⟨hP1, hD1⟩ := haf.1
      obtain ⟨hP, hD⟩ := haf.2.1 _ hP1 hD1
      have hP : va_P G classes [(re, .inr (4, [.ref dr, .ref ta, .ref (sk 2), .int 0, .int (-1), .int 0, .int 0])), (ta, .inr (5, [.ref rta, .int 0])), (dr, .inr (1, [.ref co, .ref ck, .int 0]))] H := hP
      have hD : va_D A [(re, .inr (4, [.ref dr, .ref ta, .ref (sk 2), .int 0, .int (-1), .int 0, .int 0])), (ta, .inr (5, [.ref rta, .int 0])), (dr, .inr (1, [.ref co, .ref ck, .int 0]))] := hD
      refine lv_aload_n hx hb dX4_read_57 rfl (lv_at hl 0 rfl) ?_
      refine wVv (B := (B_c_X4_readComparisons G cy (va_A [(re, .inr (4, [.ref dr, .ref ta, .ref (sk 2), .int 0, .int (-1), .int 0, .int 0])), (ta, .inr (5, [.ref rta, .int 0]))] H.size) re dr ta (sk 2) rta)) (wr := [(dr, .inr (1, [.ref co, .ref ck, .int 0]))]) (rest := []) hx hb hml hown hts hE (c_X4_readComparisons l G cy sk H.size re dr ta (sk 2) rta) kV_X4_readComparisons m_692 rfl rfl ⟨(Nat.le_of_ble_eq_true rfl), (Nat.le_of_ble_eq_true rfl)⟩ hP hD hS hA 0 rfl rfl rfl [0, 1] [2] rfl rfl rfl rfl (by decide) rfl rfl hl.1 (Nat.le_of_ble_eq_true rfl) dX4_read_58 ⟨(Nat.le_of_ble_eq_true rfl), (Nat.le_of_ble_eq_true rfl)⟩ (fun H locs haf hS => ?_)
      obtain ⟨hP1, hD1⟩ := haf.1
      obtain ⟨hP, hD⟩ := haf.2.1 _ hP1 hD1
      have hP : va_P G classes [(dr, .inr (1, [.ref co, .ref ck, .int 0])), (re, .inr (4, [.ref dr, .ref ta, .ref (sk 2), .int 0, .int 0, .int 0, .int 0])), (ta, .inr (5, [.ref rta, .int 0]))] H := hP
      have hD : va_D A [(dr, .inr (1, [.ref co, .ref ck, .int 0])), (re, .inr (4, [.ref dr, .ref ta, .ref (sk 2), .int 0, .int 0, .int 0, .int 0])), (ta, .inr (5, [.ref rta, .int 0]))] := hD
      refine lv_aload_n hx hb dX4_read_61 rfl (lv_at hl 0 rfl) ?_
      refine rV (rest := []) hx hb hml hown hts hE (c_X4_next l G cy sk H.size re dr ta (sk 2) rta 0) kV_X4_next m_708 rfl rfl ⟨(Nat.le_of_ble_eq_true rfl), (Nat.le_of_ble_eq_true rfl)⟩ hP hD 1 rfl rfl rfl [1, 2] rfl rfl rfl rfl hl.1 (Nat.le_of_ble_eq_true rfl) dX4_read_62 ⟨(Nat.le_of_ble_eq_true rfl), (Nat.le_of_ble_eq_true rfl)⟩ (fun r_8 hr_ => ?_)
      subst hr_
      refine lv_if_lt (tgt := 72) hx hb dX4_read_65 (by decide) (fun _ => ?_) (fun h9 => absurd h9 (by decide))
      refine lv_aload_n hx hb dX4_read_72 rfl (lv_at hl 0 rfl) ?_
      refine va_get (D := G) (ci := 4) (v := .int 0) (C := RX4) (T := TX4) (N := 7) hx hb hts inB4 hown hE.1 hP 1 rfl rfl 4 (by decide) (hts _ m_363) (fun _ h9 => h9) rfl dX4_read_73 ?_
      refine lv_if_ge (tgt := 86) hx hb dX4_read_76 (by decide) (fun _ => ?_) (fun h9 => absurd h9 (by decide))
      refine lv_bipush (v := (-10)) hx hb dX4_read_86 (by decide) ?_
      refine lv_aload_n hx hb dX4_read_88 rfl (lv_at hl 0 rfl) ?_
      refine va_get (D := G) (ci := 4) (v := .int 0) (C := RX4) (T := TX4) (N := 7) hx hb hts inB4 hown hE.1 hP 1 rfl rfl 4 (by decide) (hts _ m_363) (fun _ h9 => h9) rfl dX4_read_89 ?_
      refine lv_isub hx hb dX4_read_92 ?_
      refine tp (v := (-10)) (by decide) ?_
      have hP9 := P_cut (wc := [(ta, .inr (5, [.ref rta, .int 0]))]) hP [2] rfl
      have hD9 := hD.sub (ws' := [(ta, .inr (5, [.ref rta, .int 0]))]) [2] (by decide) rfl
      refine W.widen (k := 0) (n := 0) (by first | exact Nat.le_of_ble_eq_true rfl | omega) (by first | exact Nat.le_of_ble_eq_true rfl | omega) ?_
      exact W.iret (v := (-10)) hx hb hr (fun t ht hW => ⟨⟨(-10), (), rfl, rfl, by dsimp only; rw [ht]; exact ⟨hP9, hD9⟩⟩, hS.F ht⟩) hS.2.2 dX4_read_93
  · refine va_ldcS hx hb hown (hE.2.2.2.1 1 _ rfl) dX4_read_10 ?_
    refine lv_goto (tgt := 27) hx hb dX4_read_12 (by decide) ?_
    refine va_put (D := G) (ci := 4) (v := .ref (sk 1)) (ty := (.object "java/lang/String")) (C := RX4) (T := TX4) (N := 7) hx hb hts inB4 tyX4 tyX4_ok nmX4 hown hE.1 hP hD hS 0 rfl rfl 2 (by decide) (hts _ m_361) (fun _ h9 => h9) rfl (by decide +kernel) rfl rfl (Nat.le_of_ble_eq_true rfl) dX4_read_27 (fun H locs hP hD hS => ?_)
    have hP : va_P G classes [(re, .inr (4, [.ref dr, .ref ta, .ref (sk 1), .int 0, .int (-1), .int 0, .int 0])), (dr, .inr (1, [.ref co, .ref ck, .int 0])), (ta, .inr (5, [.ref rta, .int 0]))] H := hP
    have hD : va_D A [(re, .inr (4, [.ref dr, .ref ta, .ref (sk 1), .int 0, .int (-1), .int 0, .int 0])), (dr, .inr (1, [.ref co, .ref ck, .int 0])), (ta, .inr (5, [.ref rta, .int 0]))] := hD
    refine lv_aload_n hx hb dX4_read_30 rfl (lv_at hl 0 rfl) ?_
    refine lv_iconst (v := 0) hx hb dX4_read_31 (by decide) ?_
    refine va_put (D := G) (ci := 4) (v := .int 0) (ty := .int) (C := RX4) (T := TX4) (N := 7) hx hb hts inB4 tyX4 tyX4_ok nmX4 hown hE.1 hP hD hS 0 rfl rfl 3 (by decide) (hts _ m_362) (fun _ h9 => h9) rfl (by decide +kernel) rfl rfl (Nat.le_of_ble_eq_true rfl) dX4_read_32 (fun H locs hP hD hS => ?_)
    have hP : va_P G classes [(re, .inr (4, [.ref dr, .ref ta, .ref (sk 1), .int 0, .int (-1), .int 0, .int 0])), (dr, .inr (1, [.ref co, .ref ck, .int 0])), (ta, .inr (5, [.ref rta, .int 0]))] H := hP
    have hD : va_D A [(re, .inr (4, [.ref dr, .ref ta, .ref (sk 1), .int 0, .int (-1), .int 0, .int 0])), (dr, .inr (1, [.ref co, .ref ck, .int 0])), (ta, .inr (5, [.ref rta, .int 0]))] := hD
    refine lv_aload_n hx hb dX4_read_35 rfl (lv_at hl 0 rfl) ?_
    refine lv_iconst (v := (-1)) hx hb dX4_read_36 (by decide) ?_
    refine va_put (D := G) (ci := 4) (v := .int (-1)) (ty := .int) (C := RX4) (T := TX4) (N := 7) hx hb hts inB4 tyX4 tyX4_ok nmX4 hown hE.1 hP hD hS 0 rfl rfl 4 (by decide) (hts _ m_363) (fun _ h9 => h9) rfl (by decide +kernel) rfl rfl (Nat.le_of_ble_eq_true rfl) dX4_read_37 (fun H locs hP hD hS => ?_)
    have hP : va_P G classes [(re, .inr (4, [.ref dr, .ref ta, .ref (sk 1), .int 0, .int (-1), .int 0, .int 0])), (dr, .inr (1, [.ref co, .ref ck, .int 0])), (ta, .inr (5, [.ref rta, .int 0]))] H := hP
    have hD : va_D A [(re, .inr (4, [.ref dr, .ref ta, .ref (sk 1), .int 0, .int (-1), .int 0, .int 0])), (dr, .inr (1, [.ref co, .ref ck, .int 0])), (ta, .inr (5, [.ref rta, .int 0]))] := hD
    refine lv_aload_n hx hb dX4_read_40 rfl (lv_at hl 0 rfl) ?_
    refine lv_iconst (v := 0) hx hb dX4_read_41 (by decide) ?_
    refine va_put (D := G) (ci := 4) (v := .int 0) (ty := .int) (C := RX4) (T := TX4) (N := 7) hx hb hts inB4 tyX4 tyX4_ok nmX4 hown hE.1 hP hD hS 0 rfl rfl 5 (by decide) (hts _ m_364) (fun _ h9 => h9) rfl (by decide +kernel) rfl rfl (Nat.le_of_ble_eq_true rfl) dX4_read_42 (fun H locs hP hD hS => ?_)
    have hP : va_P G classes [(re, .inr (4, [.ref dr, .ref ta, .ref (sk 1), .int 0, .int (-1), .int 0, .int 0])), (dr, .inr (1, [.ref co, .ref ck, .int 0])), (ta, .inr (5, [.ref rta, .int 0]))] H := hP
    have hD : va_D A [(re, .inr (4, [.ref dr, .ref ta, .ref (sk 1), .int 0, .int (-1), .int 0, .int 0])), (dr, .inr (1, [.ref co, .ref ck, .int 0])), (ta, .inr (5, [.ref rta, .int 0]))] := hD
    refine lv_aload_n hx hb dX4_read_45 rfl (lv_at hl 0 rfl) ?_
    refine lv_iconst (v := 0) hx hb dX4_read_46 (by decide) ?_
    refine va_put (D := G) (ci := 4) (v := .int 0) (ty := .int) (C := RX4) (T := TX4) (N := 7) hx hb hts inB4 tyX4 tyX4_ok nmX4 hown hE.1 hP hD hS 0 rfl rfl 6 (by decide) (hts _ m_365) (fun _ h9 => h9) rfl (by decide +kernel) rfl rfl (Nat.le_of_ble_eq_true rfl) dX4_read_47 (fun H locs hP hD hS => ?_)
    have hP : va_P G classes [(re, .inr (4, [.ref dr, .ref ta, .ref (sk 1), .int 0, .int (-1), .int 0, .int 0])), (dr, .inr (1, [.ref co, .ref ck, .int 0])), (ta, .inr (5, [.ref rta, .int 0]))] H := hP
    have hD : va_D A [(re, .inr (4, [.ref dr, .ref ta, .ref (sk 1), .int 0, .int (-1), .int 0, .int 0])), (dr, .inr (1, [.ref co, .ref ck, .int 0])), (ta, .inr (5, [.ref rta, .int 0]))] := hD
    refine lv_aload_n hx hb dX4_read_50 rfl (lv_at hl 0 rfl) ?_
    refine va_get (D := G) (ci := 4) (v := .ref dr) (C := RX4) (T := TX4) (N := 7) hx hb hts inB4 hown hE.1 hP 0 rfl rfl 0 (by decide) (hts _ m_358) (fun _ h9 => h9) rfl dX4_read_51 ?_
    refine wVv (B := (B_c_X1_clear G cy (va_A [(dr, .inr (1, [.ref co, .ref ck, .int 0]))] H.size) dr co ck 0)) (wr := [(re, .inr (4, [.ref dr, .ref ta, .ref (sk 1), .int 0, .int (-1), .int 0, .int 0])), (ta, .inr (5, [.ref rta, .int 0]))]) (rest := []) hx hb hml hown hts hE (c_X1_clear l G cy sk H.size dr co ck 0) kV_X1_clear m_688 rfl rfl ⟨(Nat.le_of_ble_eq_true rfl), (Nat.le_of_ble_eq_true rfl)⟩ hP hD hS hA 1 rfl rfl rfl [1] [0, 2] rfl rfl rfl rfl (by decide) rfl rfl hl.1 (Nat.le_of_ble_eq_true rfl) dX4_read_54 ⟨(Nat.le_of_ble_eq_true rfl), (Nat.le_of_ble_eq_true rfl)⟩ (fun H locs haf hS => ?_)
    obtain ⟨hP1, hD1⟩ := haf.1
    obtain ⟨hP, hD⟩ := haf.2.1 _ hP1 hD1
    have hP : va_P G classes [(re, .inr (4, [.ref dr, .ref ta, .ref (sk 1), .int 0, .int (-1), .int 0, .int 0])), (ta, .inr (5, [.ref rta, .int 0])), (dr, .inr (1, [.ref co, .ref ck, .int 0]))] H := hP
    have hD : va_D A [(re, .inr (4, [.ref dr, .ref ta, .ref (sk 1), .int 0, .int (-1), .int 0, .int 0])), (ta, .inr (5, [.ref rta, .int 0])), (dr, .inr (1, [.ref co, .ref ck, .int 0]))] := hD
    refine lv_aload_n hx hb dX4_read_57 rfl (lv_at hl 0 rfl) ?_
    refine wVv (B := (B_c_X4_readComparisons G cy (va_A [(re, .inr (4, [.ref dr, .ref ta, .ref (sk 1), .int 0, .int (-1), .int 0, .int 0])), (ta, .inr (5, [.ref rta, .int 0]))] H.size) re dr ta (sk 1) rta)) (wr := [(dr, .inr (1, [.ref co, .ref ck, .int 0]))]) (rest := []) hx hb hml hown hts hE (c_X4_readComparisons l G cy sk H.size re dr ta (sk 1) rta) kV_X4_readComparisons m_692 rfl rfl ⟨(Nat.le_of_ble_eq_true rfl), (Nat.le_of_ble_eq_true rfl)⟩ hP hD hS hA 0 rfl rfl rfl [0, 1] [2] rfl rfl rfl rfl (by decide) rfl rfl hl.1 (Nat.le_of_ble_eq_true rfl) dX4_read_58 ⟨(Nat.le_of_ble_eq_true rfl), (Nat.le_of_ble_eq_true rfl)⟩ (fun H locs haf hS => ?_)
    obtain ⟨hP1, hD1⟩ := haf.1
    obtain ⟨hP, hD⟩ := haf.2.1 _ hP1 hD1
    have hP : va_P G classes [(dr, .inr (1, [.ref co, .ref ck, .int 0])), (re, .inr (4, [.ref dr, .ref ta, .ref (sk 1), .int 0, .int 0, .int 0, .int 0])), (ta, .inr (5, [.ref rta, .int 0]))] H := hP
    have hD : va_D A [(dr, .inr (1, [.ref co, .ref ck, .int 0])), (re, .inr (4, [.ref dr, .ref ta, .ref (sk 1), .int 0, .int 0, .int 0, .int 0])), (ta, .inr (5, [.ref rta, .int 0]))] := hD
    refine lv_aload_n hx hb dX4_read_61 rfl (lv_at hl 0 rfl) ?_
    refine rV (rest := []) hx hb hml hown hts hE (c_X4_next l G cy sk H.size re dr ta (sk 1) rta 0) kV_X4_next m_708 rfl rfl ⟨(Nat.le_of_ble_eq_true rfl), (Nat.le_of_ble_eq_true rfl)⟩ hP hD 1 rfl rfl rfl [1, 2] rfl rfl rfl rfl hl.1 (Nat.le_of_ble_eq_true rfl) dX4_read_62 ⟨(Nat.le_of_ble_eq_true rfl), (Nat.le_of_ble_eq_true rfl)⟩ (fun r_11 hr_ => ?_)
    subst hr_
    refine lv_if_lt (tgt := 72) hx hb dX4_read_65 (by decide) (fun _ => ?_) (fun h9 => absurd h9 (by decide))
    refine lv_aload_n hx hb dX4_read_72 rfl (lv_at hl 0 rfl) ?_
    refine va_get (D := G) (ci := 4) (v := .int 0) (C := RX4) (T := TX4) (N := 7) hx hb hts inB4 hown hE.1 hP 1 rfl rfl 4 (by decide) (hts _ m_363) (fun _ h9 => h9) rfl dX4_read_73 ?_
    refine lv_if_ge (tgt := 86) hx hb dX4_read_76 (by decide) (fun _ => ?_) (fun h9 => absurd h9 (by decide))
    refine lv_bipush (v := (-10)) hx hb dX4_read_86 (by decide) ?_
    refine lv_aload_n hx hb dX4_read_88 rfl (lv_at hl 0 rfl) ?_
    refine va_get (D := G) (ci := 4) (v := .int 0) (C := RX4) (T := TX4) (N := 7) hx hb hts inB4 hown hE.1 hP 1 rfl rfl 4 (by decide) (hts _ m_363) (fun _ h9 => h9) rfl dX4_read_89 ?_
    refine lv_isub hx hb dX4_read_92 ?_
    refine tp (v := (-10)) (by decide) ?_
    have hP9 := P_cut (wc := [(ta, .inr (5, [.ref rta, .int 0]))]) hP [2] rfl
    have hD9 := hD.sub (ws' := [(ta, .inr (5, [.ref rta, .int 0]))]) [2] (by decide) rfl
    refine W.widen (k := 0) (n := 0) (by first | exact Nat.le_of_ble_eq_true rfl | omega) (by first | exact Nat.le_of_ble_eq_true rfl | omega) ?_
    exact W.iret (v := (-10)) hx hb hr (fun t ht hW => ⟨⟨(-10), (), rfl, rfl, by dsimp only; rw [ht]; exact ⟨hP9, hD9⟩⟩, hS.F ht⟩) hS.2.2 dX4_read_93
def B_c_X4_init (G : va_G) (cy : Nat → ClassId) (A : Nat → Prop) (h0 : Nat) (H : Heap) : Prop := ∃ (dr : Nat) (t0 : Nat) (nm : Nat) (co : Nat) (ck : Nat), va_P G classes [(h0, .inr (4, [.ref dr, .ref t0, .ref nm, .int 0, .int (-1), .int 0, .int 0])), (dr, .inr (1, [.ref co, .ref ck, .int 0]))] H ∧ va_D A [(h0, .inr (4, [.ref dr, .ref t0, .ref nm, .int 0, .int (-1), .int 0, .int 0])), (dr, .inr (1, [.ref co, .ref ck, .int 0]))]
set_option maxHeartbeats 4000000 in
set_option maxRecDepth 100000 in
theorem c_X4_init (l : Launch) (G : va_G) (cy : Nat → ClassId) (sk : Nat → Nat) (sz : Nat) (h0 : Nat)  : Met l yX4_init (wsO yX4_init cX4_init 1 none) ({ frames := 2, cells := 5, slots := 201, locals := 35 }) (va_Pc [.ref h0] (PR G cy sk sz [(h0, .inr (4, [.null, .null, .null, .int 0, .int 0, .int 0, .int 0]))])) (va_Qv (fun (_ : Unit) => True) (fun _ t => B_c_X4_init G cy (va_A [(h0, .inr (4, [.null, .null, .null, .int 0, .int 0, .int 0, .int 0]))] sz) h0 t.heap) (va_A [(h0, .inr (4, [.null, .null, .null, .int 0, .int 0, .int 0, .int 0]))] sz)) 5 201 (va_A [(h0, .inr (4, [.null, .null, .null, .int 0, .int 0, .int 0, .int 0]))] sz) := by
  refine mt (by decide) (Nat.le_of_ble_eq_true rfl) ?_
  intro p e s m below meth c ls hx hb hr hml hts hown hlocks hin hsz hP hE hD hl
  subst hsz
  have hl : lv_has ls 1 [(0, .ref h0)] := hl
  have hD := hD.self (sz := s.heap.size)
  generalize hAe : va_A [(h0, .inr (4, [.null, .null, .null, .int 0, .int 0, .int 0, .int 0]))] s.heap.size = A at hD ⊢
  have hA : ∀ q : Nat, s.heap.size ≤ q → A q := fun q h => by rw [← hAe]; exact Or.inr h
  have hS : va_S A s.heap s.heap [] := va_S.rf
  refine lv_aload_n hx hb dX4_init_0 rfl (lv_at hl 0 rfl) ?_
  refine W.objInit hx hb hown (hts _ m_352) (hts _ m_107) (hts _ m_108) rfl (by rw [hml]; exact hl.1) rfl dX4_init_1 (Nat.le_of_ble_eq_true rfl) (Nat.le_of_ble_eq_true rfl) ?_
  refine W.eq (g2 := F0 m 4 ls []) rfl ?_
  refine lv_aload_n hx hb dX4_init_4 rfl (lv_at hl 0 rfl) ?_
  refine va_new (ci := 1) (fs := [.null, .null, .int 0]) (C := RX1) (T := TX1) (N := 3) hx hb hts inB1 tyX1 tyX1_ok hown (hts _ m_353) (hts _ m_155) (hts _ m_83) hE.1 hP hD hS hA rfl df1 (Nat.le_of_ble_eq_true rfl) (Nat.le_of_ble_eq_true rfl) dX4_init_5 (fun nq1 H hP hD hS => ?_)
  have hP : va_P G classes [(h0, .inr (4, [.null, .null, .null, .int 0, .int 0, .int 0, .int 0])), (nq1, .inr (1, [.null, .null, .int 0]))] H := hP
  have hD : va_D A [(h0, .inr (4, [.null, .null, .null, .int 0, .int 0, .int 0, .int 0])), (nq1, .inr (1, [.null, .null, .int 0]))] := hD
  refine lv_dup hx hb dX4_init_8 rfl ?_
  refine wIN (B := (B_c_X1_init G cy (va_A [(nq1, .inr (1, [.null, .null, .int 0]))] H.size) nq1)) (wr := [(h0, .inr (4, [.null, .null, .null, .int 0, .int 0, .int 0, .int 0]))]) (rest := [.ref nq1, .ref h0]) (host := "ClickStreet") hx hb hml hown hts hE (c_X1_init l G cy sk H.size nq1) kI_X1_init (by decide +kernel) rfl rfl ⟨(Nat.le_of_ble_eq_true rfl), (Nat.le_of_ble_eq_true rfl)⟩ hP hD hS hA [1] [0] rfl rfl rfl rfl (by decide) rfl rfl hl.1 (Nat.le_of_ble_eq_true rfl) dX4_init_9 ⟨(Nat.le_of_ble_eq_true rfl), (Nat.le_of_ble_eq_true rfl)⟩ (fun H locs haf hS => ?_)
  obtain ⟨xq3, xq4, hP1, hD1⟩ := haf.1
  obtain ⟨hP, hD⟩ := haf.2.1 _ hP1 hD1
  have hP : va_P G classes [(h0, .inr (4, [.null, .null, .null, .int 0, .int 0, .int 0, .int 0])), (nq1, .inr (1, [.ref xq3, .ref xq4, .int 0])), (xq3, .inl (cy 0, 48, .inl (fun _ => 0)))] H := hP
  have hD : va_D A [(h0, .inr (4, [.null, .null, .null, .int 0, .int 0, .int 0, .int 0])), (nq1, .inr (1, [.ref xq3, .ref xq4, .int 0])), (xq3, .inl (cy 0, 48, .inl (fun _ => 0)))] := hD
  refine va_putF (D := G) (ci := 4) (v := .ref nq1) (ty := (.object "ClickStreet$Formula")) (C := RX4) (T := TX4) (N := 7) hx hb hts inB4 tyX4 tyX4_ok nmX4 hown hE.1 hP hD hS 0 rfl rfl 0 (by decide) (hts _ m_358) (fun _ h9 => h9) rfl hin rfl (by decide +kernel) rfl rfl (Nat.le_of_ble_eq_true rfl) dX4_init_12 (fun H locs hP hD hS => ?_)
  have hP : va_P G classes [(h0, .inr (4, [.ref nq1, .null, .null, .int 0, .int 0, .int 0, .int 0])), (nq1, .inr (1, [.ref xq3, .ref xq4, .int 0])), (xq3, .inl (cy 0, 48, .inl (fun _ => 0)))] H := hP
  have hD : va_D A [(h0, .inr (4, [.ref nq1, .null, .null, .int 0, .int 0, .int 0, .int 0])), (nq1, .inr (1, [.ref xq3, .ref xq4, .int 0])), (xq3, .inl (cy 0, 48, .inl (fun _ => 0)))] := hD
  refine lv_aload_n hx hb dX4_init_15 rfl (lv_at hl 0 rfl) ?_
  refine va_new (ci := 5) (fs := [.null, .int 0]) (C := RX5) (T := TX5) (N := 2) hx hb hts inB5 tyX5 tyX5_ok hown (hts _ m_355) (hts _ m_200) (hts _ m_85) hE.1 hP hD hS hA rfl df5 (Nat.le_of_ble_eq_true rfl) (Nat.le_of_ble_eq_true rfl) dX4_init_16 (fun nq5 H hP hD hS => ?_)
  have hP : va_P G classes [(h0, .inr (4, [.ref nq1, .null, .null, .int 0, .int 0, .int 0, .int 0])), (nq1, .inr (1, [.ref xq3, .ref xq4, .int 0])), (xq3, .inl (cy 0, 48, .inl (fun _ => 0))), (nq5, .inr (5, [.null, .int 0]))] H := hP
  have hD : va_D A [(h0, .inr (4, [.ref nq1, .null, .null, .int 0, .int 0, .int 0, .int 0])), (nq1, .inr (1, [.ref xq3, .ref xq4, .int 0])), (xq3, .inl (cy 0, 48, .inl (fun _ => 0))), (nq5, .inr (5, [.null, .int 0]))] := hD
  refine lv_dup hx hb dX4_init_19 rfl ?_
  refine lv_iconst (v := 0) hx hb dX4_init_20 (by decide) ?_
  refine wI (B := (B_c_X5_init G cy (va_A [(nq5, .inr (5, [.null, .int 0]))] H.size) nq5 0 0)) (wr := [(h0, .inr (4, [.ref nq1, .null, .null, .int 0, .int 0, .int 0, .int 0])), (nq1, .inr (1, [.ref xq3, .ref xq4, .int 0])), (xq3, .inl (cy 0, 48, .inl (fun _ => 0)))]) (rest := [.ref nq5, .ref h0]) hx hb hml hown hts hE (c_X5_init l G cy sk H.size nq5 0 0 rfl (by decide)) kI_X5_init m_356 rfl rfl ⟨(Nat.le_of_ble_eq_true rfl), (Nat.le_of_ble_eq_true rfl)⟩ hP hD hS hA [3] [0, 1, 2] rfl rfl rfl rfl (by decide) rfl rfl hl.1 (Nat.le_of_ble_eq_true rfl) dX4_init_21 ⟨(Nat.le_of_ble_eq_true rfl), (Nat.le_of_ble_eq_true rfl)⟩ (fun H locs haf hS => ?_)
  obtain ⟨xq7, hP1, hD1⟩ := haf.1
  obtain ⟨hP, hD⟩ := haf.2.1 _ hP1 hD1
  have hP : va_P G classes [(h0, .inr (4, [.ref nq1, .null, .null, .int 0, .int 0, .int 0, .int 0])), (nq1, .inr (1, [.ref xq3, .ref xq4, .int 0])), (xq3, .inl (cy 0, 48, .inl (fun _ => 0))), (nq5, .inr (5, [.ref xq7, .int 0])), (xq7, .inl (cy 0, 0, .inl (fun _ => 0)))] H := hP
  have hD : va_D A [(h0, .inr (4, [.ref nq1, .null, .null, .int 0, .int 0, .int 0, .int 0])), (nq1, .inr (1, [.ref xq3, .ref xq4, .int 0])), (xq3, .inl (cy 0, 48, .inl (fun _ => 0))), (nq5, .inr (5, [.ref xq7, .int 0])), (xq7, .inl (cy 0, 0, .inl (fun _ => 0)))] := hD
  refine va_put (D := G) (ci := 4) (v := .ref nq5) (ty := (.object "ClickStreet$Row")) (C := RX4) (T := TX4) (N := 7) hx hb hts inB4 tyX4 tyX4_ok nmX4 hown hE.1 hP hD hS 0 rfl rfl 1 (by decide) (hts _ m_360) (fun _ h9 => h9) rfl (by decide +kernel) rfl rfl (Nat.le_of_ble_eq_true rfl) dX4_init_24 (fun H locs hP hD hS => ?_)
  have hP : va_P G classes [(h0, .inr (4, [.ref nq1, .ref nq5, .null, .int 0, .int 0, .int 0, .int 0])), (nq1, .inr (1, [.ref xq3, .ref xq4, .int 0])), (xq3, .inl (cy 0, 48, .inl (fun _ => 0))), (nq5, .inr (5, [.ref xq7, .int 0])), (xq7, .inl (cy 0, 0, .inl (fun _ => 0)))] H := hP
  have hD : va_D A [(h0, .inr (4, [.ref nq1, .ref nq5, .null, .int 0, .int 0, .int 0, .int 0])), (nq1, .inr (1, [.ref xq3, .ref xq4, .int 0])), (xq3, .inl (cy 0, 48, .inl (fun _ => 0))), (nq5, .inr (5, [.ref xq7, .int 0])), (xq7, .inl (cy 0, 0, .inl (fun _ => 0)))] := hD
  refine lv_aload_n hx hb dX4_init_27 rfl (lv_at hl 0 rfl) ?_
  refine va_ldcS hx hb hown (hE.2.2.2.1 0 _ rfl) dX4_init_28 ?_
  refine va_put (D := G) (ci := 4) (v := .ref (sk 0)) (ty := (.object "java/lang/String")) (C := RX4) (T := TX4) (N := 7) hx hb hts inB4 tyX4 tyX4_ok nmX4 hown hE.1 hP hD hS 0 rfl rfl 2 (by decide) (hts _ m_361) (fun _ h9 => h9) rfl (by decide +kernel) rfl rfl (Nat.le_of_ble_eq_true rfl) dX4_init_30 (fun H locs hP hD hS => ?_)
  have hP : va_P G classes [(h0, .inr (4, [.ref nq1, .ref nq5, .ref (sk 0), .int 0, .int 0, .int 0, .int 0])), (nq1, .inr (1, [.ref xq3, .ref xq4, .int 0])), (xq3, .inl (cy 0, 48, .inl (fun _ => 0))), (nq5, .inr (5, [.ref xq7, .int 0])), (xq7, .inl (cy 0, 0, .inl (fun _ => 0)))] H := hP
  have hD : va_D A [(h0, .inr (4, [.ref nq1, .ref nq5, .ref (sk 0), .int 0, .int 0, .int 0, .int 0])), (nq1, .inr (1, [.ref xq3, .ref xq4, .int 0])), (xq3, .inl (cy 0, 48, .inl (fun _ => 0))), (nq5, .inr (5, [.ref xq7, .int 0])), (xq7, .inl (cy 0, 0, .inl (fun _ => 0)))] := hD
  refine lv_aload_n hx hb dX4_init_33 rfl (lv_at hl 0 rfl) ?_
  refine lv_iconst (v := 0) hx hb dX4_init_34 (by decide) ?_
  refine va_put (D := G) (ci := 4) (v := .int 0) (ty := .int) (C := RX4) (T := TX4) (N := 7) hx hb hts inB4 tyX4 tyX4_ok nmX4 hown hE.1 hP hD hS 0 rfl rfl 3 (by decide) (hts _ m_362) (fun _ h9 => h9) rfl (by decide +kernel) rfl rfl (Nat.le_of_ble_eq_true rfl) dX4_init_35 (fun H locs hP hD hS => ?_)
  have hP : va_P G classes [(h0, .inr (4, [.ref nq1, .ref nq5, .ref (sk 0), .int 0, .int 0, .int 0, .int 0])), (nq1, .inr (1, [.ref xq3, .ref xq4, .int 0])), (xq3, .inl (cy 0, 48, .inl (fun _ => 0))), (nq5, .inr (5, [.ref xq7, .int 0])), (xq7, .inl (cy 0, 0, .inl (fun _ => 0)))] H := hP
  have hD : va_D A [(h0, .inr (4, [.ref nq1, .ref nq5, .ref (sk 0), .int 0, .int 0, .int 0, .int 0])), (nq1, .inr (1, [.ref xq3, .ref xq4, .int 0])), (xq3, .inl (cy 0, 48, .inl (fun _ => 0))), (nq5, .inr (5, [.ref xq7, .int 0])), (xq7, .inl (cy 0, 0, .inl (fun _ => 0)))] := hD
  refine lv_aload_n hx hb dX4_init_38 rfl (lv_at hl 0 rfl) ?_
  refine lv_iconst (v := (-1)) hx hb dX4_init_39 (by decide) ?_
  refine va_put (D := G) (ci := 4) (v := .int (-1)) (ty := .int) (C := RX4) (T := TX4) (N := 7) hx hb hts inB4 tyX4 tyX4_ok nmX4 hown hE.1 hP hD hS 0 rfl rfl 4 (by decide) (hts _ m_363) (fun _ h9 => h9) rfl (by decide +kernel) rfl rfl (Nat.le_of_ble_eq_true rfl) dX4_init_40 (fun H locs hP hD hS => ?_)
  have hP : va_P G classes [(h0, .inr (4, [.ref nq1, .ref nq5, .ref (sk 0), .int 0, .int (-1), .int 0, .int 0])), (nq1, .inr (1, [.ref xq3, .ref xq4, .int 0])), (xq3, .inl (cy 0, 48, .inl (fun _ => 0))), (nq5, .inr (5, [.ref xq7, .int 0])), (xq7, .inl (cy 0, 0, .inl (fun _ => 0)))] H := hP
  have hD : va_D A [(h0, .inr (4, [.ref nq1, .ref nq5, .ref (sk 0), .int 0, .int (-1), .int 0, .int 0])), (nq1, .inr (1, [.ref xq3, .ref xq4, .int 0])), (xq3, .inl (cy 0, 48, .inl (fun _ => 0))), (nq5, .inr (5, [.ref xq7, .int 0])), (xq7, .inl (cy 0, 0, .inl (fun _ => 0)))] := hD
  refine lv_aload_n hx hb dX4_init_43 rfl (lv_at hl 0 rfl) ?_
  refine lv_iconst (v := 0) hx hb dX4_init_44 (by decide) ?_
  refine va_put (D := G) (ci := 4) (v := .int 0) (ty := .int) (C := RX4) (T := TX4) (N := 7) hx hb hts inB4 tyX4 tyX4_ok nmX4 hown hE.1 hP hD hS 0 rfl rfl 5 (by decide) (hts _ m_364) (fun _ h9 => h9) rfl (by decide +kernel) rfl rfl (Nat.le_of_ble_eq_true rfl) dX4_init_45 (fun H locs hP hD hS => ?_)
  have hP : va_P G classes [(h0, .inr (4, [.ref nq1, .ref nq5, .ref (sk 0), .int 0, .int (-1), .int 0, .int 0])), (nq1, .inr (1, [.ref xq3, .ref xq4, .int 0])), (xq3, .inl (cy 0, 48, .inl (fun _ => 0))), (nq5, .inr (5, [.ref xq7, .int 0])), (xq7, .inl (cy 0, 0, .inl (fun _ => 0)))] H := hP
  have hD : va_D A [(h0, .inr (4, [.ref nq1, .ref nq5, .ref (sk 0), .int 0, .int (-1), .int 0, .int 0])), (nq1, .inr (1, [.ref xq3, .ref xq4, .int 0])), (xq3, .inl (cy 0, 48, .inl (fun _ => 0))), (nq5, .inr (5, [.ref xq7, .int 0])), (xq7, .inl (cy 0, 0, .inl (fun _ => 0)))] := hD
  refine lv_aload_n hx hb dX4_init_48 rfl (lv_at hl 0 rfl) ?_
  refine lv_iconst (v := 0) hx hb dX4_init_49 (by decide) ?_
  refine va_put (D := G) (ci := 4) (v := .int 0) (ty := .int) (C := RX4) (T := TX4) (N := 7) hx hb hts inB4 tyX4 tyX4_ok nmX4 hown hE.1 hP hD hS 0 rfl rfl 6 (by decide) (hts _ m_365) (fun _ h9 => h9) rfl (by decide +kernel) rfl rfl (Nat.le_of_ble_eq_true rfl) dX4_init_50 (fun H locs hP hD hS => ?_)
  have hP : va_P G classes [(h0, .inr (4, [.ref nq1, .ref nq5, .ref (sk 0), .int 0, .int (-1), .int 0, .int 0])), (nq1, .inr (1, [.ref xq3, .ref xq4, .int 0])), (xq3, .inl (cy 0, 48, .inl (fun _ => 0))), (nq5, .inr (5, [.ref xq7, .int 0])), (xq7, .inl (cy 0, 0, .inl (fun _ => 0)))] H := hP
  have hD : va_D A [(h0, .inr (4, [.ref nq1, .ref nq5, .ref (sk 0), .int 0, .int (-1), .int 0, .int 0])), (nq1, .inr (1, [.ref xq3, .ref xq4, .int 0])), (xq3, .inl (cy 0, 48, .inl (fun _ => 0))), (nq5, .inr (5, [.ref xq7, .int 0])), (xq7, .inl (cy 0, 0, .inl (fun _ => 0)))] := hD
  have hP9 := P_cut (wc := [(h0, .inr (4, [.ref nq1, .ref nq5, .ref (sk 0), .int 0, .int (-1), .int 0, .int 0])), (nq1, .inr (1, [.ref xq3, .ref xq4, .int 0]))]) hP [0, 1] rfl
  have hD9 := hD.sub (ws' := [(h0, .inr (4, [.ref nq1, .ref nq5, .ref (sk 0), .int 0, .int (-1), .int 0, .int 0])), (nq1, .inr (1, [.ref xq3, .ref xq4, .int 0]))]) [0, 1] (by decide) rfl
  refine W.widen (k := 5) (n := 201) (by first | exact Nat.le_of_ble_eq_true rfl | omega) (by first | exact Nat.le_of_ble_eq_true rfl | omega) ?_
  exact W.vret hx hb hr (fun t ht hW => ⟨⟨(), rfl, trivial, by dsimp only; rw [ht]; exact ⟨nq1, nq5, (sk 0), xq3, xq4, hP9, hD9⟩⟩, hS.F ht⟩) hS.2.2 dX4_init_53
set_option maxHeartbeats 4000000 in
set_option maxRecDepth 100000 in
theorem c_X0_init (l : Launch) (G : va_G) (cy : Nat → ClassId) (sk : Nat → Nat) (sz : Nat) (h0 : Nat)  : Met l yX0_init (wsO yX0_init cX0_init 1 none) ({ frames := 1, cells := 4, slots := 416, locals := 12 }) (va_Pc [.ref h0] (PR G cy sk sz [(h0, .inr (0, [.null, .null, .null, .null, .int 0, .int 0]))])) (va_Qv (fun (_ : Unit) => True) (fun _ _ => True) (va_A [(h0, .inr (0, [.null, .null, .null, .null, .int 0, .int 0]))] sz)) 4 416 (va_A [(h0, .inr (0, [.null, .null, .null, .null, .int 0, .int 0]))] sz) := by
  refine mt (by decide) (Nat.le_of_ble_eq_true rfl) ?_
  intro p e s m below meth c ls hx hb hr hml hts hown hlocks hin hsz hP hE hD hl
  subst hsz
  have hl : lv_has ls 1 [(0, .ref h0)] := hl
  have hD := hD.self (sz := s.heap.size)
  generalize hAe : va_A [(h0, .inr (0, [.null, .null, .null, .null, .int 0, .int 0]))] s.heap.size = A at hD ⊢
  have hA : ∀ q : Nat, s.heap.size ≤ q → A q := fun q h => by rw [← hAe]; exact Or.inr h
  have hS : va_S A s.heap s.heap [] := va_S.rf
  refine lv_aload_n hx hb dX0_init_0 rfl (lv_at hl 0 rfl) ?_
  refine W.objInit hx hb hown (hts _ m_387) (hts _ m_107) (hts _ m_108) rfl (by rw [hml]; exact hl.1) rfl dX0_init_1 (Nat.le_of_ble_eq_true rfl) (Nat.le_of_ble_eq_true rfl) ?_
  refine W.eq (g2 := F0 m 4 ls []) rfl ?_
  refine lv_aload_n hx hb dX0_init_4 rfl (lv_at hl 0 rfl) ?_
  refine lv_sipush (v := 192) hx hb dX0_init_5 (by decide) ?_
  refine nwI (n := 192) (N := 192) hx hb hts m_146 hE hP hD hS hA (by decide) (by decide) (Nat.le_of_ble_eq_true rfl) (Nat.le_of_ble_eq_true rfl) (Nat.le_of_ble_eq_true rfl) dX0_init_8 (fun nq1 H hP hD hS => ?_)
  have hP : va_P G classes [(h0, .inr (0, [.null, .null, .null, .null, .int 0, .int 0])), (nq1, .inl (cy 0, 192, .inl (fun _ => 0)))] H := hP
  have hD : va_D A [(h0, .inr (0, [.null, .null, .null, .null, .int 0, .int 0])), (nq1, .inl (cy 0, 192, .inl (fun _ => 0)))] := hD
  refine va_putF (D := G) (ci := 0) (v := .ref nq1) (ty := (.array .int)) (C := RX0) (T := TX0) (N := 6) hx hb hts inB0 tyX0 tyX0_ok nmX0 hown hE.1 hP hD hS 0 rfl rfl 0 (by decide) (hts _ m_388) (fun _ h9 => h9) rfl hin rfl (by decide +kernel) rfl rfl (Nat.le_of_ble_eq_true rfl) dX0_init_10 (fun H locs hP hD hS => ?_)
  have hP : va_P G classes [(h0, .inr (0, [.ref nq1, .null, .null, .null, .int 0, .int 0])), (nq1, .inl (cy 0, 192, .inl (fun _ => 0)))] H := hP
  have hD : va_D A [(h0, .inr (0, [.ref nq1, .null, .null, .null, .int 0, .int 0])), (nq1, .inl (cy 0, 192, .inl (fun _ => 0)))] := hD
  refine lv_aload_n hx hb dX0_init_13 rfl (lv_at hl 0 rfl) ?_
  refine lv_sipush (v := 192) hx hb dX0_init_14 (by decide) ?_
  refine nwZ (n := 192) (N := 192) hx hb hts m_409 hE hP hD hS hA (by decide) (by decide) (Nat.le_of_ble_eq_true rfl) (Nat.le_of_ble_eq_true rfl) (Nat.le_of_ble_eq_true rfl) dX0_init_17 (fun nq2 H hP hD hS => ?_)
  have hP : va_P G classes [(h0, .inr (0, [.ref nq1, .null, .null, .null, .int 0, .int 0])), (nq1, .inl (cy 0, 192, .inl (fun _ => 0))), (nq2, .inl (cy 1, 192, .inl (fun _ => 0)))] H := hP
  have hD : va_D A [(h0, .inr (0, [.ref nq1, .null, .null, .null, .int 0, .int 0])), (nq1, .inl (cy 0, 192, .inl (fun _ => 0))), (nq2, .inl (cy 1, 192, .inl (fun _ => 0)))] := hD
  refine va_putF (D := G) (ci := 0) (v := .ref nq2) (ty := (.array .boolean)) (C := RX0) (T := TX0) (N := 6) hx hb hts inB0 tyX0 tyX0_ok nmX0 hown hE.1 hP hD hS 0 rfl rfl 1 (by decide) (hts _ m_389) (fun _ h9 => h9) rfl hin rfl (by decide +kernel) rfl rfl (Nat.le_of_ble_eq_true rfl) dX0_init_19 (fun H locs hP hD hS => ?_)
  have hP : va_P G classes [(h0, .inr (0, [.ref nq1, .ref nq2, .null, .null, .int 0, .int 0])), (nq1, .inl (cy 0, 192, .inl (fun _ => 0))), (nq2, .inl (cy 1, 192, .inl (fun _ => 0)))] H := hP
  have hD : va_D A [(h0, .inr (0, [.ref nq1, .ref nq2, .null, .null, .int 0, .int 0])), (nq1, .inl (cy 0, 192, .inl (fun _ => 0))), (nq2, .inl (cy 1, 192, .inl (fun _ => 0)))] := hD
  refine lv_aload_n hx hb dX0_init_22 rfl (lv_at hl 0 rfl) ?_
  refine lv_bipush (v := 24) hx hb dX0_init_23 (by decide) ?_
  refine nwJ (n := 24) (N := 24) hx hb hts m_410 hE hP hD hS hA (by decide) (by decide) (Nat.le_of_ble_eq_true rfl) (Nat.le_of_ble_eq_true rfl) (Nat.le_of_ble_eq_true rfl) dX0_init_25 (fun nq3 H hP hD hS => ?_)
  have hP : va_P G classes [(h0, .inr (0, [.ref nq1, .ref nq2, .null, .null, .int 0, .int 0])), (nq1, .inl (cy 0, 192, .inl (fun _ => 0))), (nq2, .inl (cy 1, 192, .inl (fun _ => 0))), (nq3, .inl (cy 2, 24, .inr (.inl (fun _ => 0))))] H := hP
  have hD : va_D A [(h0, .inr (0, [.ref nq1, .ref nq2, .null, .null, .int 0, .int 0])), (nq1, .inl (cy 0, 192, .inl (fun _ => 0))), (nq2, .inl (cy 1, 192, .inl (fun _ => 0))), (nq3, .inl (cy 2, 24, .inr (.inl (fun _ => 0))))] := hD
  refine va_putF (D := G) (ci := 0) (v := .ref nq3) (ty := (.array .long)) (C := RX0) (T := TX0) (N := 6) hx hb hts inB0 tyX0 tyX0_ok nmX0 hown hE.1 hP hD hS 0 rfl rfl 2 (by decide) (hts _ m_390) (fun _ h9 => h9) rfl hin rfl (by decide +kernel) rfl rfl (Nat.le_of_ble_eq_true rfl) dX0_init_27 (fun H locs hP hD hS => ?_)
  have hP : va_P G classes [(h0, .inr (0, [.ref nq1, .ref nq2, .ref nq3, .null, .int 0, .int 0])), (nq1, .inl (cy 0, 192, .inl (fun _ => 0))), (nq2, .inl (cy 1, 192, .inl (fun _ => 0))), (nq3, .inl (cy 2, 24, .inr (.inl (fun _ => 0))))] H := hP
  have hD : va_D A [(h0, .inr (0, [.ref nq1, .ref nq2, .ref nq3, .null, .int 0, .int 0])), (nq1, .inl (cy 0, 192, .inl (fun _ => 0))), (nq2, .inl (cy 1, 192, .inl (fun _ => 0))), (nq3, .inl (cy 2, 24, .inr (.inl (fun _ => 0))))] := hD
  refine lv_aload_n hx hb dX0_init_30 rfl (lv_at hl 0 rfl) ?_
  refine lv_bipush (v := 8) hx hb dX0_init_31 (by decide) ?_
  refine nwI (n := 8) (N := 8) hx hb hts m_146 hE hP hD hS hA (by decide) (by decide) (Nat.le_of_ble_eq_true rfl) (Nat.le_of_ble_eq_true rfl) (Nat.le_of_ble_eq_true rfl) dX0_init_33 (fun nq4 H hP hD hS => ?_)
  have hP : va_P G classes [(h0, .inr (0, [.ref nq1, .ref nq2, .ref nq3, .null, .int 0, .int 0])), (nq1, .inl (cy 0, 192, .inl (fun _ => 0))), (nq2, .inl (cy 1, 192, .inl (fun _ => 0))), (nq3, .inl (cy 2, 24, .inr (.inl (fun _ => 0)))), (nq4, .inl (cy 0, 8, .inl (fun _ => 0)))] H := hP
  have hD : va_D A [(h0, .inr (0, [.ref nq1, .ref nq2, .ref nq3, .null, .int 0, .int 0])), (nq1, .inl (cy 0, 192, .inl (fun _ => 0))), (nq2, .inl (cy 1, 192, .inl (fun _ => 0))), (nq3, .inl (cy 2, 24, .inr (.inl (fun _ => 0)))), (nq4, .inl (cy 0, 8, .inl (fun _ => 0)))] := hD
  refine va_putF (D := G) (ci := 0) (v := .ref nq4) (ty := (.array .int)) (C := RX0) (T := TX0) (N := 6) hx hb hts inB0 tyX0 tyX0_ok nmX0 hown hE.1 hP hD hS 0 rfl rfl 3 (by decide) (hts _ m_391) (fun _ h9 => h9) rfl hin rfl (by decide +kernel) rfl rfl (Nat.le_of_ble_eq_true rfl) dX0_init_35 (fun H locs hP hD hS => ?_)
  have hP : va_P G classes [(h0, .inr (0, [.ref nq1, .ref nq2, .ref nq3, .ref nq4, .int 0, .int 0])), (nq1, .inl (cy 0, 192, .inl (fun _ => 0))), (nq2, .inl (cy 1, 192, .inl (fun _ => 0))), (nq3, .inl (cy 2, 24, .inr (.inl (fun _ => 0)))), (nq4, .inl (cy 0, 8, .inl (fun _ => 0)))] H := hP
  have hD : va_D A [(h0, .inr (0, [.ref nq1, .ref nq2, .ref nq3, .ref nq4, .int 0, .int 0])), (nq1, .inl (cy 0, 192, .inl (fun _ => 0))), (nq2, .inl (cy 1, 192, .inl (fun _ => 0))), (nq3, .inl (cy 2, 24, .inr (.inl (fun _ => 0)))), (nq4, .inl (cy 0, 8, .inl (fun _ => 0)))] := hD
  refine lv_aload_n hx hb dX0_init_38 rfl (lv_at hl 0 rfl) ?_
  refine lv_iconst (v := 0) hx hb dX0_init_39 (by decide) ?_
  refine va_put (D := G) (ci := 0) (v := .int 0) (ty := .int) (C := RX0) (T := TX0) (N := 6) hx hb hts inB0 tyX0 tyX0_ok nmX0 hown hE.1 hP hD hS 0 rfl rfl 4 (by decide) (hts _ m_392) (fun _ h9 => h9) rfl (by decide +kernel) rfl rfl (Nat.le_of_ble_eq_true rfl) dX0_init_40 (fun H locs hP hD hS => ?_)
  have hP : va_P G classes [(h0, .inr (0, [.ref nq1, .ref nq2, .ref nq3, .ref nq4, .int 0, .int 0])), (nq1, .inl (cy 0, 192, .inl (fun _ => 0))), (nq2, .inl (cy 1, 192, .inl (fun _ => 0))), (nq3, .inl (cy 2, 24, .inr (.inl (fun _ => 0)))), (nq4, .inl (cy 0, 8, .inl (fun _ => 0)))] H := hP
  have hD : va_D A [(h0, .inr (0, [.ref nq1, .ref nq2, .ref nq3, .ref nq4, .int 0, .int 0])), (nq1, .inl (cy 0, 192, .inl (fun _ => 0))), (nq2, .inl (cy 1, 192, .inl (fun _ => 0))), (nq3, .inl (cy 2, 24, .inr (.inl (fun _ => 0)))), (nq4, .inl (cy 0, 8, .inl (fun _ => 0)))] := hD
  refine lv_aload_n hx hb dX0_init_43 rfl (lv_at hl 0 rfl) ?_
  refine lv_iconst (v := 0) hx hb dX0_init_44 (by decide) ?_
  refine va_put (D := G) (ci := 0) (v := .int 0) (ty := .int) (C := RX0) (T := TX0) (N := 6) hx hb hts inB0 tyX0 tyX0_ok nmX0 hown hE.1 hP hD hS 0 rfl rfl 5 (by decide) (hts _ m_394) (fun _ h9 => h9) rfl (by decide +kernel) rfl rfl (Nat.le_of_ble_eq_true rfl) dX0_init_45 (fun H locs hP hD hS => ?_)
  have hP : va_P G classes [(h0, .inr (0, [.ref nq1, .ref nq2, .ref nq3, .ref nq4, .int 0, .int 0])), (nq1, .inl (cy 0, 192, .inl (fun _ => 0))), (nq2, .inl (cy 1, 192, .inl (fun _ => 0))), (nq3, .inl (cy 2, 24, .inr (.inl (fun _ => 0)))), (nq4, .inl (cy 0, 8, .inl (fun _ => 0)))] H := hP
  have hD : va_D A [(h0, .inr (0, [.ref nq1, .ref nq2, .ref nq3, .ref nq4, .int 0, .int 0])), (nq1, .inl (cy 0, 192, .inl (fun _ => 0))), (nq2, .inl (cy 1, 192, .inl (fun _ => 0))), (nq3, .inl (cy 2, 24, .inr (.inl (fun _ => 0)))), (nq4, .inl (cy 0, 8, .inl (fun _ => 0)))] := hD
  refine W.widen (k := 4) (n := 416) (by first | exact Nat.le_of_ble_eq_true rfl | omega) (by first | exact Nat.le_of_ble_eq_true rfl | omega) ?_
  exact W.vret hx hb hr (fun t ht hW => ⟨⟨(), rfl, trivial, trivial⟩, hS.F ht⟩) hS.2.2 dX0_init_48
