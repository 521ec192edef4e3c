def B_c_X5_init (G : va_G) (cy : Nat → ClassId) (sk : Nat → Nat) (A : Nat → Prop) (h0 : Nat) (mI : Int32) (n : Nat) (H : Heap) : Prop := ∃ (ra : Nat), va_P G classes [(h0, .inr (5, [.ref ra, .int 0])), (ra, .inl (cy 0, n, .inl (fun _ => 0)))] H ∧ va_D A [(h0, .inr (5, [.ref ra, .int 0])), (ra, .inl (cy 0, n, .inl (fun _ => 0)))]
set_option maxHeartbeats 4000000 in
set_option maxRecDepth 100000 in
theorem c_X5_init (l : Launch) (G : va_G) (cy : Nat → ClassId) (sk : Nat → Nat) (sz : Nat) (h0 : Nat) (mI : Int32) (n : Nat) (hm : mI = nI n) (hn : n ≤ 100) : Met l yX5_init (wsO yX5_init cX5_init 2 none) ({ frames := 1, cells := 1, slots := 100, locals := 14 }) (va_Pc [.ref h0, .int mI] (PR G cy sk sz [(h0, .inr (5, [.null, .int 0]))])) (va_Qv (fun (_ : Unit) => True) (fun _ t => B_c_X5_init G cy sk (va_A [(h0, .inr (5, [.null, .int 0]))] sz) h0 mI n t.heap) (va_A [(h0, .inr (5, [.null, .int 0]))] sz)) 1 100 (va_A [(h0, .inr (5, [.null, .int 0]))] sz) := by
  refine mt (by decide) (Nat.le_of_ble_eq_true rfl) ?_
  intro p e s m below meth c ls hx hb hr hml hts hown hlocks hin hsz hP hE hD hl
  subst hsz
  have hl : lv_has ls 2 [(0, .ref h0), (1, .int mI)] := hl
  subst hm
  have hl : lv_has ls 2 [(0, .ref h0), (1, .int (nI n))] := hl
  have hD := hD.self (sz := s.heap.size)
  generalize hAe : va_A [(h0, .inr (5, [.null, .int 0]))] s.heap.size = A at hD ⊢
  have hA : ∀ q : Nat, s.heap.size ≤ q → A q := fun q h => by rw [← hAe]; exact Or.inr h
  have hS : va_S A s.heap s.heap [] := va_S.rf
  refine lv_aload_n hx hb dX5_init_0 rfl (lv_at hl 0 rfl) ?_
  refine W.objInit hx hb hown (hts _ m_204) (hts _ m_107) (hts _ m_108) rfl (by rw [hml]; exact hl.1) rfl dX5_init_1 (Nat.le_of_ble_eq_true rfl) (Nat.le_of_ble_eq_true rfl) ?_
  refine W.eq (g2 := F0 m 4 ls []) rfl ?_
  refine lv_aload_n hx hb dX5_init_4 rfl (lv_at hl 0 rfl) ?_
  refine lv_iconst (v := 0) hx hb dX5_init_5 (by decide) ?_
  refine va_put (D := G) (ci := 5) (v := .int 0) (ty := .int) (C := RX5) (T := TX5) (N := 2) hx hb hts inB5 tyX5 tyX5_ok nmX5 hown hE.1 hP hD hS 0 rfl rfl 1 (by decide) (hts _ m_209) (fun _ h9 => h9) rfl (by decide +kernel) rfl rfl (Nat.le_of_ble_eq_true rfl) dX5_init_6 (fun H locs hP hD hS => ?_)
  have hP : va_P G classes [(h0, .inr (5, [.null, .int 0]))] H := hP
  refine lv_aload_n hx hb dX5_init_9 rfl (lv_at hl 0 rfl) ?_
  refine lv_iconst (v := 0) hx hb dX5_init_10 (by decide) ?_
  refine lv_iload_n hx hb dX5_init_11 rfl (lv_at hl 1 rfl) ?_
  refine va_mmax hx hb (hml.trans hl.1.symm) hown (hts _ m_205) (hts _ m_206) (hts _ m_86) (hts _ m_207) (Nat.le_of_ble_eq_true rfl) (Nat.le_of_ble_eq_true rfl) (Nat.le_of_ble_eq_true rfl) (Nat.le_of_ble_eq_true rfl) dX5_init_12 ?_
  refine tp (v := (nI n)) (mx0 (by omega)) ?_
  refine nwI (n := (nI n)) (N := n) hx hb hts m_146 hE hP hD hS hA (nI_pos (by omega)) (nI_clamp (by omega)) (by omega) (Nat.le_of_ble_eq_true rfl) (by show 0 + n ≤ 100; omega) dX5_init_15 (fun nq1 H hP hD hS => ?_)
  have hP : va_P G classes [(h0, .inr (5, [.null, .int 0])), (nq1, .inl (cy 0, n, .inl (fun _ => 0)))] H := hP
  refine va_putF (D := G) (ci := 5) (v := .ref nq1) (ty := (.array .int)) (C := RX5) (T := TX5) (N := 2) hx hb hts inB5 tyX5 tyX5_ok nmX5 hown hE.1 hP hD hS 0 rfl rfl 0 (by decide) (hts _ m_208) (fun _ h9 => h9) rfl hin rfl (by decide +kernel) rfl rfl (Nat.le_of_ble_eq_true rfl) dX5_init_17 (fun H locs hP hD hS => ?_)
  have hP : va_P G classes [(h0, .inr (5, [.ref nq1, .int 0])), (nq1, .inl (cy 0, n, .inl (fun _ => 0)))] H := hP
  have hP9 : va_P G classes [(h0, .inr (5, [.ref nq1, .int 0])), (nq1, .inl (cy 0, n, .inl (fun _ => 0)))] H := hP
  have hD9 : va_D A [(h0, .inr (5, [.ref nq1, .int 0])), (nq1, .inl (cy 0, n, .inl (fun _ => 0)))] := hD
  refine W.widen (k := 1) (n := 100) (by first | exact Nat.le_of_ble_eq_true rfl | omega) (by first | exact Nat.le_of_ble_eq_true rfl | omega) ?_
  exact W.vret hx hb hr (fun t ht hW => ⟨⟨(), rfl, trivial, by dsimp only; rw [ht]; exact ⟨nq1, hP9, hD9⟩⟩, hS.F ht⟩) hS.2.2 dX5_init_20
def B_c_X1_init (G : va_G) (cy : Nat → ClassId) (sk : Nat → Nat) (A : Nat → Prop) (h0 : Nat) (H : Heap) : Prop := ∃ (co : Nat) (ck : Nat), va_P G classes [(h0, .inr (1, [.ref co, .ref ck, .int 0])), (co, .inl (cy 0, 48, .inl (fun _ => 0))), (ck, .inl (cy 0, 48, .inl (fun _ => 0)))] H ∧ va_D A [(h0, .inr (1, [.ref co, .ref ck, .int 0])), (co, .inl (cy 0, 48, .inl (fun _ => 0))), (ck, .inl (cy 0, 48, .inl (fun _ => 0)))]
set_option maxHeartbeats 4000000 in
set_option maxRecDepth 100000 in
theorem c_X1_init (l : Launch) (G : va_G) (cy : Nat → ClassId) (sk : Nat → Nat) (sz : Nat) (h0 : Nat)  : Met l yX1_init (wsO yX1_init cX1_init 1 none) ({ frames := 1, cells := 2, slots := 96, locals := 12 }) (va_Pc [.ref h0] (PR G cy sk sz [(h0, .inr (1, [.null, .null, .int 0]))])) (va_Qv (fun (_ : Unit) => True) (fun _ t => B_c_X1_init G cy sk (va_A [(h0, .inr (1, [.null, .null, .int 0]))] sz) h0 t.heap) (va_A [(h0, .inr (1, [.null, .null, .int 0]))] sz)) 2 96 (va_A [(h0, .inr (1, [.null, .null, .int 0]))] sz) := by
  refine mt (by decide) (Nat.le_of_ble_eq_true rfl) ?_
  intro p e s m below meth c ls hx hb hr hml hts hown hlocks hin hsz hP hE hD hl
  subst hsz
  have hl : lv_has ls 1 [(0, .ref h0)] := hl
  have hD := hD.self (sz := s.heap.size)
  generalize hAe : va_A [(h0, .inr (1, [.null, .null, .int 0]))] s.heap.size = A at hD ⊢
  have hA : ∀ q : Nat, s.heap.size ≤ q → A q := fun q h => by rw [← hAe]; exact Or.inr h
  have hS : va_S A s.heap s.heap [] := va_S.rf
  refine lv_aload_n hx hb dX1_init_0 rfl (lv_at hl 0 rfl) ?_
  refine W.objInit hx hb hown (hts _ m_159) (hts _ m_107) (hts _ m_108) rfl (by rw [hml]; exact hl.1) rfl dX1_init_1 (Nat.le_of_ble_eq_true rfl) (Nat.le_of_ble_eq_true rfl) ?_
  refine W.eq (g2 := F0 m 4 ls []) rfl ?_
  refine lv_aload_n hx hb dX1_init_4 rfl (lv_at hl 0 rfl) ?_
  refine lv_bipush (v := 48) hx hb dX1_init_5 (by decide) ?_
  refine nwI (n := 48) (N := 48) hx hb hts m_146 hE hP hD hS hA (by decide) (by decide) (Nat.le_of_ble_eq_true rfl) (Nat.le_of_ble_eq_true rfl) (Nat.le_of_ble_eq_true rfl) dX1_init_7 (fun nq1 H hP hD hS => ?_)
  have hP : va_P G classes [(h0, .inr (1, [.null, .null, .int 0])), (nq1, .inl (cy 0, 48, .inl (fun _ => 0)))] H := hP
  refine va_putF (D := G) (ci := 1) (v := .ref nq1) (ty := (.array .int)) (C := RX1) (T := TX1) (N := 3) hx hb hts inB1 tyX1 tyX1_ok nmX1 hown hE.1 hP hD hS 0 rfl rfl 0 (by decide) (hts _ m_160) (fun _ h9 => h9) rfl hin rfl (by decide +kernel) rfl rfl (Nat.le_of_ble_eq_true rfl) dX1_init_9 (fun H locs hP hD hS => ?_)
  have hP : va_P G classes [(h0, .inr (1, [.ref nq1, .null, .int 0])), (nq1, .inl (cy 0, 48, .inl (fun _ => 0)))] H := hP
  refine lv_aload_n hx hb dX1_init_12 rfl (lv_at hl 0 rfl) ?_
  refine lv_bipush (v := 48) hx hb dX1_init_13 (by decide) ?_
  refine nwI (n := 48) (N := 48) hx hb hts m_146 hE hP hD hS hA (by decide) (by decide) (Nat.le_of_ble_eq_true rfl) (Nat.le_of_ble_eq_true rfl) (Nat.le_of_ble_eq_true rfl) dX1_init_15 (fun nq2 H hP hD hS => ?_)
  have hP : va_P G classes [(h0, .inr (1, [.ref nq1, .null, .int 0])), (nq1, .inl (cy 0, 48, .inl (fun _ => 0))), (nq2, .inl (cy 0, 48, .inl (fun _ => 0)))] H := hP
  refine va_putF (D := G) (ci := 1) (v := .ref nq2) (ty := (.array .int)) (C := RX1) (T := TX1) (N := 3) hx hb hts inB1 tyX1 tyX1_ok nmX1 hown hE.1 hP hD hS 0 rfl rfl 1 (by decide) (hts _ m_161) (fun _ h9 => h9) rfl hin rfl (by decide +kernel) rfl rfl (Nat.le_of_ble_eq_true rfl) dX1_init_17 (fun H locs hP hD hS => ?_)
  have hP : va_P G classes [(h0, .inr (1, [.ref nq1, .ref nq2, .int 0])), (nq1, .inl (cy 0, 48, .inl (fun _ => 0))), (nq2, .inl (cy 0, 48, .inl (fun _ => 0)))] H := hP
  refine lv_aload_n hx hb dX1_init_20 rfl (lv_at hl 0 rfl) ?_
  refine lv_iconst (v := 0) hx hb dX1_init_21 (by decide) ?_
  refine va_put (D := G) (ci := 1) (v := .int 0) (ty := .int) (C := RX1) (T := TX1) (N := 3) hx hb hts inB1 tyX1 tyX1_ok nmX1 hown hE.1 hP hD hS 0 rfl rfl 2 (by decide) (hts _ m_162) (fun _ h9 => h9) rfl (by decide +kernel) rfl rfl (Nat.le_of_ble_eq_true rfl) dX1_init_22 (fun H locs hP hD hS => ?_)
  have hP : va_P G classes [(h0, .inr (1, [.ref nq1, .ref nq2, .int 0])), (nq1, .inl (cy 0, 48, .inl (fun _ => 0))), (nq2, .inl (cy 0, 48, .inl (fun _ => 0)))] H := hP
  have hP9 : va_P G classes [(h0, .inr (1, [.ref nq1, .ref nq2, .int 0])), (nq1, .inl (cy 0, 48, .inl (fun _ => 0))), (nq2, .inl (cy 0, 48, .inl (fun _ => 0)))] H := hP
  have hD9 : va_D A [(h0, .inr (1, [.ref nq1, .ref nq2, .int 0])), (nq1, .inl (cy 0, 48, .inl (fun _ => 0))), (nq2, .inl (cy 0, 48, .inl (fun _ => 0)))] := hD
  refine W.widen (k := 2) (n := 96) (by first | exact Nat.le_of_ble_eq_true rfl | omega) (by first | exact Nat.le_of_ble_eq_true rfl | omega) ?_
  exact W.vret hx hb hr (fun t ht hW => ⟨⟨(), rfl, trivial, by dsimp only; rw [ht]; exact ⟨nq1, nq2, hP9, hD9⟩⟩, hS.F ht⟩) hS.2.2 dX1_init_25
def B_c_X7_init (G : va_G) (cy : Nat → ClassId) (sk : Nat → Nat) (A : Nat → Prop) (h0 : Nat) (H : Heap) : Prop := ∃ (oc : Nat) (ki : Nat) (ce : Nat) (si : Nat) (sp : Nat) (foc : Nat → Int32), (∀ j, j < 192 → foc j = (-1)) ∧ va_P G classes [(h0, .inr (7, [.ref oc, .ref ki, .ref ce, .ref si, .ref sp, .int 0])), (oc, .inl (cy 0, 192, .inl foc)), (ki, .inl (cy 0, 40, .inl (fun _ => 0))), (ce, .inl (cy 0, 40, .inl (fun _ => 0))), (si, .inl (cy 0, 40, .inl (fun _ => 0))), (sp, .inl (cy 0, 40, .inl (fun _ => 0)))] H ∧ va_D A [(h0, .inr (7, [.ref oc, .ref ki, .ref ce, .ref si, .ref sp, .int 0])), (oc, .inl (cy 0, 192, .inl foc)), (ki, .inl (cy 0, 40, .inl (fun _ => 0))), (ce, .inl (cy 0, 40, .inl (fun _ => 0))), (si, .inl (cy 0, 40, .inl (fun _ => 0))), (sp, .inl (cy 0, 40, .inl (fun _ => 0)))]
set_option maxHeartbeats 4000000 in
set_option maxRecDepth 100000 in
theorem c_X7_init (l : Launch) (G : va_G) (cy : Nat → ClassId) (sk : Nat → Nat) (sz : Nat) (h0 : Nat)  : Met l yX7_init (wsO yX7_init cX7_init 2 none) ({ frames := 1, cells := 5, slots := 352, locals := 12 }) (va_Pc [.ref h0] (PR G cy sk sz [(h0, .inr (7, [.null, .null, .null, .null, .null, .int 0]))])) (va_Qv (fun (_ : Unit) => True) (fun _ t => B_c_X7_init G cy sk (va_A [(h0, .inr (7, [.null, .null, .null, .null, .null, .int 0]))] sz) h0 t.heap) (va_A [(h0, .inr (7, [.null, .null, .null, .null, .null, .int 0]))] sz)) 5 352 (va_A [(h0, .inr (7, [.null, .null, .null, .null, .null, .int 0]))] sz) := by
  refine mt (by decide) (Nat.le_of_ble_eq_true rfl) ?_
  intro p e s m below meth c ls hx hb hr hml hts hown hlocks hin hsz hP hE hD hl
  subst hsz
  have hl : lv_has ls 2 [(0, .ref h0)] := hl
  have hD := hD.self (sz := s.heap.size)
  generalize hAe : va_A [(h0, .inr (7, [.null, .null, .null, .null, .null, .int 0]))] s.heap.size = A at hD ⊢
  have hA : ∀ q : Nat, s.heap.size ≤ q → A q := fun q h => by rw [← hAe]; exact Or.inr h
  have hS : va_S A s.heap s.heap [] := va_S.rf
  refine lv_aload_n hx hb dX7_init_0 rfl (lv_at hl 0 rfl) ?_
  refine W.objInit hx hb hown (hts _ m_120) (hts _ m_107) (hts _ m_108) rfl (by rw [hml]; exact hl.1) rfl dX7_init_1 (Nat.le_of_ble_eq_true rfl) (Nat.le_of_ble_eq_true rfl) ?_
  refine W.eq (g2 := F0 m 4 ls []) rfl ?_
  refine lv_aload_n hx hb dX7_init_4 rfl (lv_at hl 0 rfl) ?_
  refine lv_sipush (v := 192) hx hb dX7_init_5 (by decide) ?_
  refine nwI (n := 192) (N := 192) hx hb hts m_146 hE hP hD hS hA (by decide) (by decide) (Nat.le_of_ble_eq_true rfl) (Nat.le_of_ble_eq_true rfl) (Nat.le_of_ble_eq_true rfl) dX7_init_8 (fun nq1 H hP hD hS => ?_)
  have hP : va_P G classes [(h0, .inr (7, [.null, .null, .null, .null, .null, .int 0])), (nq1, .inl (cy 0, 192, .inl (fun _ => 0)))] H := hP
  refine va_putF (D := G) (ci := 7) (v := .ref nq1) (ty := (.array .int)) (C := RX7) (T := TX7) (N := 6) hx hb hts inB7 tyX7 tyX7_ok nmX7 hown hE.1 hP hD hS 0 rfl rfl 0 (by decide) (hts _ m_121) (fun _ h9 => h9) rfl hin rfl (by decide +kernel) rfl rfl (Nat.le_of_ble_eq_true rfl) dX7_init_10 (fun H locs hP hD hS => ?_)
  have hP : va_P G classes [(h0, .inr (7, [.ref nq1, .null, .null, .null, .null, .int 0])), (nq1, .inl (cy 0, 192, .inl (fun _ => 0)))] H := hP
  refine lv_aload_n hx hb dX7_init_13 rfl (lv_at hl 0 rfl) ?_
  refine lv_bipush (v := 40) hx hb dX7_init_14 (by decide) ?_
  refine nwI (n := 40) (N := 40) hx hb hts m_146 hE hP hD hS hA (by decide) (by decide) (Nat.le_of_ble_eq_true rfl) (Nat.le_of_ble_eq_true rfl) (Nat.le_of_ble_eq_true rfl) dX7_init_16 (fun nq2 H hP hD hS => ?_)
  have hP : va_P G classes [(h0, .inr (7, [.ref nq1, .null, .null, .null, .null, .int 0])), (nq1, .inl (cy 0, 192, .inl (fun _ => 0))), (nq2, .inl (cy 0, 40, .inl (fun _ => 0)))] H := hP
  refine va_putF (D := G) (ci := 7) (v := .ref nq2) (ty := (.array .int)) (C := RX7) (T := TX7) (N := 6) hx hb hts inB7 tyX7 tyX7_ok nmX7 hown hE.1 hP hD hS 0 rfl rfl 1 (by decide) (hts _ m_124) (fun _ h9 => h9) rfl hin rfl (by decide +kernel) rfl rfl (Nat.le_of_ble_eq_true rfl) dX7_init_18 (fun H locs hP hD hS => ?_)
  have hP : va_P G classes [(h0, .inr (7, [.ref nq1, .ref nq2, .null, .null, .null, .int 0])), (nq1, .inl (cy 0, 192, .inl (fun _ => 0))), (nq2, .inl (cy 0, 40, .inl (fun _ => 0)))] H := hP
  refine lv_aload_n hx hb dX7_init_21 rfl (lv_at hl 0 rfl) ?_
  refine lv_bipush (v := 40) hx hb dX7_init_22 (by decide) ?_
  refine nwI (n := 40) (N := 40) hx hb hts m_146 hE hP hD hS hA (by decide) (by decide) (Nat.le_of_ble_eq_true rfl) (Nat.le_of_ble_eq_true rfl) (Nat.le_of_ble_eq_true rfl) dX7_init_24 (fun nq3 H hP hD hS => ?_)
  have hP : va_P G classes [(h0, .inr (7, [.ref nq1, .ref nq2, .null, .null, .null, .int 0])), (nq1, .inl (cy 0, 192, .inl (fun _ => 0))), (nq2, .inl (cy 0, 40, .inl (fun _ => 0))), (nq3, .inl (cy 0, 40, .inl (fun _ => 0)))] H := hP
  refine va_putF (D := G) (ci := 7) (v := .ref nq3) (ty := (.array .int)) (C := RX7) (T := TX7) (N := 6) hx hb hts inB7 tyX7 tyX7_ok nmX7 hown hE.1 hP hD hS 0 rfl rfl 2 (by decide) (hts _ m_126) (fun _ h9 => h9) rfl hin rfl (by decide +kernel) rfl rfl (Nat.le_of_ble_eq_true rfl) dX7_init_26 (fun H locs hP hD hS => ?_)
  have hP : va_P G classes [(h0, .inr (7, [.ref nq1, .ref nq2, .ref nq3, .null, .null, .int 0])), (nq1, .inl (cy 0, 192, .inl (fun _ => 0))), (nq2, .inl (cy 0, 40, .inl (fun _ => 0))), (nq3, .inl (cy 0, 40, .inl (fun _ => 0)))] H := hP
  refine lv_aload_n hx hb dX7_init_29 rfl (lv_at hl 0 rfl) ?_
  refine lv_bipush (v := 40) hx hb dX7_init_30 (by decide) ?_
  refine nwI (n := 40) (N := 40) hx hb hts m_146 hE hP hD hS hA (by decide) (by decide) (Nat.le_of_ble_eq_true rfl) (Nat.le_of_ble_eq_true rfl) (Nat.le_of_ble_eq_true rfl) dX7_init_32 (fun nq4 H hP hD hS => ?_)
  have hP : va_P G classes [(h0, .inr (7, [.ref nq1, .ref nq2, .ref nq3, .null, .null, .int 0])), (nq1, .inl (cy 0, 192, .inl (fun _ => 0))), (nq2, .inl (cy 0, 40, .inl (fun _ => 0))), (nq3, .inl (cy 0, 40, .inl (fun _ => 0))), (nq4, .inl (cy 0, 40, .inl (fun _ => 0)))] H := hP
  refine va_putF (D := G) (ci := 7) (v := .ref nq4) (ty := (.array .int)) (C := RX7) (T := TX7) (N := 6) hx hb hts inB7 tyX7 tyX7_ok nmX7 hown hE.1 hP hD hS 0 rfl rfl 3 (by decide) (hts _ m_128) (fun _ h9 => h9) rfl hin rfl (by decide +kernel) rfl rfl (Nat.le_of_ble_eq_true rfl) dX7_init_34 (fun H locs hP hD hS => ?_)
  have hP : va_P G classes [(h0, .inr (7, [.ref nq1, .ref nq2, .ref nq3, .ref nq4, .null, .int 0])), (nq1, .inl (cy 0, 192, .inl (fun _ => 0))), (nq2, .inl (cy 0, 40, .inl (fun _ => 0))), (nq3, .inl (cy 0, 40, .inl (fun _ => 0))), (nq4, .inl (cy 0, 40, .inl (fun _ => 0)))] H := hP
  refine lv_aload_n hx hb dX7_init_37 rfl (lv_at hl 0 rfl) ?_
  refine lv_bipush (v := 40) hx hb dX7_init_38 (by decide) ?_
  refine nwI (n := 40) (N := 40) hx hb hts m_146 hE hP hD hS hA (by decide) (by decide) (Nat.le_of_ble_eq_true rfl) (Nat.le_of_ble_eq_true rfl) (Nat.le_of_ble_eq_true rfl) dX7_init_40 (fun nq5 H hP hD hS => ?_)
  have hP : va_P G classes [(h0, .inr (7, [.ref nq1, .ref nq2, .ref nq3, .ref nq4, .null, .int 0])), (nq1, .inl (cy 0, 192, .inl (fun _ => 0))), (nq2, .inl (cy 0, 40, .inl (fun _ => 0))), (nq3, .inl (cy 0, 40, .inl (fun _ => 0))), (nq4, .inl (cy 0, 40, .inl (fun _ => 0))), (nq5, .inl (cy 0, 40, .inl (fun _ => 0)))] H := hP
  refine va_putF (D := G) (ci := 7) (v := .ref nq5) (ty := (.array .int)) (C := RX7) (T := TX7) (N := 6) hx hb hts inB7 tyX7 tyX7_ok nmX7 hown hE.1 hP hD hS 0 rfl rfl 4 (by decide) (hts _ m_130) (fun _ h9 => h9) rfl hin rfl (by decide +kernel) rfl rfl (Nat.le_of_ble_eq_true rfl) dX7_init_42 (fun H locs hP hD hS => ?_)
  have hP : va_P G classes [(h0, .inr (7, [.ref nq1, .ref nq2, .ref nq3, .ref nq4, .ref nq5, .int 0])), (nq1, .inl (cy 0, 192, .inl (fun _ => 0))), (nq2, .inl (cy 0, 40, .inl (fun _ => 0))), (nq3, .inl (cy 0, 40, .inl (fun _ => 0))), (nq4, .inl (cy 0, 40, .inl (fun _ => 0))), (nq5, .inl (cy 0, 40, .inl (fun _ => 0)))] H := hP
  refine lv_aload_n hx hb dX7_init_45 rfl (lv_at hl 0 rfl) ?_
  refine lv_iconst (v := 0) hx hb dX7_init_46 (by decide) ?_
  refine va_put (D := G) (ci := 7) (v := .int 0) (ty := .int) (C := RX7) (T := TX7) (N := 6) hx hb hts inB7 tyX7 tyX7_ok nmX7 hown hE.1 hP hD hS 0 rfl rfl 5 (by decide) (hts _ m_132) (fun _ h9 => h9) rfl (by decide +kernel) rfl rfl (Nat.le_of_ble_eq_true rfl) dX7_init_47 (fun H locs hP hD hS => ?_)
  have hP : va_P G classes [(h0, .inr (7, [.ref nq1, .ref nq2, .ref nq3, .ref nq4, .ref nq5, .int 0])), (nq1, .inl (cy 0, 192, .inl (fun _ => 0))), (nq2, .inl (cy 0, 40, .inl (fun _ => 0))), (nq3, .inl (cy 0, 40, .inl (fun _ => 0))), (nq4, .inl (cy 0, 40, .inl (fun _ => 0))), (nq5, .inl (cy 0, 40, .inl (fun _ => 0)))] H := hP
  refine lv_iconst (v := 0) hx hb dX7_init_50 (by decide) ?_
  refine lv_istore_n (lv' := [(1, .int 0), (0, .ref h0)]) hx hb dX7_init_51 rfl hl (by decide) rfl (fun ls hl => ?_)
  have lp : ∀ (nn i : Nat), i ≤ 192 → 192 + 1 ≤ i + nn → ∀ (g : Nat → Int32), (∀ j, j < i → g j = (-1)) → ∀ (H : Heap) (locs : List Loc), va_P G classes [(h0, .inr (7, [.ref nq1, .ref nq2, .ref nq3, .ref nq4, .ref nq5, .int 0])), (nq1, .inl (cy 0, 192, .inl g)), (nq2, .inl (cy 0, 40, .inl (fun _ => 0))), (nq3, .inl (cy 0, 40, .inl (fun _ => 0))), (nq4, .inl (cy 0, 40, .inl (fun _ => 0))), (nq5, .inl (cy 0, 40, .inl (fun _ => 0)))] H → va_D A [(h0, .inr (7, [.ref nq1, .ref nq2, .ref nq3, .ref nq4, .ref nq5, .int 0])), (nq1, .inl (cy 0, 192, .inl g)), (nq2, .inl (cy 0, 40, .inl (fun _ => 0))), (nq3, .inl (cy 0, 40, .inl (fun _ => 0))), (nq4, .inl (cy 0, 40, .inl (fun _ => 0))), (nq5, .inl (cy 0, 40, .inl (fun _ => 0)))] → va_S A s.heap H locs → ∀ (ls : Array Slot), lv_has ls 2 [(1, .int (nI i)), (0, .ref h0)] → W p l e (headSpec (wsO yX7_init cX7_init 2 none) ({ frames := 1, cells := 5, slots := 352, locals := 12 })).room s m [.ref h0].toArray below meth c H locs 5 352 (MQ below (va_Qv (fun (_ : Unit) => True) (fun _ t => B_c_X7_init G cy sk A h0 t.heap) A) [.ref h0].toArray s 5 352 A) (F0 m 52 ls []) := by
    intro nn
    induction nn with
    | zero => intro i h1 h2; exact absurd h2 (by omega)
    | succ nn ih =>
      intro i hi hin0 g hv0 H locs hP hD hS ls hl
      rcases Nat.lt_or_ge i 192 with hlt | hge
      · refine lv_iload_n hx hb dX7_init_52 rfl (lv_at hl 0 rfl) ?_
        refine lv_sipush (v := 192) hx hb dX7_init_53 (by decide) ?_
        refine lv_icmp_ge (tgt := 72) hx hb dX7_init_56 (by decide) (fun h9 => absurd h9 (nI_ge hlt (by decide))) (fun _ => ?_)
        refine lv_aload_n hx hb dX7_init_59 rfl (lv_at hl 1 rfl) ?_
        refine va_get (D := G) (ci := 7) (v := .ref nq1) (C := RX7) (T := TX7) (N := 6) hx hb hts inB7 hown hE.1 hP 0 rfl rfl 0 (by decide) (hts _ m_121) (fun _ h9 => h9) rfl dX7_init_60 ?_
        refine lv_iload_n hx hb dX7_init_63 rfl (lv_at hl 0 rfl) ?_
        refine lv_iconst (v := (-1)) hx hb dX7_init_64 (by decide) ?_
        refine va_iast hx hb hE.1 hP hD hS 1 0 rfl rfl (vp_in_nI hlt (by decide)) dX7_init_65 (fun H locs hP hD hS => ?_)
        have hP : va_P G classes [(h0, .inr (7, [.ref nq1, .ref nq2, .ref nq3, .ref nq4, .ref nq5, .int 0])), (nq1, .inl (cy 0, 192, .inl (upd g ((nI i)).toNatClampNeg (-1)))), (nq2, .inl (cy 0, 40, .inl (fun _ => 0))), (nq3, .inl (cy 0, 40, .inl (fun _ => 0))), (nq4, .inl (cy 0, 40, .inl (fun _ => 0))), (nq5, .inl (cy 0, 40, .inl (fun _ => 0)))] H := hP
        refine lv_iinc (v := (nI (i + 1))) (lv' := [(1, .int (nI (i + 1))), (0, .ref h0)]) hx hb dX7_init_66 hl (k := 0) rfl (nI_1 (i)) (by decide) rfl (fun ls hl => ?_)
        refine lv_goto (tgt := 52) hx hb dX7_init_69 (by decide) ?_
        exact ih (i + 1) hlt (by omega) _ (upd_all (by omega) hv0) _ _ hP hD hS ls (lv_sub hl [0, 1] rfl)
      · have hie : i = 192 := Nat.le_antisymm hi hge
        subst hie
        refine lv_iload_n hx hb dX7_init_52 rfl (lv_at hl 0 rfl) ?_
        refine lv_sipush (v := 192) hx hb dX7_init_53 (by decide) ?_
        refine lv_icmp_ge (tgt := 72) hx hb dX7_init_56 (by decide) (fun _ => ?_) (fun h9 => absurd (Int32.le_refl _) h9)
        have hP9 : va_P G classes [(h0, .inr (7, [.ref nq1, .ref nq2, .ref nq3, .ref nq4, .ref nq5, .int 0])), (nq1, .inl (cy 0, 192, .inl g)), (nq2, .inl (cy 0, 40, .inl (fun _ => 0))), (nq3, .inl (cy 0, 40, .inl (fun _ => 0))), (nq4, .inl (cy 0, 40, .inl (fun _ => 0))), (nq5, .inl (cy 0, 40, .inl (fun _ => 0)))] H := hP
        have hD9 : va_D A [(h0, .inr (7, [.ref nq1, .ref nq2, .ref nq3, .ref nq4, .ref nq5, .int 0])), (nq1, .inl (cy 0, 192, .inl g)), (nq2, .inl (cy 0, 40, .inl (fun _ => 0))), (nq3, .inl (cy 0, 40, .inl (fun _ => 0))), (nq4, .inl (cy 0, 40, .inl (fun _ => 0))), (nq5, .inl (cy 0, 40, .inl (fun _ => 0)))] := hD
        refine W.widen (k := 5) (n := 352) (by first | exact Nat.le_of_ble_eq_true rfl | omega) (by first | exact Nat.le_of_ble_eq_true rfl | omega) ?_
        exact W.vret hx hb hr (fun t ht hW => ⟨⟨(), rfl, trivial, by dsimp only; rw [ht]; exact ⟨nq1, nq2, nq3, nq4, nq5, g, hv0, hP9, hD9⟩⟩, hS.F ht⟩) hS.2.2 dX7_init_72
  exact lp (192 + 1) 0 (Nat.zero_le _) (by omega) _ (fun j h => absurd h (Nat.not_lt_zero _)) _ _ hP hD hS ls (lv_sub hl [0, 1] rfl)
def B_c_X9_init (G : va_G) (cy : Nat → ClassId) (sk : Nat → Nat) (A : Nat → Prop) (h0 : Nat) (H : Heap) : Prop := ∃ (ye : Nat) (no : Nat), va_P G classes [(h0, .inr (9, [.int 0, .int 0, .int 0, .int 5, .int 60, .int 0, .int 0, .int 0, .int 0, .ref ye, .ref no])), (ye, .inl (cy 0, 192, .inl (fun _ => 0))), (no, .inl (cy 0, 192, .inl (fun _ => 0)))] H ∧ va_D A [(h0, .inr (9, [.int 0, .int 0, .int 0, .int 5, .int 60, .int 0, .int 0, .int 0, .int 0, .ref ye, .ref no])), (ye, .inl (cy 0, 192, .inl (fun _ => 0))), (no, .inl (cy 0, 192, .inl (fun _ => 0)))]
set_option maxHeartbeats 4000000 in
set_option maxRecDepth 100000 in
theorem c_X9_init (l : Launch) (G : va_G) (cy : Nat → ClassId) (sk : Nat → Nat) (sz : Nat) (h0 : Nat)  : Met l yX9_init (wsO yX9_init cX9_init 1 none) ({ frames := 1, cells := 2, slots := 384, locals := 12 }) (va_Pc [.ref h0] (PR G cy sk sz [(h0, .inr (9, [.int 0, .int 0, .int 0, .int 0, .int 0, .int 0, .int 0, .int 0, .int 0, .null, .null]))])) (va_Qv (fun (_ : Unit) => True) (fun _ t => B_c_X9_init G cy sk (va_A [(h0, .inr (9, [.int 0, .int 0, .int 0, .int 0, .int 0, .int 0, .int 0, .int 0, .int 0, .null, .null]))] sz) h0 t.heap) (va_A [(h0, .inr (9, [.int 0, .int 0, .int 0, .int 0, .int 0, .int 0, .int 0, .int 0, .int 0, .null, .null]))] sz)) 2 384 (va_A [(h0, .inr (9, [.int 0, .int 0, .int 0, .int 0, .int 0, .int 0, .int 0, .int 0, .int 0, .null, .null]))] sz) := by
  refine mt (by decide) (Nat.le_of_ble_eq_true rfl) ?_
  intro p e s m below meth c ls hx hb hr hml hts hown hlocks hin hsz hP hE hD hl
  subst hsz
  have hl : lv_has ls 1 [(0, .ref h0)] := hl
  have hD := hD.self (sz := s.heap.size)
  generalize hAe : va_A [(h0, .inr (9, [.int 0, .int 0, .int 0, .int 0, .int 0, .int 0, .int 0, .int 0, .int 0, .null, .null]))] s.heap.size = A at hD ⊢
  have hA : ∀ q : Nat, s.heap.size ≤ q → A q := fun q h => by rw [← hAe]; exact Or.inr h
  have hS : va_S A s.heap s.heap [] := va_S.rf
  refine lv_aload_n hx hb dX9_init_0 rfl (lv_at hl 0 rfl) ?_
  refine W.objInit hx hb hown (hts _ m_257) (hts _ m_107) (hts _ m_108) rfl (by rw [hml]; exact hl.1) rfl dX9_init_1 (Nat.le_of_ble_eq_true rfl) (Nat.le_of_ble_eq_true rfl) ?_
  refine W.eq (g2 := F0 m 4 ls []) rfl ?_
  refine lv_aload_n hx hb dX9_init_4 rfl (lv_at hl 0 rfl) ?_
  refine lv_iconst (v := 0) hx hb dX9_init_5 (by decide) ?_
  refine va_put (D := G) (ci := 9) (v := .int 0) (ty := .int) (C := RX9) (T := TX9) (N := 11) hx hb hts inB9 tyX9 tyX9_ok nmX9 hown hE.1 hP hD hS 0 rfl rfl 0 (by decide) (hts _ m_258) (fun _ h9 => h9) rfl (by decide +kernel) rfl rfl (Nat.le_of_ble_eq_true rfl) dX9_init_6 (fun H locs hP hD hS => ?_)
  have hP : va_P G classes [(h0, .inr (9, [.int 0, .int 0, .int 0, .int 0, .int 0, .int 0, .int 0, .int 0, .int 0, .null, .null]))] H := hP
  refine lv_aload_n hx hb dX9_init_9 rfl (lv_at hl 0 rfl) ?_
  refine lv_iconst (v := 0) hx hb dX9_init_10 (by decide) ?_
  refine va_put (D := G) (ci := 9) (v := .int 0) (ty := .int) (C := RX9) (T := TX9) (N := 11) hx hb hts inB9 tyX9 tyX9_ok nmX9 hown hE.1 hP hD hS 0 rfl rfl 1 (by decide) (hts _ m_260) (fun _ h9 => h9) rfl (by decide +kernel) rfl rfl (Nat.le_of_ble_eq_true rfl) dX9_init_11 (fun H locs hP hD hS => ?_)
  have hP : va_P G classes [(h0, .inr (9, [.int 0, .int 0, .int 0, .int 0, .int 0, .int 0, .int 0, .int 0, .int 0, .null, .null]))] H := hP
  refine lv_aload_n hx hb dX9_init_14 rfl (lv_at hl 0 rfl) ?_
  refine lv_iconst (v := 0) hx hb dX9_init_15 (by decide) ?_
  refine va_put (D := G) (ci := 9) (v := .int 0) (ty := .int) (C := RX9) (T := TX9) (N := 11) hx hb hts inB9 tyX9 tyX9_ok nmX9 hown hE.1 hP hD hS 0 rfl rfl 2 (by decide) (hts _ m_264) (fun _ h9 => h9) rfl (by decide +kernel) rfl rfl (Nat.le_of_ble_eq_true rfl) dX9_init_16 (fun H locs hP hD hS => ?_)
  have hP : va_P G classes [(h0, .inr (9, [.int 0, .int 0, .int 0, .int 0, .int 0, .int 0, .int 0, .int 0, .int 0, .null, .null]))] H := hP
  refine lv_aload_n hx hb dX9_init_19 rfl (lv_at hl 0 rfl) ?_
  refine lv_iconst (v := 5) hx hb dX9_init_20 (by decide) ?_
  refine va_put (D := G) (ci := 9) (v := .int 5) (ty := .int) (C := RX9) (T := TX9) (N := 11) hx hb hts inB9 tyX9 tyX9_ok nmX9 hown hE.1 hP hD hS 0 rfl rfl 3 (by decide) (hts _ m_267) (fun _ h9 => h9) rfl (by decide +kernel) rfl rfl (Nat.le_of_ble_eq_true rfl) dX9_init_21 (fun H locs hP hD hS => ?_)
  have hP : va_P G classes [(h0, .inr (9, [.int 0, .int 0, .int 0, .int 5, .int 0, .int 0, .int 0, .int 0, .int 0, .null, .null]))] H := hP
  refine lv_aload_n hx hb dX9_init_24 rfl (lv_at hl 0 rfl) ?_
  refine lv_bipush (v := 60) hx hb dX9_init_25 (by decide) ?_
  refine va_put (D := G) (ci := 9) (v := .int 60) (ty := .int) (C := RX9) (T := TX9) (N := 11) hx hb hts inB9 tyX9 tyX9_ok nmX9 hown hE.1 hP hD hS 0 rfl rfl 4 (by decide) (hts _ m_270) (fun _ h9 => h9) rfl (by decide +kernel) rfl rfl (Nat.le_of_ble_eq_true rfl) dX9_init_27 (fun H locs hP hD hS => ?_)
  have hP : va_P G classes [(h0, .inr (9, [.int 0, .int 0, .int 0, .int 5, .int 60, .int 0, .int 0, .int 0, .int 0, .null, .null]))] H := hP
  refine lv_aload_n hx hb dX9_init_30 rfl (lv_at hl 0 rfl) ?_
  refine lv_iconst (v := 0) hx hb dX9_init_31 (by decide) ?_
  refine va_put (D := G) (ci := 9) (v := .int 0) (ty := .int) (C := RX9) (T := TX9) (N := 11) hx hb hts inB9 tyX9 tyX9_ok nmX9 hown hE.1 hP hD hS 0 rfl rfl 5 (by decide) (hts _ m_272) (fun _ h9 => h9) rfl (by decide +kernel) rfl rfl (Nat.le_of_ble_eq_true rfl) dX9_init_32 (fun H locs hP hD hS => ?_)
  have hP : va_P G classes [(h0, .inr (9, [.int 0, .int 0, .int 0, .int 5, .int 60, .int 0, .int 0, .int 0, .int 0, .null, .null]))] H := hP
  refine lv_aload_n hx hb dX9_init_35 rfl (lv_at hl 0 rfl) ?_
  refine lv_iconst (v := 0) hx hb dX9_init_36 (by decide) ?_
  refine va_put (D := G) (ci := 9) (v := .int 0) (ty := .boolean) (C := RX9) (T := TX9) (N := 11) hx hb hts inB9 tyX9 tyX9_ok nmX9 hown hE.1 hP hD hS 0 rfl rfl 6 (by decide) (hts _ m_275) (fun _ h9 => h9) rfl (by decide +kernel) rfl rfl (Nat.le_of_ble_eq_true rfl) dX9_init_37 (fun H locs hP hD hS => ?_)
  have hP : va_P G classes [(h0, .inr (9, [.int 0, .int 0, .int 0, .int 5, .int 60, .int 0, .int 0, .int 0, .int 0, .null, .null]))] H := hP
  refine lv_aload_n hx hb dX9_init_40 rfl (lv_at hl 0 rfl) ?_
  refine lv_iconst (v := 0) hx hb dX9_init_41 (by decide) ?_
  refine va_put (D := G) (ci := 9) (v := .int 0) (ty := .int) (C := RX9) (T := TX9) (N := 11) hx hb hts inB9 tyX9 tyX9_ok nmX9 hown hE.1 hP hD hS 0 rfl rfl 7 (by decide) (hts _ m_278) (fun _ h9 => h9) rfl (by decide +kernel) rfl rfl (Nat.le_of_ble_eq_true rfl) dX9_init_42 (fun H locs hP hD hS => ?_)
  have hP : va_P G classes [(h0, .inr (9, [.int 0, .int 0, .int 0, .int 5, .int 60, .int 0, .int 0, .int 0, .int 0, .null, .null]))] H := hP
  refine lv_aload_n hx hb dX9_init_45 rfl (lv_at hl 0 rfl) ?_
  refine lv_iconst (v := 0) hx hb dX9_init_46 (by decide) ?_
  refine va_put (D := G) (ci := 9) (v := .int 0) (ty := .int) (C := RX9) (T := TX9) (N := 11) hx hb hts inB9 tyX9 tyX9_ok nmX9 hown hE.1 hP hD hS 0 rfl rfl 8 (by decide) (hts _ m_280) (fun _ h9 => h9) rfl (by decide +kernel) rfl rfl (Nat.le_of_ble_eq_true rfl) dX9_init_47 (fun H locs hP hD hS => ?_)
  have hP : va_P G classes [(h0, .inr (9, [.int 0, .int 0, .int 0, .int 5, .int 60, .int 0, .int 0, .int 0, .int 0, .null, .null]))] H := hP
  refine lv_aload_n hx hb dX9_init_50 rfl (lv_at hl 0 rfl) ?_
  refine lv_sipush (v := 192) hx hb dX9_init_51 (by decide) ?_
  refine nwI (n := 192) (N := 192) hx hb hts m_146 hE hP hD hS hA (by decide) (by decide) (Nat.le_of_ble_eq_true rfl) (Nat.le_of_ble_eq_true rfl) (Nat.le_of_ble_eq_true rfl) dX9_init_54 (fun nq1 H hP hD hS => ?_)
  have hP : va_P G classes [(h0, .inr (9, [.int 0, .int 0, .int 0, .int 5, .int 60, .int 0, .int 0, .int 0, .int 0, .null, .null])), (nq1, .inl (cy 0, 192, .inl (fun _ => 0)))] H := hP
  refine va_putF (D := G) (ci := 9) (v := .ref nq1) (ty := (.array .int)) (C := RX9) (T := TX9) (N := 11) hx hb hts inB9 tyX9 tyX9_ok nmX9 hown hE.1 hP hD hS 0 rfl rfl 9 (by decide) (hts _ m_282) (fun _ h9 => h9) rfl hin rfl (by decide +kernel) rfl rfl (Nat.le_of_ble_eq_true rfl) dX9_init_56 (fun H locs hP hD hS => ?_)
  have hP : va_P G classes [(h0, .inr (9, [.int 0, .int 0, .int 0, .int 5, .int 60, .int 0, .int 0, .int 0, .int 0, .ref nq1, .null])), (nq1, .inl (cy 0, 192, .inl (fun _ => 0)))] H := hP
  refine lv_aload_n hx hb dX9_init_59 rfl (lv_at hl 0 rfl) ?_
  refine lv_sipush (v := 192) hx hb dX9_init_60 (by decide) ?_
  refine nwI (n := 192) (N := 192) hx hb hts m_146 hE hP hD hS hA (by decide) (by decide) (Nat.le_of_ble_eq_true rfl) (Nat.le_of_ble_eq_true rfl) (Nat.le_of_ble_eq_true rfl) dX9_init_63 (fun nq2 H hP hD hS => ?_)
  have hP : va_P G classes [(h0, .inr (9, [.int 0, .int 0, .int 0, .int 5, .int 60, .int 0, .int 0, .int 0, .int 0, .ref nq1, .null])), (nq1, .inl (cy 0, 192, .inl (fun _ => 0))), (nq2, .inl (cy 0, 192, .inl (fun _ => 0)))] H := hP
  refine va_putF (D := G) (ci := 9) (v := .ref nq2) (ty := (.array .int)) (C := RX9) (T := TX9) (N := 11) hx hb hts inB9 tyX9 tyX9_ok nmX9 hown hE.1 hP hD hS 0 rfl rfl 10 (by decide) (hts _ m_284) (fun _ h9 => h9) rfl hin rfl (by decide +kernel) rfl rfl (Nat.le_of_ble_eq_true rfl) dX9_init_65 (fun H locs hP hD hS => ?_)
  have hP : va_P G classes [(h0, .inr (9, [.int 0, .int 0, .int 0, .int 5, .int 60, .int 0, .int 0, .int 0, .int 0, .ref nq1, .ref nq2])), (nq1, .inl (cy 0, 192, .inl (fun _ => 0))), (nq2, .inl (cy 0, 192, .inl (fun _ => 0)))] H := hP
  have hP9 : va_P G classes [(h0, .inr (9, [.int 0, .int 0, .int 0, .int 5, .int 60, .int 0, .int 0, .int 0, .int 0, .ref nq1, .ref nq2])), (nq1, .inl (cy 0, 192, .inl (fun _ => 0))), (nq2, .inl (cy 0, 192, .inl (fun _ => 0)))] H := hP
  have hD9 : va_D A [(h0, .inr (9, [.int 0, .int 0, .int 0, .int 5, .int 60, .int 0, .int 0, .int 0, .int 0, .ref nq1, .ref nq2])), (nq1, .inl (cy 0, 192, .inl (fun _ => 0))), (nq2, .inl (cy 0, 192, .inl (fun _ => 0)))] := hD
  refine W.widen (k := 2) (n := 384) (by first | exact Nat.le_of_ble_eq_true rfl | omega) (by first | exact Nat.le_of_ble_eq_true rfl | omega) ?_
  exact W.vret hx hb hr (fun t ht hW => ⟨⟨(), rfl, trivial, by dsimp only; rw [ht]; exact ⟨nq1, nq2, hP9, hD9⟩⟩, hS.F ht⟩) hS.2.2 dX9_init_68
def B_c_X6_init (G : va_G) (cy : Nat → ClassId) (sk : Nat → Nat) (A : Nat → Prop) (h0 : Nat) (H : Heap) : Prop := ∃ (nu : Nat), va_P G classes [(h0, .inr (6, [.int 0, .int 0, .ref nu])), (nu, .inl (cy 0, 24, .inl (fun _ => 0)))] H ∧ va_D A [(h0, .inr (6, [.int 0, .int 0, .ref nu])), (nu, .inl (cy 0, 24, .inl (fun _ => 0)))]
set_option maxHeartbeats 4000000 in
set_option maxRecDepth 100000 in
theorem c_X6_init (l : Launch) (G : va_G) (cy : Nat → ClassId) (sk : Nat → Nat) (sz : Nat) (h0 : Nat)  : Met l yX6_init (wsO yX6_init cX6_init 1 none) ({ frames := 1, cells := 1, slots := 24, locals := 12 }) (va_Pc [.ref h0] (PR G cy sk sz [(h0, .inr (6, [.int 0, .int 0, .null]))])) (va_Qv (fun (_ : Unit) => True) (fun _ t => B_c_X6_init G cy sk (va_A [(h0, .inr (6, [.int 0, .int 0, .null]))] sz) h0 t.heap) (va_A [(h0, .inr (6, [.int 0, .int 0, .null]))] sz)) 1 24 (va_A [(h0, .inr (6, [.int 0, .int 0, .null]))] sz) := by
  refine mt (by decide) (Nat.le_of_ble_eq_true rfl) ?_
  intro p e s m below meth c ls hx hb hr hml hts hown hlocks hin hsz hP hE hD hl
  subst hsz
  have hl : lv_has ls 1 [(0, .ref h0)] := hl
  have hD := hD.self (sz := s.heap.size)
  generalize hAe : va_A [(h0, .inr (6, [.int 0, .int 0, .null]))] s.heap.size = A at hD ⊢
  have hA : ∀ q : Nat, s.heap.size ≤ q → A q := fun q h => by rw [← hAe]; exact Or.inr h
  have hS : va_S A s.heap s.heap [] := va_S.rf
  refine lv_aload_n hx hb dX6_init_0 rfl (lv_at hl 0 rfl) ?_
  refine W.objInit hx hb hown (hts _ m_444) (hts _ m_107) (hts _ m_108) rfl (by rw [hml]; exact hl.1) rfl dX6_init_1 (Nat.le_of_ble_eq_true rfl) (Nat.le_of_ble_eq_true rfl) ?_
  refine W.eq (g2 := F0 m 4 ls []) rfl ?_
  refine lv_aload_n hx hb dX6_init_4 rfl (lv_at hl 0 rfl) ?_
  refine lv_iconst (v := 0) hx hb dX6_init_5 (by decide) ?_
  refine va_put (D := G) (ci := 6) (v := .int 0) (ty := .int) (C := RX6) (T := TX6) (N := 3) hx hb hts inB6 tyX6 tyX6_ok nmX6 hown hE.1 hP hD hS 0 rfl rfl 0 (by decide) (hts _ m_445) (fun _ h9 => h9) rfl (by decide +kernel) rfl rfl (Nat.le_of_ble_eq_true rfl) dX6_init_6 (fun H locs hP hD hS => ?_)
  have hP : va_P G classes [(h0, .inr (6, [.int 0, .int 0, .null]))] H := hP
  refine lv_aload_n hx hb dX6_init_9 rfl (lv_at hl 0 rfl) ?_
  refine lv_iconst (v := 0) hx hb dX6_init_10 (by decide) ?_
  refine va_put (D := G) (ci := 6) (v := .int 0) (ty := .int) (C := RX6) (T := TX6) (N := 3) hx hb hts inB6 tyX6 tyX6_ok nmX6 hown hE.1 hP hD hS 0 rfl rfl 1 (by decide) (hts _ m_447) (fun _ h9 => h9) rfl (by decide +kernel) rfl rfl (Nat.le_of_ble_eq_true rfl) dX6_init_11 (fun H locs hP hD hS => ?_)
  have hP : va_P G classes [(h0, .inr (6, [.int 0, .int 0, .null]))] H := hP
  refine lv_aload_n hx hb dX6_init_14 rfl (lv_at hl 0 rfl) ?_
  refine lv_bipush (v := 24) hx hb dX6_init_15 (by decide) ?_
  refine nwI (n := 24) (N := 24) hx hb hts m_146 hE hP hD hS hA (by decide) (by decide) (Nat.le_of_ble_eq_true rfl) (Nat.le_of_ble_eq_true rfl) (Nat.le_of_ble_eq_true rfl) dX6_init_17 (fun nq1 H hP hD hS => ?_)
  have hP : va_P G classes [(h0, .inr (6, [.int 0, .int 0, .null])), (nq1, .inl (cy 0, 24, .inl (fun _ => 0)))] H := hP
  refine va_putF (D := G) (ci := 6) (v := .ref nq1) (ty := (.array .int)) (C := RX6) (T := TX6) (N := 3) hx hb hts inB6 tyX6 tyX6_ok nmX6 hown hE.1 hP hD hS 0 rfl rfl 2 (by decide) (hts _ m_450) (fun _ h9 => h9) rfl hin rfl (by decide +kernel) rfl rfl (Nat.le_of_ble_eq_true rfl) dX6_init_19 (fun H locs hP hD hS => ?_)
  have hP : va_P G classes [(h0, .inr (6, [.int 0, .int 0, .ref nq1])), (nq1, .inl (cy 0, 24, .inl (fun _ => 0)))] H := hP
  have hP9 : va_P G classes [(h0, .inr (6, [.int 0, .int 0, .ref nq1])), (nq1, .inl (cy 0, 24, .inl (fun _ => 0)))] H := hP
  have hD9 : va_D A [(h0, .inr (6, [.int 0, .int 0, .ref nq1])), (nq1, .inl (cy 0, 24, .inl (fun _ => 0)))] := hD
  refine W.widen (k := 1) (n := 24) (by first | exact Nat.le_of_ble_eq_true rfl | omega) (by first | exact Nat.le_of_ble_eq_true rfl | omega) ?_
  exact W.vret hx hb hr (fun t ht hW => ⟨⟨(), rfl, trivial, by dsimp only; rw [ht]; exact ⟨nq1, hP9, hD9⟩⟩, hS.F ht⟩) hS.2.2 dX6_init_22
def B_c_X3_init (G : va_G) (cy : Nat → ClassId) (sk : Nat → Nat) (A : Nat → Prop) (h0 : Nat) (H : Heap) : Prop := ∃ (te : Nat) (ne : Nat) (mi : Nat) (tr : Nat) (be : Nat) (rta7 : Nat) (rba7 : Nat), va_P G classes [(h0, .inr (3, [.ref te, .ref ne, .ref mi, .int 0, .ref tr, .ref be, .int 0, .int 0, .int 0])), (te, .inl (cy 0, 7, .inl (fun _ => 0))), (ne, .inl (cy 0, 7, .inl (fun _ => 0))), (mi, .inl (cy 0, 7, .inl (fun _ => 0))), (tr, .inr (5, [.ref rta7, .int 0])), (rta7, .inl (cy 0, 7, .inl (fun _ => 0))), (be, .inr (5, [.ref rba7, .int 0])), (rba7, .inl (cy 0, 7, .inl (fun _ => 0)))] H ∧ va_D A [(h0, .inr (3, [.ref te, .ref ne, .ref mi, .int 0, .ref tr, .ref be, .int 0, .int 0, .int 0])), (te, .inl (cy 0, 7, .inl (fun _ => 0))), (ne, .inl (cy 0, 7, .inl (fun _ => 0))), (mi, .inl (cy 0, 7, .inl (fun _ => 0))), (tr, .inr (5, [.ref rta7, .int 0])), (rta7, .inl (cy 0, 7, .inl (fun _ => 0))), (be, .inr (5, [.ref rba7, .int 0])), (rba7, .inl (cy 0, 7, .inl (fun _ => 0)))]
set_option maxHeartbeats 4000000 in
set_option maxRecDepth 100000 in
theorem c_X3_init (l : Launch) (G : va_G) (cy : Nat → ClassId) (sk : Nat → Nat) (sz : Nat) (h0 : Nat)  : Met l yX3_init (wsO yX3_init cX3_init 1 none) ({ frames := 2, cells := 7, slots := 225, locals := 35 }) (va_Pc [.ref h0] (PR G cy sk sz [(h0, .inr (3, [.null, .null, .null, .int 0, .null, .null, .int 0, .int 0, .int 0]))])) (va_Qv (fun (_ : Unit) => True) (fun _ t => B_c_X3_init G cy sk (va_A [(h0, .inr (3, [.null, .null, .null, .int 0, .null, .null, .int 0, .int 0, .int 0]))] sz) h0 t.heap) (va_A [(h0, .inr (3, [.null, .null, .null, .int 0, .null, .null, .int 0, .int 0, .int 0]))] sz)) 7 225 (va_A [(h0, .inr (3, [.null, .null, .null, .int 0, .null, .null, .int 0, .int 0, .int 0]))] sz) := by
  refine mt (by decide) (Nat.le_of_ble_eq_true rfl) ?_
  intro p e s m below meth c ls hx hb hr hml hts hown hlocks hin hsz hP hE hD hl
  subst hsz
  have hl : lv_has ls 1 [(0, .ref h0)] := hl
  have hD := hD.self (sz := s.heap.size)
  generalize hAe : va_A [(h0, .inr (3, [.null, .null, .null, .int 0, .null, .null, .int 0, .int 0, .int 0]))] s.heap.size = A at hD ⊢
  have hA : ∀ q : Nat, s.heap.size ≤ q → A q := fun q h => by rw [← hAe]; exact Or.inr h
  have hS : va_S A s.heap s.heap [] := va_S.rf
  refine lv_aload_n hx hb dX3_init_0 rfl (lv_at hl 0 rfl) ?_
  refine W.objInit hx hb hown (hts _ m_198) (hts _ m_107) (hts _ m_108) rfl (by rw [hml]; exact hl.1) rfl dX3_init_1 (Nat.le_of_ble_eq_true rfl) (Nat.le_of_ble_eq_true rfl) ?_
  refine W.eq (g2 := F0 m 4 ls []) rfl ?_
  refine lv_aload_n hx hb dX3_init_4 rfl (lv_at hl 0 rfl) ?_
  refine lv_bipush (v := 7) hx hb dX3_init_5 (by decide) ?_
  refine nwI (n := 7) (N := 7) hx hb hts m_146 hE hP hD hS hA (by decide) (by decide) (Nat.le_of_ble_eq_true rfl) (Nat.le_of_ble_eq_true rfl) (Nat.le_of_ble_eq_true rfl) dX3_init_7 (fun nq1 H hP hD hS => ?_)
  have hP : va_P G classes [(h0, .inr (3, [.null, .null, .null, .int 0, .null, .null, .int 0, .int 0, .int 0])), (nq1, .inl (cy 0, 7, .inl (fun _ => 0)))] H := hP
  refine va_putF (D := G) (ci := 3) (v := .ref nq1) (ty := (.array .int)) (C := RX3) (T := TX3) (N := 9) hx hb hts inB3 tyX3 tyX3_ok nmX3 hown hE.1 hP hD hS 0 rfl rfl 0 (by decide) (hts _ m_218) (fun _ h9 => h9) rfl hin rfl (by decide +kernel) rfl rfl (Nat.le_of_ble_eq_true rfl) dX3_init_9 (fun H locs hP hD hS => ?_)
  have hP : va_P G classes [(h0, .inr (3, [.ref nq1, .null, .null, .int 0, .null, .null, .int 0, .int 0, .int 0])), (nq1, .inl (cy 0, 7, .inl (fun _ => 0)))] H := hP
  refine lv_aload_n hx hb dX3_init_12 rfl (lv_at hl 0 rfl) ?_
  refine lv_bipush (v := 7) hx hb dX3_init_13 (by decide) ?_
  refine nwI (n := 7) (N := 7) hx hb hts m_146 hE hP hD hS hA (by decide) (by decide) (Nat.le_of_ble_eq_true rfl) (Nat.le_of_ble_eq_true rfl) (Nat.le_of_ble_eq_true rfl) dX3_init_15 (fun nq2 H hP hD hS => ?_)
  have hP : va_P G classes [(h0, .inr (3, [.ref nq1, .null, .null, .int 0, .null, .null, .int 0, .int 0, .int 0])), (nq1, .inl (cy 0, 7, .inl (fun _ => 0))), (nq2, .inl (cy 0, 7, .inl (fun _ => 0)))] H := hP
  refine va_putF (D := G) (ci := 3) (v := .ref nq2) (ty := (.array .int)) (C := RX3) (T := TX3) (N := 9) hx hb hts inB3 tyX3 tyX3_ok nmX3 hown hE.1 hP hD hS 0 rfl rfl 1 (by decide) (hts _ m_219) (fun _ h9 => h9) rfl hin rfl (by decide +kernel) rfl rfl (Nat.le_of_ble_eq_true rfl) dX3_init_17 (fun H locs hP hD hS => ?_)
  have hP : va_P G classes [(h0, .inr (3, [.ref nq1, .ref nq2, .null, .int 0, .null, .null, .int 0, .int 0, .int 0])), (nq1, .inl (cy 0, 7, .inl (fun _ => 0))), (nq2, .inl (cy 0, 7, .inl (fun _ => 0)))] H := hP
  refine lv_aload_n hx hb dX3_init_20 rfl (lv_at hl 0 rfl) ?_
  refine lv_bipush (v := 7) hx hb dX3_init_21 (by decide) ?_
  refine nwI (n := 7) (N := 7) hx hb hts m_146 hE hP hD hS hA (by decide) (by decide) (Nat.le_of_ble_eq_true rfl) (Nat.le_of_ble_eq_true rfl) (Nat.le_of_ble_eq_true rfl) dX3_init_23 (fun nq3 H hP hD hS => ?_)
  have hP : va_P G classes [(h0, .inr (3, [.ref nq1, .ref nq2, .null, .int 0, .null, .null, .int 0, .int 0, .int 0])), (nq1, .inl (cy 0, 7, .inl (fun _ => 0))), (nq2, .inl (cy 0, 7, .inl (fun _ => 0))), (nq3, .inl (cy 0, 7, .inl (fun _ => 0)))] H := hP
  refine va_putF (D := G) (ci := 3) (v := .ref nq3) (ty := (.array .int)) (C := RX3) (T := TX3) (N := 9) hx hb hts inB3 tyX3 tyX3_ok nmX3 hown hE.1 hP hD hS 0 rfl rfl 2 (by decide) (hts _ m_220) (fun _ h9 => h9) rfl hin rfl (by decide +kernel) rfl rfl (Nat.le_of_ble_eq_true rfl) dX3_init_25 (fun H locs hP hD hS => ?_)
  have hP : va_P G classes [(h0, .inr (3, [.ref nq1, .ref nq2, .ref nq3, .int 0, .null, .null, .int 0, .int 0, .int 0])), (nq1, .inl (cy 0, 7, .inl (fun _ => 0))), (nq2, .inl (cy 0, 7, .inl (fun _ => 0))), (nq3, .inl (cy 0, 7, .inl (fun _ => 0)))] H := hP
  refine lv_aload_n hx hb dX3_init_28 rfl (lv_at hl 0 rfl) ?_
  refine lv_iconst (v := 0) hx hb dX3_init_29 (by decide) ?_
  refine va_put (D := G) (ci := 3) (v := .int 0) (ty := .int) (C := RX3) (T := TX3) (N := 9) hx hb hts inB3 tyX3 tyX3_ok nmX3 hown hE.1 hP hD hS 0 rfl rfl 3 (by decide) (hts _ m_221) (fun _ h9 => h9) rfl (by decide +kernel) rfl rfl (Nat.le_of_ble_eq_true rfl) dX3_init_30 (fun H locs hP hD hS => ?_)
  have hP : va_P G classes [(h0, .inr (3, [.ref nq1, .ref nq2, .ref nq3, .int 0, .null, .null, .int 0, .int 0, .int 0])), (nq1, .inl (cy 0, 7, .inl (fun _ => 0))), (nq2, .inl (cy 0, 7, .inl (fun _ => 0))), (nq3, .inl (cy 0, 7, .inl (fun _ => 0)))] H := hP
  refine lv_aload_n hx hb dX3_init_33 rfl (lv_at hl 0 rfl) ?_
  refine va_new (ci := 5) (fs := [.null, .int 0]) (C := RX5) (T := TX5) (N := 2) hx hb hts inB5 tyX5 tyX5_ok hown (hts _ m_199) (hts _ m_200) (hts _ m_85) hE.1 hP hD hS hA rfl df5 (Nat.le_of_ble_eq_true rfl) (Nat.le_of_ble_eq_true rfl) dX3_init_34 (fun nq4 H hP hD hS => ?_)
  have hP : va_P G classes [(h0, .inr (3, [.ref nq1, .ref nq2, .ref nq3, .int 0, .null, .null, .int 0, .int 0, .int 0])), (nq1, .inl (cy 0, 7, .inl (fun _ => 0))), (nq2, .inl (cy 0, 7, .inl (fun _ => 0))), (nq3, .inl (cy 0, 7, .inl (fun _ => 0))), (nq4, .inr (5, [.null, .int 0]))] H := hP
  refine lv_dup hx hb dX3_init_37 rfl ?_
  refine lv_bipush (v := 7) hx hb dX3_init_38 (by decide) ?_
  refine wI (B := (B_c_X5_init G cy sk (va_A [(nq4, .inr (5, [.null, .int 0]))] H.size) nq4 7 7)) (wr := [(h0, .inr (3, [.ref nq1, .ref nq2, .ref nq3, .int 0, .null, .null, .int 0, .int 0, .int 0])), (nq1, .inl (cy 0, 7, .inl (fun _ => 0))), (nq2, .inl (cy 0, 7, .inl (fun _ => 0))), (nq3, .inl (cy 0, 7, .inl (fun _ => 0)))]) (rest := [.ref nq4, .ref h0]) hx hb hml hown hts hE (c_X5_init l G cy sk H.size nq4 7 7 rfl (by decide)) kI_X5_init m_201 rfl rfl ⟨(Nat.le_of_ble_eq_true rfl), (Nat.le_of_ble_eq_true rfl)⟩ hP hD hS hA [4] [0, 1, 2, 3] rfl rfl rfl rfl (by decide) rfl rfl hl.1 (Nat.le_of_ble_eq_true rfl) dX3_init_40 ⟨(Nat.le_of_ble_eq_true rfl), (Nat.le_of_ble_eq_true rfl)⟩ (fun H locs haf hS => ?_)
  obtain ⟨xq6, hP1, hD1⟩ := haf.1
  obtain ⟨hP, hD⟩ := haf.2.1 _ hP1 hD1
  have hP : va_P G classes [(h0, .inr (3, [.ref nq1, .ref nq2, .ref nq3, .int 0, .null, .null, .int 0, .int 0, .int 0])), (nq1, .inl (cy 0, 7, .inl (fun _ => 0))), (nq2, .inl (cy 0, 7, .inl (fun _ => 0))), (nq3, .inl (cy 0, 7, .inl (fun _ => 0))), (nq4, .inr (5, [.ref xq6, .int 0])), (xq6, .inl (cy 0, 7, .inl (fun _ => 0)))] H := hP
  refine va_putF (D := G) (ci := 3) (v := .ref nq4) (ty := (.object "ClickStreet$Row")) (C := RX3) (T := TX3) (N := 9) hx hb hts inB3 tyX3 tyX3_ok nmX3 hown hE.1 hP hD hS 0 rfl rfl 4 (by decide) (hts _ m_223) (fun _ h9 => h9) rfl hin rfl (by decide +kernel) rfl rfl (Nat.le_of_ble_eq_true rfl) dX3_init_43 (fun H locs hP hD hS => ?_)
  have hP : va_P G classes [(h0, .inr (3, [.ref nq1, .ref nq2, .ref nq3, .int 0, .ref nq4, .null, .int 0, .int 0, .int 0])), (nq1, .inl (cy 0, 7, .inl (fun _ => 0))), (nq2, .inl (cy 0, 7, .inl (fun _ => 0))), (nq3, .inl (cy 0, 7, .inl (fun _ => 0))), (nq4, .inr (5, [.ref xq6, .int 0])), (xq6, .inl (cy 0, 7, .inl (fun _ => 0)))] H := hP
  refine lv_aload_n hx hb dX3_init_46 rfl (lv_at hl 0 rfl) ?_
  refine va_new (ci := 5) (fs := [.null, .int 0]) (C := RX5) (T := TX5) (N := 2) hx hb hts inB5 tyX5 tyX5_ok hown (hts _ m_199) (hts _ m_200) (hts _ m_85) hE.1 hP hD hS hA rfl df5 (Nat.le_of_ble_eq_true rfl) (Nat.le_of_ble_eq_true rfl) dX3_init_47 (fun nq7 H hP hD hS => ?_)
  have hP : va_P G classes [(h0, .inr (3, [.ref nq1, .ref nq2, .ref nq3, .int 0, .ref nq4, .null, .int 0, .int 0, .int 0])), (nq1, .inl (cy 0, 7, .inl (fun _ => 0))), (nq2, .inl (cy 0, 7, .inl (fun _ => 0))), (nq3, .inl (cy 0, 7, .inl (fun _ => 0))), (nq4, .inr (5, [.ref xq6, .int 0])), (xq6, .inl (cy 0, 7, .inl (fun _ => 0))), (nq7, .inr (5, [.null, .int 0]))] H := hP
  refine lv_dup hx hb dX3_init_50 rfl ?_
  refine lv_bipush (v := 7) hx hb dX3_init_51 (by decide) ?_
  refine wI (B := (B_c_X5_init G cy sk (va_A [(nq7, .inr (5, [.null, .int 0]))] H.size) nq7 7 7)) (wr := [(h0, .inr (3, [.ref nq1, .ref nq2, .ref nq3, .int 0, .ref nq4, .null, .int 0, .int 0, .int 0])), (nq1, .inl (cy 0, 7, .inl (fun _ => 0))), (nq2, .inl (cy 0, 7, .inl (fun _ => 0))), (nq3, .inl (cy 0, 7, .inl (fun _ => 0))), (nq4, .inr (5, [.ref xq6, .int 0])), (xq6, .inl (cy 0, 7, .inl (fun _ => 0)))]) (rest := [.ref nq7, .ref h0]) hx hb hml hown hts hE (c_X5_init l G cy sk H.size nq7 7 7 rfl (by decide)) kI_X5_init m_201 rfl rfl ⟨(Nat.le_of_ble_eq_true rfl), (Nat.le_of_ble_eq_true rfl)⟩ hP hD hS hA [6] [0, 1, 2, 3, 4, 5] rfl rfl rfl rfl (by decide) rfl rfl hl.1 (Nat.le_of_ble_eq_true rfl) dX3_init_53 ⟨(Nat.le_of_ble_eq_true rfl), (Nat.le_of_ble_eq_true rfl)⟩ (fun H locs haf hS => ?_)
  obtain ⟨xq9, hP1, hD1⟩ := haf.1
  obtain ⟨hP, hD⟩ := haf.2.1 _ hP1 hD1
  have hP : va_P G classes [(h0, .inr (3, [.ref nq1, .ref nq2, .ref nq3, .int 0, .ref nq4, .null, .int 0, .int 0, .int 0])), (nq1, .inl (cy 0, 7, .inl (fun _ => 0))), (nq2, .inl (cy 0, 7, .inl (fun _ => 0))), (nq3, .inl (cy 0, 7, .inl (fun _ => 0))), (nq4, .inr (5, [.ref xq6, .int 0])), (xq6, .inl (cy 0, 7, .inl (fun _ => 0))), (nq7, .inr (5, [.ref xq9, .int 0])), (xq9, .inl (cy 0, 7, .inl (fun _ => 0)))] H := hP
  refine va_putF (D := G) (ci := 3) (v := .ref nq7) (ty := (.object "ClickStreet$Row")) (C := RX3) (T := TX3) (N := 9) hx hb hts inB3 tyX3 tyX3_ok nmX3 hown hE.1 hP hD hS 0 rfl rfl 5 (by decide) (hts _ m_224) (fun _ h9 => h9) rfl hin rfl (by decide +kernel) rfl rfl (Nat.le_of_ble_eq_true rfl) dX3_init_56 (fun H locs hP hD hS => ?_)
  have hP : va_P G classes [(h0, .inr (3, [.ref nq1, .ref nq2, .ref nq3, .int 0, .ref nq4, .ref nq7, .int 0, .int 0, .int 0])), (nq1, .inl (cy 0, 7, .inl (fun _ => 0))), (nq2, .inl (cy 0, 7, .inl (fun _ => 0))), (nq3, .inl (cy 0, 7, .inl (fun _ => 0))), (nq4, .inr (5, [.ref xq6, .int 0])), (xq6, .inl (cy 0, 7, .inl (fun _ => 0))), (nq7, .inr (5, [.ref xq9, .int 0])), (xq9, .inl (cy 0, 7, .inl (fun _ => 0)))] H := hP
  refine lv_aload_n hx hb dX3_init_59 rfl (lv_at hl 0 rfl) ?_
  refine lv_iconst (v := 0) hx hb dX3_init_60 (by decide) ?_
  refine va_put (D := G) (ci := 3) (v := .int 0) (ty := .int) (C := RX3) (T := TX3) (N := 9) hx hb hts inB3 tyX3 tyX3_ok nmX3 hown hE.1 hP hD hS 0 rfl rfl 6 (by decide) (hts _ m_226) (fun _ h9 => h9) rfl (by decide +kernel) rfl rfl (Nat.le_of_ble_eq_true rfl) dX3_init_61 (fun H locs hP hD hS => ?_)
  have hP : va_P G classes [(h0, .inr (3, [.ref nq1, .ref nq2, .ref nq3, .int 0, .ref nq4, .ref nq7, .int 0, .int 0, .int 0])), (nq1, .inl (cy 0, 7, .inl (fun _ => 0))), (nq2, .inl (cy 0, 7, .inl (fun _ => 0))), (nq3, .inl (cy 0, 7, .inl (fun _ => 0))), (nq4, .inr (5, [.ref xq6, .int 0])), (xq6, .inl (cy 0, 7, .inl (fun _ => 0))), (nq7, .inr (5, [.ref xq9, .int 0])), (xq9, .inl (cy 0, 7, .inl (fun _ => 0)))] H := hP
  refine lv_aload_n hx hb dX3_init_64 rfl (lv_at hl 0 rfl) ?_
  refine lv_iconst (v := 0) hx hb dX3_init_65 (by decide) ?_
  refine va_put (D := G) (ci := 3) (v := .int 0) (ty := .int) (C := RX3) (T := TX3) (N := 9) hx hb hts inB3 tyX3 tyX3_ok nmX3 hown hE.1 hP hD hS 0 rfl rfl 7 (by decide) (hts _ m_227) (fun _ h9 => h9) rfl (by decide +kernel) rfl rfl (Nat.le_of_ble_eq_true rfl) dX3_init_66 (fun H locs hP hD hS => ?_)
  have hP : va_P G classes [(h0, .inr (3, [.ref nq1, .ref nq2, .ref nq3, .int 0, .ref nq4, .ref nq7, .int 0, .int 0, .int 0])), (nq1, .inl (cy 0, 7, .inl (fun _ => 0))), (nq2, .inl (cy 0, 7, .inl (fun _ => 0))), (nq3, .inl (cy 0, 7, .inl (fun _ => 0))), (nq4, .inr (5, [.ref xq6, .int 0])), (xq6, .inl (cy 0, 7, .inl (fun _ => 0))), (nq7, .inr (5, [.ref xq9, .int 0])), (xq9, .inl (cy 0, 7, .inl (fun _ => 0)))] H := hP
  refine lv_aload_n hx hb dX3_init_69 rfl (lv_at hl 0 rfl) ?_
  refine lv_iconst (v := 0) hx hb dX3_init_70 (by decide) ?_
  refine va_put (D := G) (ci := 3) (v := .int 0) (ty := .boolean) (C := RX3) (T := TX3) (N := 9) hx hb hts inB3 tyX3 tyX3_ok nmX3 hown hE.1 hP hD hS 0 rfl rfl 8 (by decide) (hts _ m_229) (fun _ h9 => h9) rfl (by decide +kernel) rfl rfl (Nat.le_of_ble_eq_true rfl) dX3_init_71 (fun H locs hP hD hS => ?_)
  have hP : va_P G classes [(h0, .inr (3, [.ref nq1, .ref nq2, .ref nq3, .int 0, .ref nq4, .ref nq7, .int 0, .int 0, .int 0])), (nq1, .inl (cy 0, 7, .inl (fun _ => 0))), (nq2, .inl (cy 0, 7, .inl (fun _ => 0))), (nq3, .inl (cy 0, 7, .inl (fun _ => 0))), (nq4, .inr (5, [.ref xq6, .int 0])), (xq6, .inl (cy 0, 7, .inl (fun _ => 0))), (nq7, .inr (5, [.ref xq9, .int 0])), (xq9, .inl (cy 0, 7, .inl (fun _ => 0)))] H := hP
  have hP9 : va_P G classes [(h0, .inr (3, [.ref nq1, .ref nq2, .ref nq3, .int 0, .ref nq4, .ref nq7, .int 0, .int 0, .int 0])), (nq1, .inl (cy 0, 7, .inl (fun _ => 0))), (nq2, .inl (cy 0, 7, .inl (fun _ => 0))), (nq3, .inl (cy 0, 7, .inl (fun _ => 0))), (nq4, .inr (5, [.ref xq6, .int 0])), (xq6, .inl (cy 0, 7, .inl (fun _ => 0))), (nq7, .inr (5, [.ref xq9, .int 0])), (xq9, .inl (cy 0, 7, .inl (fun _ => 0)))] H := hP
  have hD9 : va_D A [(h0, .inr (3, [.ref nq1, .ref nq2, .ref nq3, .int 0, .ref nq4, .ref nq7, .int 0, .int 0, .int 0])), (nq1, .inl (cy 0, 7, .inl (fun _ => 0))), (nq2, .inl (cy 0, 7, .inl (fun _ => 0))), (nq3, .inl (cy 0, 7, .inl (fun _ => 0))), (nq4, .inr (5, [.ref xq6, .int 0])), (xq6, .inl (cy 0, 7, .inl (fun _ => 0))), (nq7, .inr (5, [.ref xq9, .int 0])), (xq9, .inl (cy 0, 7, .inl (fun _ => 0)))] := hD
  refine W.widen (k := 7) (n := 225) (by first | exact Nat.le_of_ble_eq_true rfl | omega) (by first | exact Nat.le_of_ble_eq_true rfl | omega) ?_
  exact W.vret hx hb hr (fun t ht hW => ⟨⟨(), rfl, trivial, by dsimp only; rw [ht]; exact ⟨nq1, nq2, nq3, nq4, nq7, xq6, xq9, hP9, hD9⟩⟩, hS.F ht⟩) hS.2.2 dX3_init_74
def B_c_X2_init (G : va_G) (cy : Nat → ClassId) (sk : Nat → Nat) (A : Nat → Prop) (h0 : Nat) (H : Heap) : Prop := ∃ (ld : Nat) (sr : Nat) (tx : Nat) (vl : Nat) (f0 : Nat) (c0 : Nat) (k0 : Nat) (f1 : Nat) (c1 : Nat) (k1 : Nat) (f2 : Nat) (c2 : Nat) (k2 : Nat) (fl : Nat → Int32) (gt : Nat → Option Nat), (gt 0 = some f0) ∧ (gt 1 = some f1) ∧ (gt 2 = some f2) ∧ (∀ j, j < 5 → fl j = 50) ∧ va_P G classes [(h0, .inr (2, [.int 5, .int 9, .int 0, .ref ld, .ref sr, .ref tx, .ref vl])), (ld, .inl (cy 0, 5, .inl fl)), (sr, .inl (cy 0, 5, .inl (fun _ => 0))), (tx, .inl (cy 3, 3, .inr (.inr (.inr (.inr gt))))), (vl, .inl (cy 0, 5, .inl (fun _ => 0))), (f0, .inr (1, [.ref c0, .ref k0, .int 0])), (c0, .inl (cy 0, 48, .inl (fun _ => 0))), (k0, .inl (cy 0, 48, .inl (fun _ => 0))), (f1, .inr (1, [.ref c1, .ref k1, .int 0])), (c1, .inl (cy 0, 48, .inl (fun _ => 0))), (k1, .inl (cy 0, 48, .inl (fun _ => 0))), (f2, .inr (1, [.ref c2, .ref k2, .int 0])), (c2, .inl (cy 0, 48, .inl (fun _ => 0))), (k2, .inl (cy 0, 48, .inl (fun _ => 0)))] H ∧ va_D A [(h0, .inr (2, [.int 5, .int 9, .int 0, .ref ld, .ref sr, .ref tx, .ref vl])), (ld, .inl (cy 0, 5, .inl fl)), (sr, .inl (cy 0, 5, .inl (fun _ => 0))), (tx, .inl (cy 3, 3, .inr (.inr (.inr (.inr gt))))), (vl, .inl (cy 0, 5, .inl (fun _ => 0))), (f0, .inr (1, [.ref c0, .ref k0, .int 0])), (c0, .inl (cy 0, 48, .inl (fun _ => 0))), (k0, .inl (cy 0, 48, .inl (fun _ => 0))), (f1, .inr (1, [.ref c1, .ref k1, .int 0])), (c1, .inl (cy 0, 48, .inl (fun _ => 0))), (k1, .inl (cy 0, 48, .inl (fun _ => 0))), (f2, .inr (1, [.ref c2, .ref k2, .int 0])), (c2, .inl (cy 0, 48, .inl (fun _ => 0))), (k2, .inl (cy 0, 48, .inl (fun _ => 0)))]
set_option maxHeartbeats 4000000 in
set_option maxRecDepth 100000 in
theorem c_X2_init (l : Launch) (G : va_G) (cy : Nat → ClassId) (sk : Nat → Nat) (sz : Nat) (h0 : Nat)  : Met l yX2_init (wsO yX2_init cX2_init 2 none) ({ frames := 2, cells := 13, slots := 315, locals := 32 }) (va_Pc [.ref h0] (PR G cy sk sz [(h0, .inr (2, [.int 0, .int 0, .int 0, .null, .null, .null, .null]))])) (va_Qv (fun (_ : Unit) => True) (fun _ t => B_c_X2_init G cy sk (va_A [(h0, .inr (2, [.int 0, .int 0, .int 0, .null, .null, .null, .null]))] sz) h0 t.heap) (va_A [(h0, .inr (2, [.int 0, .int 0, .int 0, .null, .null, .null, .null]))] sz)) 13 315 (va_A [(h0, .inr (2, [.int 0, .int 0, .int 0, .null, .null, .null, .null]))] sz) := by
  refine mt (by decide) (Nat.le_of_ble_eq_true rfl) ?_
  intro p e s m below meth c ls hx hb hr hml hts hown hlocks hin hsz hP hE hD hl
  subst hsz
  have hl : lv_has ls 2 [(0, .ref h0)] := hl
  have hD := hD.self (sz := s.heap.size)
  generalize hAe : va_A [(h0, .inr (2, [.int 0, .int 0, .int 0, .null, .null, .null, .null]))] s.heap.size = A at hD ⊢
  have hA : ∀ q : Nat, s.heap.size ≤ q → A q := fun q h => by rw [← hAe]; exact Or.inr h
  have hS : va_S A s.heap s.heap [] := va_S.rf
  refine lv_aload_n hx hb dX2_init_0 rfl (lv_at hl 0 rfl) ?_
  refine W.objInit hx hb hown (hts _ m_152) (hts _ m_107) (hts _ m_108) rfl (by rw [hml]; exact hl.1) rfl dX2_init_1 (Nat.le_of_ble_eq_true rfl) (Nat.le_of_ble_eq_true rfl) ?_
  refine W.eq (g2 := F0 m 4 ls []) rfl ?_
  refine lv_aload_n hx hb dX2_init_4 rfl (lv_at hl 0 rfl) ?_
  refine lv_iconst (v := 5) hx hb dX2_init_5 (by decide) ?_
  refine va_put (D := G) (ci := 2) (v := .int 5) (ty := .int) (C := RX2) (T := TX2) (N := 7) hx hb hts inB2 tyX2 tyX2_ok nmX2 hown hE.1 hP hD hS 0 rfl rfl 0 (by decide) (hts _ m_170) (fun _ h9 => h9) rfl (by decide +kernel) rfl rfl (Nat.le_of_ble_eq_true rfl) dX2_init_6 (fun H locs hP hD hS => ?_)
  have hP : va_P G classes [(h0, .inr (2, [.int 5, .int 0, .int 0, .null, .null, .null, .null]))] H := hP
  refine lv_aload_n hx hb dX2_init_9 rfl (lv_at hl 0 rfl) ?_
  refine lv_bipush (v := 9) hx hb dX2_init_10 (by decide) ?_
  refine va_put (D := G) (ci := 2) (v := .int 9) (ty := .int) (C := RX2) (T := TX2) (N := 7) hx hb hts inB2 tyX2 tyX2_ok nmX2 hown hE.1 hP hD hS 0 rfl rfl 1 (by decide) (hts _ m_171) (fun _ h9 => h9) rfl (by decide +kernel) rfl rfl (Nat.le_of_ble_eq_true rfl) dX2_init_12 (fun H locs hP hD hS => ?_)
  have hP : va_P G classes [(h0, .inr (2, [.int 5, .int 9, .int 0, .null, .null, .null, .null]))] H := hP
  refine lv_aload_n hx hb dX2_init_15 rfl (lv_at hl 0 rfl) ?_
  refine lv_iconst (v := 0) hx hb dX2_init_16 (by decide) ?_
  refine va_put (D := G) (ci := 2) (v := .int 0) (ty := .int) (C := RX2) (T := TX2) (N := 7) hx hb hts inB2 tyX2 tyX2_ok nmX2 hown hE.1 hP hD hS 0 rfl rfl 2 (by decide) (hts _ m_172) (fun _ h9 => h9) rfl (by decide +kernel) rfl rfl (Nat.le_of_ble_eq_true rfl) dX2_init_17 (fun H locs hP hD hS => ?_)
  have hP : va_P G classes [(h0, .inr (2, [.int 5, .int 9, .int 0, .null, .null, .null, .null]))] H := hP
  refine lv_aload_n hx hb dX2_init_20 rfl (lv_at hl 0 rfl) ?_
  refine lv_iconst (v := 5) hx hb dX2_init_21 (by decide) ?_
  refine nwI (n := 5) (N := 5) hx hb hts m_146 hE hP hD hS hA (by decide) (by decide) (Nat.le_of_ble_eq_true rfl) (Nat.le_of_ble_eq_true rfl) (Nat.le_of_ble_eq_true rfl) dX2_init_22 (fun nq1 H hP hD hS => ?_)
  have hP : va_P G classes [(h0, .inr (2, [.int 5, .int 9, .int 0, .null, .null, .null, .null])), (nq1, .inl (cy 0, 5, .inl (fun _ => 0)))] H := hP
  refine va_putF (D := G) (ci := 2) (v := .ref nq1) (ty := (.array .int)) (C := RX2) (T := TX2) (N := 7) hx hb hts inB2 tyX2 tyX2_ok nmX2 hown hE.1 hP hD hS 0 rfl rfl 3 (by decide) (hts _ m_173) (fun _ h9 => h9) rfl hin rfl (by decide +kernel) rfl rfl (Nat.le_of_ble_eq_true rfl) dX2_init_24 (fun H locs hP hD hS => ?_)
  have hP : va_P G classes [(h0, .inr (2, [.int 5, .int 9, .int 0, .ref nq1, .null, .null, .null])), (nq1, .inl (cy 0, 5, .inl (fun _ => 0)))] H := hP
  refine lv_aload_n hx hb dX2_init_27 rfl (lv_at hl 0 rfl) ?_
  refine lv_iconst (v := 5) hx hb dX2_init_28 (by decide) ?_
  refine nwI (n := 5) (N := 5) hx hb hts m_146 hE hP hD hS hA (by decide) (by decide) (Nat.le_of_ble_eq_true rfl) (Nat.le_of_ble_eq_true rfl) (Nat.le_of_ble_eq_true rfl) dX2_init_29 (fun nq2 H hP hD hS => ?_)
  have hP : va_P G classes [(h0, .inr (2, [.int 5, .int 9, .int 0, .ref nq1, .null, .null, .null])), (nq1, .inl (cy 0, 5, .inl (fun _ => 0))), (nq2, .inl (cy 0, 5, .inl (fun _ => 0)))] H := hP
  refine va_putF (D := G) (ci := 2) (v := .ref nq2) (ty := (.array .int)) (C := RX2) (T := TX2) (N := 7) hx hb hts inB2 tyX2 tyX2_ok nmX2 hown hE.1 hP hD hS 0 rfl rfl 4 (by decide) (hts _ m_174) (fun _ h9 => h9) rfl hin rfl (by decide +kernel) rfl rfl (Nat.le_of_ble_eq_true rfl) dX2_init_31 (fun H locs hP hD hS => ?_)
  have hP : va_P G classes [(h0, .inr (2, [.int 5, .int 9, .int 0, .ref nq1, .ref nq2, .null, .null])), (nq1, .inl (cy 0, 5, .inl (fun _ => 0))), (nq2, .inl (cy 0, 5, .inl (fun _ => 0)))] H := hP
  refine lv_aload_n hx hb dX2_init_34 rfl (lv_at hl 0 rfl) ?_
  refine lv_iconst (v := 3) hx hb dX2_init_35 (by decide) ?_
  refine nwQ (n := 3) (N := 3) (C := "ClickStreet$Formula") (t0 := 3) hx hb hown hts m_153 (by decide) hE hP hD hS hA rfl (by decide) (by decide) (Nat.le_of_ble_eq_true rfl) (Nat.le_of_ble_eq_true rfl) (Nat.le_of_ble_eq_true rfl) dX2_init_36 (fun nq3 H hP hD hS => ?_)
  have hP : va_P G classes [(h0, .inr (2, [.int 5, .int 9, .int 0, .ref nq1, .ref nq2, .null, .null])), (nq1, .inl (cy 0, 5, .inl (fun _ => 0))), (nq2, .inl (cy 0, 5, .inl (fun _ => 0))), (nq3, .inl (cy 3, 3, .inr (.inr (.inr (.inr (fun _ => none))))))] H := hP
  refine va_putF (D := G) (ci := 2) (v := .ref nq3) (ty := (.array (.object "ClickStreet$Formula"))) (C := RX2) (T := TX2) (N := 7) hx hb hts inB2 tyX2 tyX2_ok nmX2 hown hE.1 hP hD hS 0 rfl rfl 5 (by decide) (hts _ m_175) (fun _ h9 => h9) rfl hin rfl (by decide +kernel) rfl rfl (Nat.le_of_ble_eq_true rfl) dX2_init_39 (fun H locs hP hD hS => ?_)
  have hP : va_P G classes [(h0, .inr (2, [.int 5, .int 9, .int 0, .ref nq1, .ref nq2, .ref nq3, .null])), (nq1, .inl (cy 0, 5, .inl (fun _ => 0))), (nq2, .inl (cy 0, 5, .inl (fun _ => 0))), (nq3, .inl (cy 3, 3, .inr (.inr (.inr (.inr (fun _ => none))))))] H := hP
  refine lv_aload_n hx hb dX2_init_42 rfl (lv_at hl 0 rfl) ?_
  refine lv_iconst (v := 5) hx hb dX2_init_43 (by decide) ?_
  refine nwI (n := 5) (N := 5) hx hb hts m_146 hE hP hD hS hA (by decide) (by decide) (Nat.le_of_ble_eq_true rfl) (Nat.le_of_ble_eq_true rfl) (Nat.le_of_ble_eq_true rfl) dX2_init_44 (fun nq4 H hP hD hS => ?_)
  have hP : va_P G classes [(h0, .inr (2, [.int 5, .int 9, .int 0, .ref nq1, .ref nq2, .ref nq3, .null])), (nq1, .inl (cy 0, 5, .inl (fun _ => 0))), (nq2, .inl (cy 0, 5, .inl (fun _ => 0))), (nq3, .inl (cy 3, 3, .inr (.inr (.inr (.inr (fun _ => none)))))), (nq4, .inl (cy 0, 5, .inl (fun _ => 0)))] H := hP
  refine va_putF (D := G) (ci := 2) (v := .ref nq4) (ty := (.array .int)) (C := RX2) (T := TX2) (N := 7) hx hb hts inB2 tyX2 tyX2_ok nmX2 hown hE.1 hP hD hS 0 rfl rfl 6 (by decide) (hts _ m_177) (fun _ h9 => h9) rfl hin rfl (by decide +kernel) rfl rfl (Nat.le_of_ble_eq_true rfl) dX2_init_46 (fun H locs hP hD hS => ?_)
  have hP : va_P G classes [(h0, .inr (2, [.int 5, .int 9, .int 0, .ref nq1, .ref nq2, .ref nq3, .ref nq4])), (nq1, .inl (cy 0, 5, .inl (fun _ => 0))), (nq2, .inl (cy 0, 5, .inl (fun _ => 0))), (nq3, .inl (cy 3, 3, .inr (.inr (.inr (.inr (fun _ => none)))))), (nq4, .inl (cy 0, 5, .inl (fun _ => 0)))] H := hP
  refine lv_iconst (v := 0) hx hb dX2_init_49 (by decide) ?_
  refine lv_istore_n (lv' := [(1, .int 0), (0, .ref h0)]) hx hb dX2_init_50 rfl hl (by decide) rfl (fun ls hl => ?_)
  refine lv_iload_n hx hb dX2_init_51 rfl (lv_at hl 0 rfl) ?_
  refine lv_iconst (v := 5) hx hb dX2_init_52 (by decide) ?_
  refine lv_icmp_ge (tgt := 70) hx hb dX2_init_53 (by decide) (fun h9 => absurd h9 (by decide)) (fun _ => ?_)
  refine lv_aload_n hx hb dX2_init_56 rfl (lv_at hl 1 rfl) ?_
  refine va_get (D := G) (ci := 2) (v := .ref nq1) (C := RX2) (T := TX2) (N := 7) hx hb hts inB2 hown hE.1 hP 0 rfl rfl 3 (by decide) (hts _ m_173) (fun _ h9 => h9) rfl dX2_init_57 ?_
  refine lv_iload_n hx hb dX2_init_60 rfl (lv_at hl 0 rfl) ?_
  refine lv_bipush (v := 50) hx hb dX2_init_61 (by decide) ?_
  refine va_iast hx hb hE.1 hP hD hS 1 0 rfl rfl (vinL (by decide)) dX2_init_63 (fun H locs hP hD hS => ?_)
  have hP : va_P G classes [(h0, .inr (2, [.int 5, .int 9, .int 0, .ref nq1, .ref nq2, .ref nq3, .ref nq4])), (nq1, .inl (cy 0, 5, .inl (upd (fun _ => 0) 0 50))), (nq2, .inl (cy 0, 5, .inl (fun _ => 0))), (nq3, .inl (cy 3, 3, .inr (.inr (.inr (.inr (fun _ => none)))))), (nq4, .inl (cy 0, 5, .inl (fun _ => 0)))] H := hP
  refine lv_iinc (v := 1) (lv' := [(1, .int 1), (0, .ref h0)]) hx hb dX2_init_64 hl (k := 0) rfl (by decide) (by decide) rfl (fun ls hl => ?_)
  refine lv_goto (tgt := 51) hx hb dX2_init_67 (by decide) ?_
  refine lv_iload_n hx hb dX2_init_51 rfl (lv_at hl 0 rfl) ?_
  refine lv_iconst (v := 5) hx hb dX2_init_52 (by decide) ?_
  refine lv_icmp_ge (tgt := 70) hx hb dX2_init_53 (by decide) (fun h9 => absurd h9 (by decide)) (fun _ => ?_)
  refine lv_aload_n hx hb dX2_init_56 rfl (lv_at hl 1 rfl) ?_
  refine va_get (D := G) (ci := 2) (v := .ref nq1) (C := RX2) (T := TX2) (N := 7) hx hb hts inB2 hown hE.1 hP 0 rfl rfl 3 (by decide) (hts _ m_173) (fun _ h9 => h9) rfl dX2_init_57 ?_
  refine lv_iload_n hx hb dX2_init_60 rfl (lv_at hl 0 rfl) ?_
  refine lv_bipush (v := 50) hx hb dX2_init_61 (by decide) ?_
  refine va_iast hx hb hE.1 hP hD hS 1 0 rfl rfl (vinL (by decide)) dX2_init_63 (fun H locs hP hD hS => ?_)
  have hP : va_P G classes [(h0, .inr (2, [.int 5, .int 9, .int 0, .ref nq1, .ref nq2, .ref nq3, .ref nq4])), (nq1, .inl (cy 0, 5, .inl (upd (upd (fun _ => 0) 0 50) 1 50))), (nq2, .inl (cy 0, 5, .inl (fun _ => 0))), (nq3, .inl (cy 3, 3, .inr (.inr (.inr (.inr (fun _ => none)))))), (nq4, .inl (cy 0, 5, .inl (fun _ => 0)))] H := hP
  refine lv_iinc (v := 2) (lv' := [(1, .int 2), (0, .ref h0)]) hx hb dX2_init_64 hl (k := 0) rfl (by decide) (by decide) rfl (fun ls hl => ?_)
  refine lv_goto (tgt := 51) hx hb dX2_init_67 (by decide) ?_
  refine lv_iload_n hx hb dX2_init_51 rfl (lv_at hl 0 rfl) ?_
  refine lv_iconst (v := 5) hx hb dX2_init_52 (by decide) ?_
  refine lv_icmp_ge (tgt := 70) hx hb dX2_init_53 (by decide) (fun h9 => absurd h9 (by decide)) (fun _ => ?_)
  refine lv_aload_n hx hb dX2_init_56 rfl (lv_at hl 1 rfl) ?_
  refine va_get (D := G) (ci := 2) (v := .ref nq1) (C := RX2) (T := TX2) (N := 7) hx hb hts inB2 hown hE.1 hP 0 rfl rfl 3 (by decide) (hts _ m_173) (fun _ h9 => h9) rfl dX2_init_57 ?_
  refine lv_iload_n hx hb dX2_init_60 rfl (lv_at hl 0 rfl) ?_
  refine lv_bipush (v := 50) hx hb dX2_init_61 (by decide) ?_
  refine va_iast hx hb hE.1 hP hD hS 1 0 rfl rfl (vinL (by decide)) dX2_init_63 (fun H locs hP hD hS => ?_)
  have hP : va_P G classes [(h0, .inr (2, [.int 5, .int 9, .int 0, .ref nq1, .ref nq2, .ref nq3, .ref nq4])), (nq1, .inl (cy 0, 5, .inl (upd (upd (upd (fun _ => 0) 0 50) 1 50) 2 50))), (nq2, .inl (cy 0, 5, .inl (fun _ => 0))), (nq3, .inl (cy 3, 3, .inr (.inr (.inr (.inr (fun _ => none)))))), (nq4, .inl (cy 0, 5, .inl (fun _ => 0)))] H := hP
  refine lv_iinc (v := 3) (lv' := [(1, .int 3), (0, .ref h0)]) hx hb dX2_init_64 hl (k := 0) rfl (by decide) (by decide) rfl (fun ls hl => ?_)
  refine lv_goto (tgt := 51) hx hb dX2_init_67 (by decide) ?_
  refine lv_iload_n hx hb dX2_init_51 rfl (lv_at hl 0 rfl) ?_
  refine lv_iconst (v := 5) hx hb dX2_init_52 (by decide) ?_
  refine lv_icmp_ge (tgt := 70) hx hb dX2_init_53 (by decide) (fun h9 => absurd h9 (by decide)) (fun _ => ?_)
  refine lv_aload_n hx hb dX2_init_56 rfl (lv_at hl 1 rfl) ?_
  refine va_get (D := G) (ci := 2) (v := .ref nq1) (C := RX2) (T := TX2) (N := 7) hx hb hts inB2 hown hE.1 hP 0 rfl rfl 3 (by decide) (hts _ m_173) (fun _ h9 => h9) rfl dX2_init_57 ?_
  refine lv_iload_n hx hb dX2_init_60 rfl (lv_at hl 0 rfl) ?_
  refine lv_bipush (v := 50) hx hb dX2_init_61 (by decide) ?_
  refine va_iast hx hb hE.1 hP hD hS 1 0 rfl rfl (vinL (by decide)) dX2_init_63 (fun H locs hP hD hS => ?_)
  have hP : va_P G classes [(h0, .inr (2, [.int 5, .int 9, .int 0, .ref nq1, .ref nq2, .ref nq3, .ref nq4])), (nq1, .inl (cy 0, 5, .inl (upd (upd (upd (upd (fun _ => 0) 0 50) 1 50) 2 50) 3 50))), (nq2, .inl (cy 0, 5, .inl (fun _ => 0))), (nq3, .inl (cy 3, 3, .inr (.inr (.inr (.inr (fun _ => none)))))), (nq4, .inl (cy 0, 5, .inl (fun _ => 0)))] H := hP
  refine lv_iinc (v := 4) (lv' := [(1, .int 4), (0, .ref h0)]) hx hb dX2_init_64 hl (k := 0) rfl (by decide) (by decide) rfl (fun ls hl => ?_)
  refine lv_goto (tgt := 51) hx hb dX2_init_67 (by decide) ?_
  refine lv_iload_n hx hb dX2_init_51 rfl (lv_at hl 0 rfl) ?_
  refine lv_iconst (v := 5) hx hb dX2_init_52 (by decide) ?_
  refine lv_icmp_ge (tgt := 70) hx hb dX2_init_53 (by decide) (fun h9 => absurd h9 (by decide)) (fun _ => ?_)
  refine lv_aload_n hx hb dX2_init_56 rfl (lv_at hl 1 rfl) ?_
  refine va_get (D := G) (ci := 2) (v := .ref nq1) (C := RX2) (T := TX2) (N := 7) hx hb hts inB2 hown hE.1 hP 0 rfl rfl 3 (by decide) (hts _ m_173) (fun _ h9 => h9) rfl dX2_init_57 ?_
  refine lv_iload_n hx hb dX2_init_60 rfl (lv_at hl 0 rfl) ?_
  refine lv_bipush (v := 50) hx hb dX2_init_61 (by decide) ?_
  refine va_iast hx hb hE.1 hP hD hS 1 0 rfl rfl (vinL (by decide)) dX2_init_63 (fun H locs hP hD hS => ?_)
  have hP : va_P G classes [(h0, .inr (2, [.int 5, .int 9, .int 0, .ref nq1, .ref nq2, .ref nq3, .ref nq4])), (nq1, .inl (cy 0, 5, .inl (upd (upd (upd (upd (upd (fun _ => 0) 0 50) 1 50) 2 50) 3 50) 4 50))), (nq2, .inl (cy 0, 5, .inl (fun _ => 0))), (nq3, .inl (cy 3, 3, .inr (.inr (.inr (.inr (fun _ => none)))))), (nq4, .inl (cy 0, 5, .inl (fun _ => 0)))] H := hP
  refine lv_iinc (v := 5) (lv' := [(1, .int 5), (0, .ref h0)]) hx hb dX2_init_64 hl (k := 0) rfl (by decide) (by decide) rfl (fun ls hl => ?_)
  refine lv_goto (tgt := 51) hx hb dX2_init_67 (by decide) ?_
  refine lv_iload_n hx hb dX2_init_51 rfl (lv_at hl 0 rfl) ?_
  refine lv_iconst (v := 5) hx hb dX2_init_52 (by decide) ?_
  refine lv_icmp_ge (tgt := 70) hx hb dX2_init_53 (by decide) (fun _ => ?_) (fun h9 => absurd h9 (by decide))
  refine lv_iconst (v := 0) hx hb dX2_init_70 (by decide) ?_
  refine lv_istore_n (lv' := [(1, .int 0), (0, .ref h0)]) hx hb dX2_init_71 rfl hl (by decide) rfl (fun ls hl => ?_)
  refine lv_iload_n hx hb dX2_init_72 rfl (lv_at hl 0 rfl) ?_
  refine lv_iconst (v := 3) hx hb dX2_init_73 (by decide) ?_
  refine lv_icmp_ge (tgt := 96) hx hb dX2_init_74 (by decide) (fun h9 => absurd h9 (by decide)) (fun _ => ?_)
  refine lv_aload_n hx hb dX2_init_77 rfl (lv_at hl 1 rfl) ?_
  refine va_get (D := G) (ci := 2) (v := .ref nq3) (C := RX2) (T := TX2) (N := 7) hx hb hts inB2 hown hE.1 hP 0 rfl rfl 5 (by decide) (hts _ m_175) (fun _ h9 => h9) rfl dX2_init_78 ?_
  refine lv_iload_n hx hb dX2_init_81 rfl (lv_at hl 0 rfl) ?_
  refine va_new (ci := 1) (fs := [.null, .null, .int 0]) (C := RX1) (T := TX1) (N := 3) hx hb hts inB1 tyX1 tyX1_ok hown (hts _ m_153) (hts _ m_155) (hts _ m_83) hE.1 hP hD hS hA rfl df1 (Nat.le_of_ble_eq_true rfl) (Nat.le_of_ble_eq_true rfl) dX2_init_82 (fun nq5 H hP hD hS => ?_)
  have hP : va_P G classes [(h0, .inr (2, [.int 5, .int 9, .int 0, .ref nq1, .ref nq2, .ref nq3, .ref nq4])), (nq1, .inl (cy 0, 5, .inl (upd (upd (upd (upd (upd (fun _ => 0) 0 50) 1 50) 2 50) 3 50) 4 50))), (nq2, .inl (cy 0, 5, .inl (fun _ => 0))), (nq3, .inl (cy 3, 3, .inr (.inr (.inr (.inr (fun _ => none)))))), (nq4, .inl (cy 0, 5, .inl (fun _ => 0))), (nq5, .inr (1, [.null, .null, .int 0]))] H := hP
  refine lv_dup hx hb dX2_init_85 rfl ?_
  refine wIN (B := (B_c_X1_init G cy sk (va_A [(nq5, .inr (1, [.null, .null, .int 0]))] H.size) nq5)) (wr := [(h0, .inr (2, [.int 5, .int 9, .int 0, .ref nq1, .ref nq2, .ref nq3, .ref nq4])), (nq1, .inl (cy 0, 5, .inl (upd (upd (upd (upd (upd (fun _ => 0) 0 50) 1 50) 2 50) 3 50) 4 50))), (nq2, .inl (cy 0, 5, .inl (fun _ => 0))), (nq3, .inl (cy 3, 3, .inr (.inr (.inr (.inr (fun _ => none)))))), (nq4, .inl (cy 0, 5, .inl (fun _ => 0)))]) (rest := [.ref nq5, .int 0, .ref nq3]) (host := "ClickStreet") hx hb hml hown hts hE (c_X1_init l G cy sk H.size nq5) kI_X1_init (by decide +kernel) rfl rfl ⟨(Nat.le_of_ble_eq_true rfl), (Nat.le_of_ble_eq_true rfl)⟩ hP hD hS hA [5] [0, 1, 2, 3, 4] rfl rfl rfl rfl (by decide) rfl rfl hl.1 (Nat.le_of_ble_eq_true rfl) dX2_init_86 ⟨(Nat.le_of_ble_eq_true rfl), (Nat.le_of_ble_eq_true rfl)⟩ (fun H locs haf hS => ?_)
  obtain ⟨xq7, xq8, hP1, hD1⟩ := haf.1
  obtain ⟨hP, hD⟩ := haf.2.1 _ hP1 hD1
  have hP : va_P G classes [(h0, .inr (2, [.int 5, .int 9, .int 0, .ref nq1, .ref nq2, .ref nq3, .ref nq4])), (nq1, .inl (cy 0, 5, .inl (upd (upd (upd (upd (upd (fun _ => 0) 0 50) 1 50) 2 50) 3 50) 4 50))), (nq2, .inl (cy 0, 5, .inl (fun _ => 0))), (nq3, .inl (cy 3, 3, .inr (.inr (.inr (.inr (fun _ => none)))))), (nq4, .inl (cy 0, 5, .inl (fun _ => 0))), (nq5, .inr (1, [.ref xq7, .ref xq8, .int 0])), (xq7, .inl (cy 0, 48, .inl (fun _ => 0))), (xq8, .inl (cy 0, 48, .inl (fun _ => 0)))] H := hP
  refine va_astq hx hb hE.1 hP hD hS 3 3 5 1 rfl rfl rfl rfl (vinL (by decide)) dX2_init_89 (fun H locs hP hD hS => ?_)
  have hP : va_P G classes [(h0, .inr (2, [.int 5, .int 9, .int 0, .ref nq1, .ref nq2, .ref nq3, .ref nq4])), (nq1, .inl (cy 0, 5, .inl (upd (upd (upd (upd (upd (fun _ => 0) 0 50) 1 50) 2 50) 3 50) 4 50))), (nq2, .inl (cy 0, 5, .inl (fun _ => 0))), (nq3, .inl (cy 3, 3, .inr (.inr (.inr (.inr (va_up (fun _ => none) 0 (some nq5))))))), (nq4, .inl (cy 0, 5, .inl (fun _ => 0))), (nq5, .inr (1, [.ref xq7, .ref xq8, .int 0])), (xq7, .inl (cy 0, 48, .inl (fun _ => 0))), (xq8, .inl (cy 0, 48, .inl (fun _ => 0)))] H := hP
  refine lv_iinc (v := 1) (lv' := [(1, .int 1), (0, .ref h0)]) hx hb dX2_init_90 hl (k := 0) rfl (by decide) (by decide) rfl (fun ls hl => ?_)
  refine lv_goto (tgt := 72) hx hb dX2_init_93 (by decide) ?_
  refine lv_iload_n hx hb dX2_init_72 rfl (lv_at hl 0 rfl) ?_
  refine lv_iconst (v := 3) hx hb dX2_init_73 (by decide) ?_
  refine lv_icmp_ge (tgt := 96) hx hb dX2_init_74 (by decide) (fun h9 => absurd h9 (by decide)) (fun _ => ?_)
  refine lv_aload_n hx hb dX2_init_77 rfl (lv_at hl 1 rfl) ?_
  refine va_get (D := G) (ci := 2) (v := .ref nq3) (C := RX2) (T := TX2) (N := 7) hx hb hts inB2 hown hE.1 hP 0 rfl rfl 5 (by decide) (hts _ m_175) (fun _ h9 => h9) rfl dX2_init_78 ?_
  refine lv_iload_n hx hb dX2_init_81 rfl (lv_at hl 0 rfl) ?_
  refine va_new (ci := 1) (fs := [.null, .null, .int 0]) (C := RX1) (T := TX1) (N := 3) hx hb hts inB1 tyX1 tyX1_ok hown (hts _ m_153) (hts _ m_155) (hts _ m_83) hE.1 hP hD hS hA rfl df1 (Nat.le_of_ble_eq_true rfl) (Nat.le_of_ble_eq_true rfl) dX2_init_82 (fun nq9 H hP hD hS => ?_)
  have hP : va_P G classes [(h0, .inr (2, [.int 5, .int 9, .int 0, .ref nq1, .ref nq2, .ref nq3, .ref nq4])), (nq1, .inl (cy 0, 5, .inl (upd (upd (upd (upd (upd (fun _ => 0) 0 50) 1 50) 2 50) 3 50) 4 50))), (nq2, .inl (cy 0, 5, .inl (fun _ => 0))), (nq3, .inl (cy 3, 3, .inr (.inr (.inr (.inr (va_up (fun _ => none) 0 (some nq5))))))), (nq4, .inl (cy 0, 5, .inl (fun _ => 0))), (nq5, .inr (1, [.ref xq7, .ref xq8, .int 0])), (xq7, .inl (cy 0, 48, .inl (fun _ => 0))), (xq8, .inl (cy 0, 48, .inl (fun _ => 0))), (nq9, .inr (1, [.null, .null, .int 0]))] H := hP
  refine lv_dup hx hb dX2_init_85 rfl ?_
  refine wIN (B := (B_c_X1_init G cy sk (va_A [(nq9, .inr (1, [.null, .null, .int 0]))] H.size) nq9)) (wr := [(h0, .inr (2, [.int 5, .int 9, .int 0, .ref nq1, .ref nq2, .ref nq3, .ref nq4])), (nq1, .inl (cy 0, 5, .inl (upd (upd (upd (upd (upd (fun _ => 0) 0 50) 1 50) 2 50) 3 50) 4 50))), (nq2, .inl (cy 0, 5, .inl (fun _ => 0))), (nq3, .inl (cy 3, 3, .inr (.inr (.inr (.inr (va_up (fun _ => none) 0 (some nq5))))))), (nq4, .inl (cy 0, 5, .inl (fun _ => 0))), (nq5, .inr (1, [.ref xq7, .ref xq8, .int 0])), (xq7, .inl (cy 0, 48, .inl (fun _ => 0))), (xq8, .inl (cy 0, 48, .inl (fun _ => 0)))]) (rest := [.ref nq9, .int 1, .ref nq3]) (host := "ClickStreet") hx hb hml hown hts hE (c_X1_init l G cy sk H.size nq9) kI_X1_init (by decide +kernel) rfl rfl ⟨(Nat.le_of_ble_eq_true rfl), (Nat.le_of_ble_eq_true rfl)⟩ hP hD hS hA [8] [0, 1, 2, 3, 4, 5, 6, 7] rfl rfl rfl rfl (by decide) rfl rfl hl.1 (Nat.le_of_ble_eq_true rfl) dX2_init_86 ⟨(Nat.le_of_ble_eq_true rfl), (Nat.le_of_ble_eq_true rfl)⟩ (fun H locs haf hS => ?_)
  obtain ⟨xq11, xq12, hP1, hD1⟩ := haf.1
  obtain ⟨hP, hD⟩ := haf.2.1 _ hP1 hD1
  have hP : va_P G classes [(h0, .inr (2, [.int 5, .int 9, .int 0, .ref nq1, .ref nq2, .ref nq3, .ref nq4])), (nq1, .inl (cy 0, 5, .inl (upd (upd (upd (upd (upd (fun _ => 0) 0 50) 1 50) 2 50) 3 50) 4 50))), (nq2, .inl (cy 0, 5, .inl (fun _ => 0))), (nq3, .inl (cy 3, 3, .inr (.inr (.inr (.inr (va_up (fun _ => none) 0 (some nq5))))))), (nq4, .inl (cy 0, 5, .inl (fun _ => 0))), (nq5, .inr (1, [.ref xq7, .ref xq8, .int 0])), (xq7, .inl (cy 0, 48, .inl (fun _ => 0))), (xq8, .inl (cy 0, 48, .inl (fun _ => 0))), (nq9, .inr (1, [.ref xq11, .ref xq12, .int 0])), (xq11, .inl (cy 0, 48, .inl (fun _ => 0))), (xq12, .inl (cy 0, 48, .inl (fun _ => 0)))] H := hP
  refine va_astq hx hb hE.1 hP hD hS 3 3 8 1 rfl rfl rfl rfl (vinL (by decide)) dX2_init_89 (fun H locs hP hD hS => ?_)
  have hP : va_P G classes [(h0, .inr (2, [.int 5, .int 9, .int 0, .ref nq1, .ref nq2, .ref nq3, .ref nq4])), (nq1, .inl (cy 0, 5, .inl (upd (upd (upd (upd (upd (fun _ => 0) 0 50) 1 50) 2 50) 3 50) 4 50))), (nq2, .inl (cy 0, 5, .inl (fun _ => 0))), (nq3, .inl (cy 3, 3, .inr (.inr (.inr (.inr (va_up (va_up (fun _ => none) 0 (some nq5)) 1 (some nq9))))))), (nq4, .inl (cy 0, 5, .inl (fun _ => 0))), (nq5, .inr (1, [.ref xq7, .ref xq8, .int 0])), (xq7, .inl (cy 0, 48, .inl (fun _ => 0))), (xq8, .inl (cy 0, 48, .inl (fun _ => 0))), (nq9, .inr (1, [.ref xq11, .ref xq12, .int 0])), (xq11, .inl (cy 0, 48, .inl (fun _ => 0))), (xq12, .inl (cy 0, 48, .inl (fun _ => 0)))] H := hP
  refine lv_iinc (v := 2) (lv' := [(1, .int 2), (0, .ref h0)]) hx hb dX2_init_90 hl (k := 0) rfl (by decide) (by decide) rfl (fun ls hl => ?_)
  refine lv_goto (tgt := 72) hx hb dX2_init_93 (by decide) ?_
  refine lv_iload_n hx hb dX2_init_72 rfl (lv_at hl 0 rfl) ?_
  refine lv_iconst (v := 3) hx hb dX2_init_73 (by decide) ?_
  refine lv_icmp_ge (tgt := 96) hx hb dX2_init_74 (by decide) (fun h9 => absurd h9 (by decide)) (fun _ => ?_)
  refine lv_aload_n hx hb dX2_init_77 rfl (lv_at hl 1 rfl) ?_
  refine va_get (D := G) (ci := 2) (v := .ref nq3) (C := RX2) (T := TX2) (N := 7) hx hb hts inB2 hown hE.1 hP 0 rfl rfl 5 (by decide) (hts _ m_175) (fun _ h9 => h9) rfl dX2_init_78 ?_
  refine lv_iload_n hx hb dX2_init_81 rfl (lv_at hl 0 rfl) ?_
  refine va_new (ci := 1) (fs := [.null, .null, .int 0]) (C := RX1) (T := TX1) (N := 3) hx hb hts inB1 tyX1 tyX1_ok hown (hts _ m_153) (hts _ m_155) (hts _ m_83) hE.1 hP hD hS hA rfl df1 (Nat.le_of_ble_eq_true rfl) (Nat.le_of_ble_eq_true rfl) dX2_init_82 (fun nq13 H hP hD hS => ?_)
  have hP : va_P G classes [(h0, .inr (2, [.int 5, .int 9, .int 0, .ref nq1, .ref nq2, .ref nq3, .ref nq4])), (nq1, .inl (cy 0, 5, .inl (upd (upd (upd (upd (upd (fun _ => 0) 0 50) 1 50) 2 50) 3 50) 4 50))), (nq2, .inl (cy 0, 5, .inl (fun _ => 0))), (nq3, .inl (cy 3, 3, .inr (.inr (.inr (.inr (va_up (va_up (fun _ => none) 0 (some nq5)) 1 (some nq9))))))), (nq4, .inl (cy 0, 5, .inl (fun _ => 0))), (nq5, .inr (1, [.ref xq7, .ref xq8, .int 0])), (xq7, .inl (cy 0, 48, .inl (fun _ => 0))), (xq8, .inl (cy 0, 48, .inl (fun _ => 0))), (nq9, .inr (1, [.ref xq11, .ref xq12, .int 0])), (xq11, .inl (cy 0, 48, .inl (fun _ => 0))), (xq12, .inl (cy 0, 48, .inl (fun _ => 0))), (nq13, .inr (1, [.null, .null, .int 0]))] H := hP
  refine lv_dup hx hb dX2_init_85 rfl ?_
  refine wIN (B := (B_c_X1_init G cy sk (va_A [(nq13, .inr (1, [.null, .null, .int 0]))] H.size) nq13)) (wr := [(h0, .inr (2, [.int 5, .int 9, .int 0, .ref nq1, .ref nq2, .ref nq3, .ref nq4])), (nq1, .inl (cy 0, 5, .inl (upd (upd (upd (upd (upd (fun _ => 0) 0 50) 1 50) 2 50) 3 50) 4 50))), (nq2, .inl (cy 0, 5, .inl (fun _ => 0))), (nq3, .inl (cy 3, 3, .inr (.inr (.inr (.inr (va_up (va_up (fun _ => none) 0 (some nq5)) 1 (some nq9))))))), (nq4, .inl (cy 0, 5, .inl (fun _ => 0))), (nq5, .inr (1, [.ref xq7, .ref xq8, .int 0])), (xq7, .inl (cy 0, 48, .inl (fun _ => 0))), (xq8, .inl (cy 0, 48, .inl (fun _ => 0))), (nq9, .inr (1, [.ref xq11, .ref xq12, .int 0])), (xq11, .inl (cy 0, 48, .inl (fun _ => 0))), (xq12, .inl (cy 0, 48, .inl (fun _ => 0)))]) (rest := [.ref nq13, .int 2, .ref nq3]) (host := "ClickStreet") hx hb hml hown hts hE (c_X1_init l G cy sk H.size nq13) kI_X1_init (by decide +kernel) rfl rfl ⟨(Nat.le_of_ble_eq_true rfl), (Nat.le_of_ble_eq_true rfl)⟩ hP hD hS hA [11] [0, 1, 2, 3, 4, 5, 6, 7, 8, 9, 10] rfl rfl rfl rfl (by decide) rfl rfl hl.1 (Nat.le_of_ble_eq_true rfl) dX2_init_86 ⟨(Nat.le_of_ble_eq_true rfl), (Nat.le_of_ble_eq_true rfl)⟩ (fun H locs haf hS => ?_)
  obtain ⟨xq15, xq16, hP1, hD1⟩ := haf.1
  obtain ⟨hP, hD⟩ := haf.2.1 _ hP1 hD1
  have hP : va_P G classes [(h0, .inr (2, [.int 5, .int 9, .int 0, .ref nq1, .ref nq2, .ref nq3, .ref nq4])), (nq1, .inl (cy 0, 5, .inl (upd (upd (upd (upd (upd (fun _ => 0) 0 50) 1 50) 2 50) 3 50) 4 50))), (nq2, .inl (cy 0, 5, .inl (fun _ => 0))), (nq3, .inl (cy 3, 3, .inr (.inr (.inr (.inr (va_up (va_up (fun _ => none) 0 (some nq5)) 1 (some nq9))))))), (nq4, .inl (cy 0, 5, .inl (fun _ => 0))), (nq5, .inr (1, [.ref xq7, .ref xq8, .int 0])), (xq7, .inl (cy 0, 48, .inl (fun _ => 0))), (xq8, .inl (cy 0, 48, .inl (fun _ => 0))), (nq9, .inr (1, [.ref xq11, .ref xq12, .int 0])), (xq11, .inl (cy 0, 48, .inl (fun _ => 0))), (xq12, .inl (cy 0, 48, .inl (fun _ => 0))), (nq13, .inr (1, [.ref xq15, .ref xq16, .int 0])), (xq15, .inl (cy 0, 48, .inl (fun _ => 0))), (xq16, .inl (cy 0, 48, .inl (fun _ => 0)))] H := hP
  refine va_astq hx hb hE.1 hP hD hS 3 3 11 1 rfl rfl rfl rfl (vinL (by decide)) dX2_init_89 (fun H locs hP hD hS => ?_)
  have hP : va_P G classes [(h0, .inr (2, [.int 5, .int 9, .int 0, .ref nq1, .ref nq2, .ref nq3, .ref nq4])), (nq1, .inl (cy 0, 5, .inl (upd (upd (upd (upd (upd (fun _ => 0) 0 50) 1 50) 2 50) 3 50) 4 50))), (nq2, .inl (cy 0, 5, .inl (fun _ => 0))), (nq3, .inl (cy 3, 3, .inr (.inr (.inr (.inr (va_up (va_up (va_up (fun _ => none) 0 (some nq5)) 1 (some nq9)) 2 (some nq13))))))), (nq4, .inl (cy 0, 5, .inl (fun _ => 0))), (nq5, .inr (1, [.ref xq7, .ref xq8, .int 0])), (xq7, .inl (cy 0, 48, .inl (fun _ => 0))), (xq8, .inl (cy 0, 48, .inl (fun _ => 0))), (nq9, .inr (1, [.ref xq11, .ref xq12, .int 0])), (xq11, .inl (cy 0, 48, .inl (fun _ => 0))), (xq12, .inl (cy 0, 48, .inl (fun _ => 0))), (nq13, .inr (1, [.ref xq15, .ref xq16, .int 0])), (xq15, .inl (cy 0, 48, .inl (fun _ => 0))), (xq16, .inl (cy 0, 48, .inl (fun _ => 0)))] H := hP
  refine lv_iinc (v := 3) (lv' := [(1, .int 3), (0, .ref h0)]) hx hb dX2_init_90 hl (k := 0) rfl (by decide) (by decide) rfl (fun ls hl => ?_)
  refine lv_goto (tgt := 72) hx hb dX2_init_93 (by decide) ?_
  refine lv_iload_n hx hb dX2_init_72 rfl (lv_at hl 0 rfl) ?_
  refine lv_iconst (v := 3) hx hb dX2_init_73 (by decide) ?_
  refine lv_icmp_ge (tgt := 96) hx hb dX2_init_74 (by decide) (fun _ => ?_) (fun h9 => absurd h9 (by decide))
  have hP9 : va_P G classes [(h0, .inr (2, [.int 5, .int 9, .int 0, .ref nq1, .ref nq2, .ref nq3, .ref nq4])), (nq1, .inl (cy 0, 5, .inl (upd (upd (upd (upd (upd (fun _ => 0) 0 50) 1 50) 2 50) 3 50) 4 50))), (nq2, .inl (cy 0, 5, .inl (fun _ => 0))), (nq3, .inl (cy 3, 3, .inr (.inr (.inr (.inr (va_up (va_up (va_up (fun _ => none) 0 (some nq5)) 1 (some nq9)) 2 (some nq13))))))), (nq4, .inl (cy 0, 5, .inl (fun _ => 0))), (nq5, .inr (1, [.ref xq7, .ref xq8, .int 0])), (xq7, .inl (cy 0, 48, .inl (fun _ => 0))), (xq8, .inl (cy 0, 48, .inl (fun _ => 0))), (nq9, .inr (1, [.ref xq11, .ref xq12, .int 0])), (xq11, .inl (cy 0, 48, .inl (fun _ => 0))), (xq12, .inl (cy 0, 48, .inl (fun _ => 0))), (nq13, .inr (1, [.ref xq15, .ref xq16, .int 0])), (xq15, .inl (cy 0, 48, .inl (fun _ => 0))), (xq16, .inl (cy 0, 48, .inl (fun _ => 0)))] H := hP
  have hD9 : va_D A [(h0, .inr (2, [.int 5, .int 9, .int 0, .ref nq1, .ref nq2, .ref nq3, .ref nq4])), (nq1, .inl (cy 0, 5, .inl (upd (upd (upd (upd (upd (fun _ => 0) 0 50) 1 50) 2 50) 3 50) 4 50))), (nq2, .inl (cy 0, 5, .inl (fun _ => 0))), (nq3, .inl (cy 3, 3, .inr (.inr (.inr (.inr (va_up (va_up (va_up (fun _ => none) 0 (some nq5)) 1 (some nq9)) 2 (some nq13))))))), (nq4, .inl (cy 0, 5, .inl (fun _ => 0))), (nq5, .inr (1, [.ref xq7, .ref xq8, .int 0])), (xq7, .inl (cy 0, 48, .inl (fun _ => 0))), (xq8, .inl (cy 0, 48, .inl (fun _ => 0))), (nq9, .inr (1, [.ref xq11, .ref xq12, .int 0])), (xq11, .inl (cy 0, 48, .inl (fun _ => 0))), (xq12, .inl (cy 0, 48, .inl (fun _ => 0))), (nq13, .inr (1, [.ref xq15, .ref xq16, .int 0])), (xq15, .inl (cy 0, 48, .inl (fun _ => 0))), (xq16, .inl (cy 0, 48, .inl (fun _ => 0)))] := hD
  refine W.widen (k := 13) (n := 315) (by first | exact Nat.le_of_ble_eq_true rfl | omega) (by first | exact Nat.le_of_ble_eq_true rfl | omega) ?_
  exact W.vret hx hb hr (fun t ht hW => ⟨⟨(), rfl, trivial, by dsimp only; rw [ht]; exact ⟨nq1, nq2, nq3, nq4, nq5, xq7, xq8, nq9, xq11, xq12, nq13, xq15, xq16, (upd (upd (upd (upd (upd (fun _ => 0) 0 50) 1 50) 2 50) 3 50) 4 50), (va_up (va_up (va_up (fun _ => none) 0 (some nq5)) 1 (some nq9)) 2 (some nq13)), rfl, rfl, rfl, (by decide), hP9, hD9⟩⟩, hS.F ht⟩) hS.2.2 dX2_init_96
