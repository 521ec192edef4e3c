def B_c_X2_init (G : va_G) (cy : Nat → ClassId) (sk : Nat → Nat) (A : Nat → Prop) (h0 : Nat) (H : Heap) : Prop := ∃ (ld : Nat) (sr : Nat) (tx : Nat) (vl : Nat) (f0 : Nat) (c0 : Nat) (k0 : Nat) (f1 : Nat) (c1 : Nat) (k1 : Nat) (f2 : Nat) (c2 : Nat) (k2 : Nat) (fl : Nat → Int32) (gt : Nat → Option Nat), (gt 0 = some f0) ∧ (gt 1 = some f1) ∧ (gt 2 = some f2) ∧ (∀ j, j < 5 → fl j = 50) ∧ va_P G classes [(h0, .inr (2, [.int 5, .int 9, .int 0, .ref ld, .ref sr, .ref tx, .ref vl])), (ld, .inl (cy 0, 5, .inl fl)), (sr, .inl (cy 0, 5, .inl (fun _ => 0))), (tx, .inl (cy 3, 3, .inr (.inr (.inr (.inr gt))))), (vl, .inl (cy 0, 5, .inl (fun _ => 0))), (f0, .inr (1, [.ref c0, .ref k0, .int 0])), (c0, .inl (cy 0, 48, .inl (fun _ => 0))), (k0, .inl (cy 0, 48, .inl (fun _ => 0))), (f1, .inr (1, [.ref c1, .ref k1, .int 0])), (c1, .inl (cy 0, 48, .inl (fun _ => 0))), (k1, .inl (cy 0, 48, .inl (fun _ => 0))), (f2, .inr (1, [.ref c2, .ref k2, .int 0])), (c2, .inl (cy 0, 48, .inl (fun _ => 0))), (k2, .inl (cy 0, 48, .inl (fun _ => 0)))] H ∧ va_D A [(h0, .inr (2, [.int 5, .int 9, .int 0, .ref ld, .ref sr, .ref tx, .ref vl])), (ld, .inl (cy 0, 5, .inl fl)), (sr, .inl (cy 0, 5, .inl (fun _ => 0))), (tx, .inl (cy 3, 3, .inr (.inr (.inr (.inr gt))))), (vl, .inl (cy 0, 5, .inl (fun _ => 0))), (f0, .inr (1, [.ref c0, .ref k0, .int 0])), (c0, .inl (cy 0, 48, .inl (fun _ => 0))), (k0, .inl (cy 0, 48, .inl (fun _ => 0))), (f1, .inr (1, [.ref c1, .ref k1, .int 0])), (c1, .inl (cy 0, 48, .inl (fun _ => 0))), (k1, .inl (cy 0, 48, .inl (fun _ => 0))), (f2, .inr (1, [.ref c2, .ref k2, .int 0])), (c2, .inl (cy 0, 48, .inl (fun _ => 0))), (k2, .inl (cy 0, 48, .inl (fun _ => 0)))]
set_option maxHeartbeats 4000000 in
set_option maxRecDepth 100000 in
theorem c_X2_init (l : Launch) (G : va_G) (cy : Nat → ClassId) (sk : Nat → Nat) (sz : Nat) (h0 : Nat)  : Met l yX2_init (wsO yX2_init cX2_init 2 none) ({ frames := 2, cells := 13, slots := 315, locals := 32 }) (va_Pc [.ref h0] (PR G cy sk sz [(h0, .inr (2, [.int 0, .int 0, .int 0, .null, .null, .null, .null]))])) (va_Qv (fun (_ : Unit) => True) (fun _ t => B_c_X2_init G cy sk (va_A [(h0, .inr (2, [.int 0, .int 0, .int 0, .null, .null, .null, .null]))] sz) h0 t.heap) (va_A [(h0, .inr (2, [.int 0, .int 0, .int 0, .null, .null, .null, .null]))] sz)) 13 315 (va_A [(h0, .inr (2, [.int 0, .int 0, .int 0, .null, .null, .null, .null]))] sz) := by
  refine mt (by decide) (Nat.le_of_ble_eq_true rfl) ?_
  intro p e s m below meth c ls hx hb hr hml hts hown hlocks hin hsz hP hE hD hl
  subst hsz
  have hl : lv_has ls 2 [(0, .ref h0)] := hl
  have hD := hD.self (sz := s.heap.size)
  generalize hAe : va_A [(h0, .inr (2, [.int 0, .int 0, .int 0, .null, .null, .null, .null]))] s.heap.size = A at hD ⊢
  have hA : ∀ q : Nat, s.heap.size ≤ q → A q := fun q h => by rw [← hAe]; exact Or.inr h
  have hS : va_S A s.heap s.heap [] := va_S.rf
  refine lv_aload_n hx hb dX2_init_0 rfl (lv_at hl 0 rfl) ?_
  refine W.objInit hx hb hown (hts _ m_152) (hts _ m_107) (hts _ m_108) rfl (by rw [hml]; exact hl.1) rfl dX2_init_1 (Nat.le_of_ble_eq_true rfl) (Nat.le_of_ble_eq_true rfl) ?_
  refine W.eq (g2 := F0 m 4 ls []) rfl ?_
  refine lv_aload_n hx hb dX2_init_4 rfl (lv_at hl 0 rfl) ?_
  refine lv_iconst (v := 5) hx hb dX2_init_5 (by decide) ?_
  refine va_put (D := G) (ci := 2) (v := .int 5) (ty := .int) (C := RX2) (T := TX2) (N := 7) hx hb hts inB2 tyX2 tyX2_ok nmX2 hown hE.1 hP hD hS 0 rfl rfl 0 (by decide) (hts _ m_170) (fun _ h9 => h9) rfl (by decide +kernel) rfl rfl (Nat.le_of_ble_eq_true rfl) dX2_init_6 (fun H locs hP hD hS => ?_)
  have hP : va_P G classes [(h0, .inr (2, [.int 5, .int 0, .int 0, .null, .null, .null, .null]))] H := hP
  have hD : va_D A [(h0, .inr (2, [.int 5, .int 0, .int 0, .null, .null, .null, .null]))] := hD
  refine lv_aload_n hx hb dX2_init_9 rfl (lv_at hl 0 rfl) ?_
  refine lv_bipush (v := 9) hx hb dX2_init_10 (by decide) ?_
  refine va_put (D := G) (ci := 2) (v := .int 9) (ty := .int) (C := RX2) (T := TX2) (N := 7) hx hb hts inB2 tyX2 tyX2_ok nmX2 hown hE.1 hP hD hS 0 rfl rfl 1 (by decide) (hts _ m_171) (fun _ h9 => h9) rfl (by decide +kernel) rfl rfl (Nat.le_of_ble_eq_true rfl) dX2_init_12 (fun H locs hP hD hS => ?_)
  have hP : va_P G classes [(h0, .inr (2, [.int 5, .int 9, .int 0, .null, .null, .null, .null]))] H := hP
  have hD : va_D A [(h0, .inr (2, [.int 5, .int 9, .int 0, .null, .null, .null, .null]))] := hD
  refine lv_aload_n hx hb dX2_init_15 rfl (lv_at hl 0 rfl) ?_
  refine lv_iconst (v := 0) hx hb dX2_init_16 (by decide) ?_
  refine va_put (D := G) (ci := 2) (v := .int 0) (ty := .int) (C := RX2) (T := TX2) (N := 7) hx hb hts inB2 tyX2 tyX2_ok nmX2 hown hE.1 hP hD hS 0 rfl rfl 2 (by decide) (hts _ m_172) (fun _ h9 => h9) rfl (by decide +kernel) rfl rfl (Nat.le_of_ble_eq_true rfl) dX2_init_17 (fun H locs hP hD hS => ?_)
  have hP : va_P G classes [(h0, .inr (2, [.int 5, .int 9, .int 0, .null, .null, .null, .null]))] H := hP
  have hD : va_D A [(h0, .inr (2, [.int 5, .int 9, .int 0, .null, .null, .null, .null]))] := hD
  refine lv_aload_n hx hb dX2_init_20 rfl (lv_at hl 0 rfl) ?_
  refine lv_iconst (v := 5) hx hb dX2_init_21 (by decide) ?_
  refine nwI (n := 5) (N := 5) hx hb hts m_146 hE hP hD hS hA (by decide) (by decide) (Nat.le_of_ble_eq_true rfl) (Nat.le_of_ble_eq_true rfl) (Nat.le_of_ble_eq_true rfl) dX2_init_22 (fun nq1 H hP hD hS => ?_)
  have hP : va_P G classes [(h0, .inr (2, [.int 5, .int 9, .int 0, .null, .null, .null, .null])), (nq1, .inl (cy 0, 5, .inl (fun _ => 0)))] H := hP
  have hD : va_D A [(h0, .inr (2, [.int 5, .int 9, .int 0, .null, .null, .null, .null])), (nq1, .inl (cy 0, 5, .inl (fun _ => 0)))] := hD
  refine va_putF (D := G) (ci := 2) (v := .ref nq1) (ty := (.array .int)) (C := RX2) (T := TX2) (N := 7) hx hb hts inB2 tyX2 tyX2_ok nmX2 hown hE.1 hP hD hS 0 rfl rfl 3 (by decide) (hts _ m_173) (fun _ h9 => h9) rfl hin rfl (by decide +kernel) rfl rfl (Nat.le_of_ble_eq_true rfl) dX2_init_24 (fun H locs hP hD hS => ?_)
  have hP : va_P G classes [(h0, .inr (2, [.int 5, .int 9, .int 0, .ref nq1, .null, .null, .null])), (nq1, .inl (cy 0, 5, .inl (fun _ => 0)))] H := hP
  have hD : va_D A [(h0, .inr (2, [.int 5, .int 9, .int 0, .ref nq1, .null, .null, .null])), (nq1, .inl (cy 0, 5, .inl (fun _ => 0)))] := hD
  refine lv_aload_n hx hb dX2_init_27 rfl (lv_at hl 0 rfl) ?_
  refine lv_iconst (v := 5) hx hb dX2_init_28 (by decide) ?_
  refine nwI (n := 5) (N := 5) hx hb hts m_146 hE hP hD hS hA (by decide) (by decide) (Nat.le_of_ble_eq_true rfl) (Nat.le_of_ble_eq_true rfl) (Nat.le_of_ble_eq_true rfl) dX2_init_29 (fun nq2 H hP hD hS => ?_)
  have hP : va_P G classes [(h0, .inr (2, [.int 5, .int 9, .int 0, .ref nq1, .null, .null, .null])), (nq1, .inl (cy 0, 5, .inl (fun _ => 0))), (nq2, .inl (cy 0, 5, .inl (fun _ => 0)))] H := hP
  have hD : va_D A [(h0, .inr (2, [.int 5, .int 9, .int 0, .ref nq1, .null, .null, .null])), (nq1, .inl (cy 0, 5, .inl (fun _ => 0))), (nq2, .inl (cy 0, 5, .inl (fun _ => 0)))] := hD
  refine va_putF (D := G) (ci := 2) (v := .ref nq2) (ty := (.array .int)) (C := RX2) (T := TX2) (N := 7) hx hb hts inB2 tyX2 tyX2_ok nmX2 hown hE.1 hP hD hS 0 rfl rfl 4 (by decide) (hts _ m_174) (fun _ h9 => h9) rfl hin rfl (by decide +kernel) rfl rfl (Nat.le_of_ble_eq_true rfl) dX2_init_31 (fun H locs hP hD hS => ?_)
  have hP : va_P G classes [(h0, .inr (2, [.int 5, .int 9, .int 0, .ref nq1, .ref nq2, .null, .null])), (nq1, .inl (cy 0, 5, .inl (fun _ => 0))), (nq2, .inl (cy 0, 5, .inl (fun _ => 0)))] H := hP
  have hD : va_D A [(h0, .inr (2, [.int 5, .int 9, .int 0, .ref nq1, .ref nq2, .null, .null])), (nq1, .inl (cy 0, 5, .inl (fun _ => 0))), (nq2, .inl (cy 0, 5, .inl (fun _ => 0)))] := hD
  refine lv_aload_n hx hb dX2_init_34 rfl (lv_at hl 0 rfl) ?_
  refine lv_iconst (v := 3) hx hb dX2_init_35 (by decide) ?_
  refine nwQ (n := 3) (N := 3) (C := "ClickStreet$Formula") (t0 := 3) hx hb hown hts m_153 (by decide) hE hP hD hS hA rfl (by decide) (by decide) (Nat.le_of_ble_eq_true rfl) (Nat.le_of_ble_eq_true rfl) (Nat.le_of_ble_eq_true rfl) dX2_init_36 (fun nq3 H hP hD hS => ?_)
  have hP : va_P G classes [(h0, .inr (2, [.int 5, .int 9, .int 0, .ref nq1, .ref nq2, .null, .null])), (nq1, .inl (cy 0, 5, .inl (fun _ => 0))), (nq2, .inl (cy 0, 5, .inl (fun _ => 0))), (nq3, .inl (cy 3, 3, .inr (.inr (.inr (.inr (fun _ => none))))))] H := hP
  have hD : va_D A [(h0, .inr (2, [.int 5, .int 9, .int 0, .ref nq1, .ref nq2, .null, .null])), (nq1, .inl (cy 0, 5, .inl (fun _ => 0))), (nq2, .inl (cy 0, 5, .inl (fun _ => 0))), (nq3, .inl (cy 3, 3, .inr (.inr (.inr (.inr (fun _ => none))))))] := hD
  refine va_putF (D := G) (ci := 2) (v := .ref nq3) (ty := (.array (.object "ClickStreet$Formula"))) (C := RX2) (T := TX2) (N := 7) hx hb hts inB2 tyX2 tyX2_ok nmX2 hown hE.1 hP hD hS 0 rfl rfl 5 (by decide) (hts _ m_175) (fun _ h9 => h9) rfl hin rfl (by decide +kernel) rfl rfl (Nat.le_of_ble_eq_true rfl) dX2_init_39 (fun H locs hP hD hS => ?_)
  have hP : va_P G classes [(h0, .inr (2, [.int 5, .int 9, .int 0, .ref nq1, .ref nq2, .ref nq3, .null])), (nq1, .inl (cy 0, 5, .inl (fun _ => 0))), (nq2, .inl (cy 0, 5, .inl (fun _ => 0))), (nq3, .inl (cy 3, 3, .inr (.inr (.inr (.inr (fun _ => none))))))] H := hP
  have hD : va_D A [(h0, .inr (2, [.int 5, .int 9, .int 0, .ref nq1, .ref nq2, .ref nq3, .null])), (nq1, .inl (cy 0, 5, .inl (fun _ => 0))), (nq2, .inl (cy 0, 5, .inl (fun _ => 0))), (nq3, .inl (cy 3, 3, .inr (.inr (.inr (.inr (fun _ => none))))))] := hD
  refine lv_aload_n hx hb dX2_init_42 rfl (lv_at hl 0 rfl) ?_
  refine lv_iconst (v := 5) hx hb dX2_init_43 (by decide) ?_
  refine nwI (n := 5) (N := 5) hx hb hts m_146 hE hP hD hS hA (by decide) (by decide) (Nat.le_of_ble_eq_true rfl) (Nat.le_of_ble_eq_true rfl) (Nat.le_of_ble_eq_true rfl) dX2_init_44 (fun nq4 H hP hD hS => ?_)
  have hP : va_P G classes [(h0, .inr (2, [.int 5, .int 9, .int 0, .ref nq1, .ref nq2, .ref nq3, .null])), (nq1, .inl (cy 0, 5, .inl (fun _ => 0))), (nq2, .inl (cy 0, 5, .inl (fun _ => 0))), (nq3, .inl (cy 3, 3, .inr (.inr (.inr (.inr (fun _ => none)))))), (nq4, .inl (cy 0, 5, .inl (fun _ => 0)))] H := hP
  have hD : va_D A [(h0, .inr (2, [.int 5, .int 9, .int 0, .ref nq1, .ref nq2, .ref nq3, .null])), (nq1, .inl (cy 0, 5, .inl (fun _ => 0))), (nq2, .inl (cy 0, 5, .inl (fun _ => 0))), (nq3, .inl (cy 3, 3, .inr (.inr (.inr (.inr (fun _ => none)))))), (nq4, .inl (cy 0, 5, .inl (fun _ => 0)))] := hD
  refine va_putF (D := G) (ci := 2) (v := .ref nq4) (ty := (.array .int)) (C := RX2) (T := TX2) (N := 7) hx hb hts inB2 tyX2 tyX2_ok nmX2 hown hE.1 hP hD hS 0 rfl rfl 6 (by decide) (hts _ m_177) (fun _ h9 => h9) rfl hin rfl (by decide +kernel) rfl rfl (Nat.le_of_ble_eq_true rfl) dX2_init_46 (fun H locs hP hD hS => ?_)
  have hP : va_P G classes [(h0, .inr (2, [.int 5, .int 9, .int 0, .ref nq1, .ref nq2, .ref nq3, .ref nq4])), (nq1, .inl (cy 0, 5, .inl (fun _ => 0))), (nq2, .inl (cy 0, 5, .inl (fun _ => 0))), (nq3, .inl (cy 3, 3, .inr (.inr (.inr (.inr (fun _ => none)))))), (nq4, .inl (cy 0, 5, .inl (fun _ => 0)))] H := hP
  have hD : va_D A [(h0, .inr (2, [.int 5, .int 9, .int 0, .ref nq1, .ref nq2, .ref nq3, .ref nq4])), (nq1, .inl (cy 0, 5, .inl (fun _ => 0))), (nq2, .inl (cy 0, 5, .inl (fun _ => 0))), (nq3, .inl (cy 3, 3, .inr (.inr (.inr (.inr (fun _ => none)))))), (nq4, .inl (cy 0, 5, .inl (fun _ => 0)))] := hD
  refine lv_iconst (v := 0) hx hb dX2_init_49 (by decide) ?_
  refine lv_istore_n (lv' := [(1, .int 0), (0, .ref h0)]) hx hb dX2_init_50 rfl hl (by decide) rfl (fun ls hl => ?_)
  refine lv_iload_n hx hb dX2_init_51 rfl (lv_at hl 0 rfl) ?_
  refine lv_iconst (v := 5) hx hb dX2_init_52 (by decide) ?_
  refine lv_icmp_ge (tgt := 70) hx hb dX2_init_53 (by decide) (fun h9 => absurd h9 (by decide)) (fun _ => ?_)
  refine lv_aload_n hx hb dX2_init_56 rfl (lv_at hl 1 rfl) ?_
  refine va_get (D := G) (ci := 2) (v := .ref nq1) (C := RX2) (T := TX2) (N := 7) hx hb hts inB2 hown hE.1 hP 0 rfl rfl 3 (by decide) (hts _ m_173) (fun _ h9 => h9) rfl dX2_init_57 ?_
  refine lv_iload_n hx hb dX2_init_60 rfl (lv_at hl 0 rfl) ?_
  refine lv_bipush (v := 50) hx hb dX2_init_61 (by decide) ?_
  refine va_iast hx hb hE.1 hP hD hS 1 0 rfl rfl (vinL (by decide)) dX2_init_63 (fun H locs hP hD hS => ?_)
  have hP : va_P G classes [(h0, .inr (2, [.int 5, .int 9, .int 0, .ref nq1, .ref nq2, .ref nq3, .ref nq4])), (nq1, .inl (cy 0, 5, .inl (upd (fun _ => 0) 0 50))), (nq2, .inl (cy 0, 5, .inl (fun _ => 0))), (nq3, .inl (cy 3, 3, .inr (.inr (.inr (.inr (fun _ => none)))))), (nq4, .inl (cy 0, 5, .inl (fun _ => 0)))] H := hP
  have hD : va_D A [(h0, .inr (2, [.int 5, .int 9, .int 0, .ref nq1, .ref nq2, .ref nq3, .ref nq4])), (nq1, .inl (cy 0, 5, .inl (upd (fun _ => 0) 0 50))), (nq2, .inl (cy 0, 5, .inl (fun _ => 0))), (nq3, .inl (cy 3, 3, .inr (.inr (.inr (.inr (fun _ => none)))))), (nq4, .inl (cy 0, 5, .inl (fun _ => 0)))] := hD
  refine lv_iinc (v := 1) (lv' := [(1, .int 1), (0, .ref h0)]) hx hb dX2_init_64 hl (k := 0) rfl (by decide) (by decide) rfl (fun ls hl => ?_)
  refine lv_goto (tgt := 51) hx hb dX2_init_67 (by decide) ?_
  refine lv_iload_n hx hb dX2_init_51 rfl (lv_at hl 0 rfl) ?_
  refine lv_iconst (v := 5) hx hb dX2_init_52 (by decide) ?_
  refine lv_icmp_ge (tgt := 70) hx hb dX2_init_53 (by decide) (fun h9 => absurd h9 (by decide)) (fun _ => ?_)
  refine lv_aload_n hx hb dX2_init_56 rfl (lv_at hl 1 rfl) ?_
  refine va_get (D := G) (ci := 2) (v := .ref nq1) (C := RX2) (T := TX2) (N := 7) hx hb hts inB2 hown hE.1 hP 0 rfl rfl 3 (by decide) (hts _ m_173) (fun _ h9 => h9) rfl dX2_init_57 ?_
  refine lv_iload_n hx hb dX2_init_60 rfl (lv_at hl 0 rfl) ?_
  refine lv_bipush (v := 50) hx hb dX2_init_61 (by decide) ?_
  refine va_iast hx hb hE.1 hP hD hS 1 0 rfl rfl (vinL (by decide)) dX2_init_63 (fun H locs hP hD hS => ?_)
  have hP : va_P G classes [(h0, .inr (2, [.int 5, .int 9, .int 0, .ref nq1, .ref nq2, .ref nq3, .ref nq4])), (nq1, .inl (cy 0, 5, .inl (upd (upd (fun _ => 0) 0 50) 1 50))), (nq2, .inl (cy 0, 5, .inl (fun _ => 0))), (nq3, .inl (cy 3, 3, .inr (.inr (.inr (.inr (fun _ => none)))))), (nq4, .inl (cy 0, 5, .inl (fun _ => 0)))] H := hP
  have hD : va_D A [(h0, .inr (2, [.int 5, .int 9, .int 0, .ref nq1, .ref nq2, .ref nq3, .ref nq4])), (nq1, .inl (cy 0, 5, .inl (upd (upd (fun _ => 0) 0 50) 1 50))), (nq2, .inl (cy 0, 5, .inl (fun _ => 0))), (nq3, .inl (cy 3, 3, .inr (.inr (.inr (.inr (fun _ => none)))))), (nq4, .inl (cy 0, 5, .inl (fun _ => 0)))] := hD
  refine lv_iinc (v := 2) (lv' := [(1, .int 2), (0, .ref h0)]) hx hb dX2_init_64 hl (k := 0) rfl (by decide) (by decide) rfl (fun ls hl => ?_)
  refine lv_goto (tgt := 51) hx hb dX2_init_67 (by decide) ?_
  refine lv_iload_n hx hb dX2_init_51 rfl (lv_at hl 0 rfl) ?_
  refine lv_iconst (v := 5) hx hb dX2_init_52 (by decide) ?_
  refine lv_icmp_ge (tgt := 70) hx hb dX2_init_53 (by decide) (fun h9 => absurd h9 (by decide)) (fun _ => ?_)
  refine lv_aload_n hx hb dX2_init_56 rfl (lv_at hl 1 rfl) ?_
  refine va_get (D := G) (ci := 2) (v := .ref nq1) (C := RX2) (T := TX2) (N := 7) hx hb hts inB2 hown hE.1 hP 0 rfl rfl 3 (by decide) (hts _ m_173) (fun _ h9 => h9) rfl dX2_init_57 ?_
  refine lv_iload_n hx hb dX2_init_60 rfl (lv_at hl 0 rfl) ?_
  refine lv_bipush (v := 50) hx hb dX2_init_61 (by decide) ?_
  refine va_iast hx hb hE.1 hP hD hS 1 0 rfl rfl (vinL (by decide)) dX2_init_63 (fun H locs hP hD hS => ?_)
  have hP : va_P G classes [(h0, .inr (2, [.int 5, .int 9, .int 0, .ref nq1, .ref nq2, .ref nq3, .ref nq4])), (nq1, .inl (cy 0, 5, .inl (upd (upd (upd (fun _ => 0) 0 50) 1 50) 2 50))), (nq2, .inl (cy 0, 5, .inl (fun _ => 0))), (nq3, .inl (cy 3, 3, .inr (.inr (.inr (.inr (fun _ => none)))))), (nq4, .inl (cy 0, 5, .inl (fun _ => 0)))] H := hP
  have hD : va_D A [(h0, .inr (2, [.int 5, .int 9, .int 0, .ref nq1, .ref nq2, .ref nq3, .ref nq4])), (nq1, .inl (cy 0, 5, .inl (upd (upd (upd (fun _ => 0) 0 50) 1 50) 2 50))), (nq2, .inl (cy 0, 5, .inl (fun _ => 0))), (nq3, .inl (cy 3, 3, .inr (.inr (.inr (.inr (fun _ => none)))))), (nq4, .inl (cy 0, 5, .inl (fun _ => 0)))] := hD
  refine lv_iinc (v := 3) (lv' := [(1, .int 3), (0, .ref h0)]) hx hb dX2_init_64 hl (k := 0) rfl (by decide) (by decide) rfl (fun ls hl => ?_)
  refine lv_goto (tgt := 51) hx hb dX2_init_67 (by decide) ?_
  refine lv_iload_n hx hb dX2_init_51 rfl (lv_at hl 0 rfl) ?_
  refine lv_iconst (v := 5) hx hb dX2_init_52 (by decide) ?_
  refine lv_icmp_ge (tgt := 70) hx hb dX2_init_53 (by decide) (fun h9 => absurd h9 (by decide)) (fun _ => ?_)
  refine lv_aload_n hx hb dX2_init_56 rfl (lv_at hl 1 rfl) ?_
  refine va_get (D := G) (ci := 2) (v := .ref nq1) (C := RX2) (T := TX2) (N := 7) hx hb hts inB2 hown hE.1 hP 0 rfl rfl 3 (by decide) (hts _ m_173) (fun _ h9 => h9) rfl dX2_init_57 ?_
  refine lv_iload_n hx hb dX2_init_60 rfl (lv_at hl 0 rfl) ?_
  refine lv_bipush (v := 50) hx hb dX2_init_61 (by decide) ?_
  refine va_iast hx hb hE.1 hP hD hS 1 0 rfl rfl (vinL (by decide)) dX2_init_63 (fun H locs hP hD hS => ?_)
  have hP : va_P G classes [(h0, .inr (2, [.int 5, .int 9, .int 0, .ref nq1, .ref nq2, .ref nq3, .ref nq4])), (nq1, .inl (cy 0, 5, .inl (upd (upd (upd (upd (fun _ => 0) 0 50) 1 50) 2 50) 3 50))), (nq2, .inl (cy 0, 5, .inl (fun _ => 0))), (nq3, .inl (cy 3, 3, .inr (.inr (.inr (.inr (fun _ => none)))))), (nq4, .inl (cy 0, 5, .inl (fun _ => 0)))] H := hP
  have hD : va_D A [(h0, .inr (2, [.int 5, .int 9, .int 0, .ref nq1, .ref nq2, .ref nq3, .ref nq4])), (nq1, .inl (cy 0, 5, .inl (upd (upd (upd (upd (fun _ => 0) 0 50) 1 50) 2 50) 3 50))), (nq2, .inl (cy 0, 5, .inl (fun _ => 0))), (nq3, .inl (cy 3, 3, .inr (.inr (.inr (.inr (fun _ => none)))))), (nq4, .inl (cy 0, 5, .inl (fun _ => 0)))] := hD
  refine lv_iinc (v := 4) (lv' := [(1, .int 4), (0, .ref h0)]) hx hb dX2_init_64 hl (k := 0) rfl (by decide) (by decide) rfl (fun ls hl => ?_)
  refine lv_goto (tgt := 51) hx hb dX2_init_67 (by decide) ?_
  refine lv_iload_n hx hb dX2_init_51 rfl (lv_at hl 0 rfl) ?_
  refine lv_iconst (v := 5) hx hb dX2_init_52 (by decide) ?_
  refine lv_icmp_ge (tgt := 70) hx hb dX2_init_53 (by decide) (fun h9 => absurd h9 (by decide)) (fun _ => ?_)
  refine lv_aload_n hx hb dX2_init_56 rfl (lv_at hl 1 rfl) ?_
  refine va_get (D := G) (ci := 2) (v := .ref nq1) (C := RX2) (T := TX2) (N := 7) hx hb hts inB2 hown hE.1 hP 0 rfl rfl 3 (by decide) (hts _ m_173) (fun _ h9 => h9) rfl dX2_init_57 ?_
  refine lv_iload_n hx hb dX2_init_60 rfl (lv_at hl 0 rfl) ?_
  refine lv_bipush (v := 50) hx hb dX2_init_61 (by decide) ?_
  refine va_iast hx hb hE.1 hP hD hS 1 0 rfl rfl (vinL (by decide)) dX2_init_63 (fun H locs hP hD hS => ?_)
  have hP : va_P G classes [(h0, .inr (2, [.int 5, .int 9, .int 0, .ref nq1, .ref nq2, .ref nq3, .ref nq4])), (nq1, .inl (cy 0, 5, .inl (upd (upd (upd (upd (upd (fun _ => 0) 0 50) 1 50) 2 50) 3 50) 4 50))), (nq2, .inl (cy 0, 5, .inl (fun _ => 0))), (nq3, .inl (cy 3, 3, .inr (.inr (.inr (.inr (fun _ => none)))))), (nq4, .inl (cy 0, 5, .inl (fun _ => 0)))] H := hP
  have hD : va_D A [(h0, .inr (2, [.int 5, .int 9, .int 0, .ref nq1, .ref nq2, .ref nq3, .ref nq4])), (nq1, .inl (cy 0, 5, .inl (upd (upd (upd (upd (upd (fun _ => 0) 0 50) 1 50) 2 50) 3 50) 4 50))), (nq2, .inl (cy 0, 5, .inl (fun _ => 0))), (nq3, .inl (cy 3, 3, .inr (.inr (.inr (.inr (fun _ => none)))))), (nq4, .inl (cy 0, 5, .inl (fun _ => 0)))] := hD
  refine lv_iinc (v := 5) (lv' := [(1, .int 5), (0, .ref h0)]) hx hb dX2_init_64 hl (k := 0) rfl (by decide) (by decide) rfl (fun ls hl => ?_)
  refine lv_goto (tgt := 51) hx hb dX2_init_67 (by decide) ?_
  refine lv_iload_n hx hb dX2_init_51 rfl (lv_at hl 0 rfl) ?_
  refine lv_iconst (v := 5) hx hb dX2_init_52 (by decide) ?_
  refine lv_icmp_ge (tgt := 70) hx hb dX2_init_53 (by decide) (fun _ => ?_) (fun h9 => absurd h9 (by decide))
  refine lv_iconst (v := 0) hx hb dX2_init_70 (by decide) ?_
  refine lv_istore_n (lv' := [(1, .int 0), (0, .ref h0)]) hx hb dX2_init_71 rfl hl (by decide) rfl (fun ls hl => ?_)
  refine lv_iload_n hx hb dX2_init_72 rfl (lv_at hl 0 rfl) ?_
  refine lv_iconst (v := 3) hx hb dX2_init_73 (by decide) ?_
  refine lv_icmp_ge (tgt := 96) hx hb dX2_init_74 (by decide) (fun h9 => absurd h9 (by decide)) (fun _ => ?_)
  refine lv_aload_n hx hb dX2_init_77 rfl (lv_at hl 1 rfl) ?_
  refine va_get (D := G) (ci := 2) (v := .ref nq3) (C := RX2) (T := TX2) (N := 7) hx hb hts inB2 hown hE.1 hP 0 rfl rfl 5 (by decide) (hts _ m_175) (fun _ h9 => h9) rfl dX2_init_78 ?_
  refine lv_iload_n hx hb dX2_init_81 rfl (lv_at hl 0 rfl) ?_
  refine va_new (ci := 1) (fs := [.null, .null, .int 0]) (C := RX1) (T := TX1) (N := 3) hx hb hts inB1 tyX1 tyX1_ok hown (hts _ m_153) (hts _ m_155) (hts _ m_83) hE.1 hP hD hS hA rfl df1 (Nat.le_of_ble_eq_true rfl) (Nat.le_of_ble_eq_true rfl) dX2_init_82 (fun nq5 H hP hD hS => ?_)
  have hP : va_P G classes [(h0, .inr (2, [.int 5, .int 9, .int 0, .ref nq1, .ref nq2, .ref nq3, .ref nq4])), (nq1, .inl (cy 0, 5, .inl (upd (upd (upd (upd (upd (fun _ => 0) 0 50) 1 50) 2 50) 3 50) 4 50))), (nq2, .inl (cy 0, 5, .inl (fun _ => 0))), (nq3, .inl (cy 3, 3, .inr (.inr (.inr (.inr (fun _ => none)))))), (nq4, .inl (cy 0, 5, .inl (fun _ => 0))), (nq5, .inr (1, [.null, .null, .int 0]))] H := hP
  have hD : va_D A [(h0, .inr (2, [.int 5, .int 9, .int 0, .ref nq1, .ref nq2, .ref nq3, .ref nq4])), (nq1, .inl (cy 0, 5, .inl (upd (upd (upd (upd (upd (fun _ => 0) 0 50) 1 50) 2 50) 3 50) 4 50))), (nq2, .inl (cy 0, 5, .inl (fun _ => 0))), (nq3, .inl (cy 3, 3, .inr (.inr (.inr (.inr (fun _ => none)))))), (nq4, .inl (cy 0, 5, .inl (fun _ => 0))), (nq5, .inr (1, [.null, .null, .int 0]))] := hD
  refine lv_dup hx hb dX2_init_85 rfl ?_
  refine wIN (B := (B_c_X1_init G cy sk (va_A [(nq5, .inr (1, [.null, .null, .int 0]))] H.size) nq5)) (wr := [(h0, .inr (2, [.int 5, .int 9, .int 0, .ref nq1, .ref nq2, .ref nq3, .ref nq4])), (nq1, .inl (cy 0, 5, .inl (upd (upd (upd (upd (upd (fun _ => 0) 0 50) 1 50) 2 50) 3 50) 4 50))), (nq2, .inl (cy 0, 5, .inl (fun _ => 0))), (nq3, .inl (cy 3, 3, .inr (.inr (.inr (.inr (fun _ => none)))))), (nq4, .inl (cy 0, 5, .inl (fun _ => 0)))]) (rest := [.ref nq5, .int 0, .ref nq3]) (host := "ClickStreet") hx hb hml hown hts hE (c_X1_init l G cy sk H.size nq5) kI_X1_init (by decide +kernel) rfl rfl ⟨(Nat.le_of_ble_eq_true rfl), (Nat.le_of_ble_eq_true rfl)⟩ hP hD hS hA [5] [0, 1, 2, 3, 4] rfl rfl rfl rfl (by decide) rfl rfl hl.1 (Nat.le_of_ble_eq_true rfl) dX2_init_86 ⟨(Nat.le_of_ble_eq_true rfl), (Nat.le_of_ble_eq_true rfl)⟩ (fun H locs haf hS => ?_)
  obtain ⟨xq7, xq8, hP1, hD1⟩ := haf.1
  obtain ⟨hP, hD⟩ := haf.2.1 _ hP1 hD1
  have hP : va_P G classes [(h0, .inr (2, [.int 5, .int 9, .int 0, .ref nq1, .ref nq2, .ref nq3, .ref nq4])), (nq1, .inl (cy 0, 5, .inl (upd (upd (upd (upd (upd (fun _ => 0) 0 50) 1 50) 2 50) 3 50) 4 50))), (nq2, .inl (cy 0, 5, .inl (fun _ => 0))), (nq3, .inl (cy 3, 3, .inr (.inr (.inr (.inr (fun _ => none)))))), (nq4, .inl (cy 0, 5, .inl (fun _ => 0))), (nq5, .inr (1, [.ref xq7, .ref xq8, .int 0])), (xq7, .inl (cy 0, 48, .inl (fun _ => 0))), (xq8, .inl (cy 0, 48, .inl (fun _ => 0)))] H := hP
  have hD : va_D A [(h0, .inr (2, [.int 5, .int 9, .int 0, .ref nq1, .ref nq2, .ref nq3, .ref nq4])), (nq1, .inl (cy 0, 5, .inl (upd (upd (upd (upd (upd (fun _ => 0) 0 50) 1 50) 2 50) 3 50) 4 50))), (nq2, .inl (cy 0, 5, .inl (fun _ => 0))), (nq3, .inl (cy 3, 3, .inr (.inr (.inr (.inr (fun _ => none)))))), (nq4, .inl (cy 0, 5, .inl (fun _ => 0))), (nq5, .inr (1, [.ref xq7, .ref xq8, .int 0])), (xq7, .inl (cy 0, 48, .inl (fun _ => 0))), (xq8, .inl (cy 0, 48, .inl (fun _ => 0)))] := hD
  refine va_astq hx hb hE.1 hP hD hS 3 3 5 1 rfl rfl rfl rfl (vinL (by decide)) dX2_init_89 (fun H locs hP hD hS => ?_)
  have hP : va_P G classes [(h0, .inr (2, [.int 5, .int 9, .int 0, .ref nq1, .ref nq2, .ref nq3, .ref nq4])), (nq1, .inl (cy 0, 5, .inl (upd (upd (upd (upd (upd (fun _ => 0) 0 50) 1 50) 2 50) 3 50) 4 50))), (nq2, .inl (cy 0, 5, .inl (fun _ => 0))), (nq3, .inl (cy 3, 3, .inr (.inr (.inr (.inr (va_up (fun _ => none) 0 (some nq5))))))), (nq4, .inl (cy 0, 5, .inl (fun _ => 0))), (nq5, .inr (1, [.ref xq7, .ref xq8, .int 0])), (xq7, .inl (cy 0, 48, .inl (fun _ => 0))), (xq8, .inl (cy 0, 48, .inl (fun _ => 0)))] H := hP
  have hD : va_D A [(h0, .inr (2, [.int 5, .int 9, .int 0, .ref nq1, .ref nq2, .ref nq3, .ref nq4])), (nq1, .inl (cy 0, 5, .inl (upd (upd (upd (upd (upd (fun _ => 0) 0 50) 1 50) 2 50) 3 50) 4 50))), (nq2, .inl (cy 0, 5, .inl (fun _ => 0))), (nq3, .inl (cy 3, 3, .inr (.inr (.inr (.inr (va_up (fun _ => none) 0 (some nq5))))))), (nq4, .inl (cy 0, 5, .inl (fun _ => 0))), (nq5, .inr (1, [.ref xq7, .ref xq8, .int 0])), (xq7, .inl (cy 0, 48, .inl (fun _ => 0))), (xq8, .inl (cy 0, 48, .inl (fun _ => 0)))] := hD
  refine lv_iinc (v := 1) (lv' := [(1, .int 1), (0, .ref h0)]) hx hb dX2_init_90 hl (k := 0) rfl (by decide) (by decide) rfl (fun ls hl => ?_)
  refine lv_goto (tgt := 72) hx hb dX2_init_93 (by decide) ?_
  refine lv_iload_n hx hb dX2_init_72 rfl (lv_at hl 0 rfl) ?_
  refine lv_iconst (v := 3) hx hb dX2_init_73 (by decide) ?_
  refine lv_icmp_ge (tgt := 96) hx hb dX2_init_74 (by decide) (fun h9 => absurd h9 (by decide)) (fun _ => ?_)
  refine lv_aload_n hx hb dX2_init_77 rfl (lv_at hl 1 rfl) ?_
  refine va_get (D := G) (ci := 2) (v := .ref nq3) (C := RX2) (T := TX2) (N := 7) hx hb hts inB2 hown hE.1 hP 0 rfl rfl 5 (by decide) (hts _ m_175) (fun _ h9 => h9) rfl dX2_init_78 ?_
  refine lv_iload_n hx hb dX2_init_81 rfl (lv_at hl 0 rfl) ?_
  refine va_new (ci := 1) (fs := [.null, .null, .int 0]) (C := RX1) (T := TX1) (N := 3) hx hb hts inB1 tyX1 tyX1_ok hown (hts _ m_153) (hts _ m_155) (hts _ m_83) hE.1 hP hD hS hA rfl df1 (Nat.le_of_ble_eq_true rfl) (Nat.le_of_ble_eq_true rfl) dX2_init_82 (fun nq9 H hP hD hS => ?_)
  have hP : va_P G classes [(h0, .inr (2, [.int 5, .int 9, .int 0, .ref nq1, .ref nq2, .ref nq3, .ref nq4])), (nq1, .inl (cy 0, 5, .inl (upd (upd (upd (upd (upd (fun _ => 0) 0 50) 1 50) 2 50) 3 50) 4 50))), (nq2, .inl (cy 0, 5, .inl (fun _ => 0))), (nq3, .inl (cy 3, 3, .inr (.inr (.inr (.inr (va_up (fun _ => none) 0 (some nq5))))))), (nq4, .inl (cy 0, 5, .inl (fun _ => 0))), (nq5, .inr (1, [.ref xq7, .ref xq8, .int 0])), (xq7, .inl (cy 0, 48, .inl (fun _ => 0))), (xq8, .inl (cy 0, 48, .inl (fun _ => 0))), (nq9, .inr (1, [.null, .null, .int 0]))] H := hP
  have hD : va_D A [(h0, .inr (2, [.int 5, .int 9, .int 0, .ref nq1, .ref nq2, .ref nq3, .ref nq4])), (nq1, .inl (cy 0, 5, .inl (upd (upd (upd (upd (upd (fun _ => 0) 0 50) 1 50) 2 50) 3 50) 4 50))), (nq2, .inl (cy 0, 5, .inl (fun _ => 0))), (nq3, .inl (cy 3, 3, .inr (.inr (.inr (.inr (va_up (fun _ => none) 0 (some nq5))))))), (nq4, .inl (cy 0, 5, .inl (fun _ => 0))), (nq5, .inr (1, [.ref xq7, .ref xq8, .int 0])), (xq7, .inl (cy 0, 48, .inl (fun _ => 0))), (xq8, .inl (cy 0, 48, .inl (fun _ => 0))), (nq9, .inr (1, [.null, .null, .int 0]))] := hD
  refine lv_dup hx hb dX2_init_85 rfl ?_
  refine wIN (B := (B_c_X1_init G cy sk (va_A [(nq9, .inr (1, [.null, .null, .int 0]))] H.size) nq9)) (wr := [(h0, .inr (2, [.int 5, .int 9, .int 0, .ref nq1, .ref nq2, .ref nq3, .ref nq4])), (nq1, .inl (cy 0, 5, .inl (upd (upd (upd (upd (upd (fun _ => 0) 0 50) 1 50) 2 50) 3 50) 4 50))), (nq2, .inl (cy 0, 5, .inl (fun _ => 0))), (nq3, .inl (cy 3, 3, .inr (.inr (.inr (.inr (va_up (fun _ => none) 0 (some nq5))))))), (nq4, .inl (cy 0, 5, .inl (fun _ => 0))), (nq5, .inr (1, [.ref xq7, .ref xq8, .int 0])), (xq7, .inl (cy 0, 48, .inl (fun _ => 0))), (xq8, .inl (cy 0, 48, .inl (fun _ => 0)))]) (rest := [.ref nq9, .int 1, .ref nq3]) (host := "ClickStreet") hx hb hml hown hts hE (c_X1_init l G cy sk H.size nq9) kI_X1_init (by decide +kernel) rfl rfl ⟨(Nat.le_of_ble_eq_true rfl), (Nat.le_of_ble_eq_true rfl)⟩ hP hD hS hA [8] [0, 1, 2, 3, 4, 5, 6, 7] rfl rfl rfl rfl (by decide) rfl rfl hl.1 (Nat.le_of_ble_eq_true rfl) dX2_init_86 ⟨(Nat.le_of_ble_eq_true rfl), (Nat.le_of_ble_eq_true rfl)⟩ (fun H locs haf hS => ?_)
  obtain ⟨xq11, xq12, hP1, hD1⟩ := haf.1
  obtain ⟨hP, hD⟩ := haf.2.1 _ hP1 hD1
  have hP : va_P G classes [(h0, .inr (2, [.int 5, .int 9, .int 0, .ref nq1, .ref nq2, .ref nq3, .ref nq4])), (nq1, .inl (cy 0, 5, .inl (upd (upd (upd (upd (upd (fun _ => 0) 0 50) 1 50) 2 50) 3 50) 4 50))), (nq2, .inl (cy 0, 5, .inl (fun _ => 0))), (nq3, .inl (cy 3, 3, .inr (.inr (.inr (.inr (va_up (fun _ => none) 0 (some nq5))))))), (nq4, .inl (cy 0, 5, .inl (fun _ => 0))), (nq5, .inr (1, [.ref xq7, .ref xq8, .int 0])), (xq7, .inl (cy 0, 48, .inl (fun _ => 0))), (xq8, .inl (cy 0, 48, .inl (fun _ => 0))), (nq9, .inr (1, [.ref xq11, .ref xq12, .int 0])), (xq11, .inl (cy 0, 48, .inl (fun _ => 0))), (xq12, .inl (cy 0, 48, .inl (fun _ => 0)))] H := hP
  have hD : va_D A [(h0, .inr (2, [.int 5, .int 9, .int 0, .ref nq1, .ref nq2, .ref nq3, .ref nq4])), (nq1, .inl (cy 0, 5, .inl (upd (upd (upd (upd (upd (fun _ => 0) 0 50) 1 50) 2 50) 3 50) 4 50))), (nq2, .inl (cy 0, 5, .inl (fun _ => 0))), (nq3, .inl (cy 3, 3, .inr (.inr (.inr (.inr (va_up (fun _ => none) 0 (some nq5))))))), (nq4, .inl (cy 0, 5, .inl (fun _ => 0))), (nq5, .inr (1, [.ref xq7, .ref xq8, .int 0])), (xq7, .inl (cy 0, 48, .inl (fun _ => 0))), (xq8, .inl (cy 0, 48, .inl (fun _ => 0))), (nq9, .inr (1, [.ref xq11, .ref xq12, .int 0])), (xq11, .inl (cy 0, 48, .inl (fun _ => 0))), (xq12, .inl (cy 0, 48, .inl (fun _ => 0)))] := hD
  refine va_astq hx hb hE.1 hP hD hS 3 3 8 1 rfl rfl rfl rfl (vinL (by decide)) dX2_init_89 (fun H locs hP hD hS => ?_)
  have hP : va_P G classes [(h0, .inr (2, [.int 5, .int 9, .int 0, .ref nq1, .ref nq2, .ref nq3, .ref nq4])), (nq1, .inl (cy 0, 5, .inl (upd (upd (upd (upd (upd (fun _ => 0) 0 50) 1 50) 2 50) 3 50) 4 50))), (nq2, .inl (cy 0, 5, .inl (fun _ => 0))), (nq3, .inl (cy 3, 3, .inr (.inr (.inr (.inr (va_up (va_up (fun _ => none) 0 (some nq5)) 1 (some nq9))))))), (nq4, .inl (cy 0, 5, .inl (fun _ => 0))), (nq5, .inr (1, [.ref xq7, .ref xq8, .int 0])), (xq7, .inl (cy 0, 48, .inl (fun _ => 0))), (xq8, .inl (cy 0, 48, .inl (fun _ => 0))), (nq9, .inr (1, [.ref xq11, .ref xq12, .int 0])), (xq11, .inl (cy 0, 48, .inl (fun _ => 0))), (xq12, .inl (cy 0, 48, .inl (fun _ => 0)))] H := hP
  have hD : va_D A [(h0, .inr (2, [.int 5, .int 9, .int 0, .ref nq1, .ref nq2, .ref nq3, .ref nq4])), (nq1, .inl (cy 0, 5, .inl (upd (upd (upd (upd (upd (fun _ => 0) 0 50) 1 50) 2 50) 3 50) 4 50))), (nq2, .inl (cy 0, 5, .inl (fun _ => 0))), (nq3, .inl (cy 3, 3, .inr (.inr (.inr (.inr (va_up (va_up (fun _ => none) 0 (some nq5)) 1 (some nq9))))))), (nq4, .inl (cy 0, 5, .inl (fun _ => 0))), (nq5, .inr (1, [.ref xq7, .ref xq8, .int 0])), (xq7, .inl (cy 0, 48, .inl (fun _ => 0))), (xq8, .inl (cy 0, 48, .inl (fun _ => 0))), (nq9, .inr (1, [.ref xq11, .ref xq12, .int 0])), (xq11, .inl (cy 0, 48, .inl (fun _ => 0))), (xq12, .inl (cy 0, 48, .inl (fun _ => 0)))] := hD
  refine lv_iinc (v := 2) (lv' := [(1, .int 2), (0, .ref h0)]) hx hb dX2_init_90 hl (k := 0) rfl (by decide) (by decide) rfl (fun ls hl => ?_)
  refine lv_goto (tgt := 72) hx hb dX2_init_93 (by decide) ?_
  refine lv_iload_n hx hb dX2_init_72 rfl (lv_at hl 0 rfl) ?_
  refine lv_iconst (v := 3) hx hb dX2_init_73 (by decide) ?_
  refine lv_icmp_ge (tgt := 96) hx hb dX2_init_74 (by decide) (fun h9 => absurd h9 (by decide)) (fun _ => ?_)
  refine lv_aload_n hx hb dX2_init_77 rfl (lv_at hl 1 rfl) ?_
  refine va_get (D := G) (ci := 2) (v := .ref nq3) (C := RX2) (T := TX2) (N := 7) hx hb hts inB2 hown hE.1 hP 0 rfl rfl 5 (by decide) (hts _ m_175) (fun _ h9 => h9) rfl dX2_init_78 ?_
  refine lv_iload_n hx hb dX2_init_81 rfl (lv_at hl 0 rfl) ?_
  refine va_new (ci := 1) (fs := [.null, .null, .int 0]) (C := RX1) (T := TX1) (N := 3) hx hb hts inB1 tyX1 tyX1_ok hown (hts _ m_153) (hts _ m_155) (hts _ m_83) hE.1 hP hD hS hA rfl df1 (Nat.le_of_ble_eq_true rfl) (Nat.le_of_ble_eq_true rfl) dX2_init_82 (fun nq13 H hP hD hS => ?_)
  have hP : va_P G classes [(h0, .inr (2, [.int 5, .int 9, .int 0, .ref nq1, .ref nq2, .ref nq3, .ref nq4])), (nq1, .inl (cy 0, 5, .inl (upd (upd (upd (upd (upd (fun _ => 0) 0 50) 1 50) 2 50) 3 50) 4 50))), (nq2, .inl (cy 0, 5, .inl (fun _ => 0))), (nq3, .inl (cy 3, 3, .inr (.inr (.inr (.inr (va_up (va_up (fun _ => none) 0 (some nq5)) 1 (some nq9))))))), (nq4, .inl (cy 0, 5, .inl (fun _ => 0))), (nq5, .inr (1, [.ref xq7, .ref xq8, .int 0])), (xq7, .inl (cy 0, 48, .inl (fun _ => 0))), (xq8, .inl (cy 0, 48, .inl (fun _ => 0))), (nq9, .inr (1, [.ref xq11, .ref xq12, .int 0])), (xq11, .inl (cy 0, 48, .inl (fun _ => 0))), (xq12, .inl (cy 0, 48, .inl (fun _ => 0))), (nq13, .inr (1, [.null, .null, .int 0]))] H := hP
  have hD : va_D A [(h0, .inr (2, [.int 5, .int 9, .int 0, .ref nq1, .ref nq2, .ref nq3, .ref nq4])), (nq1, .inl (cy 0, 5, .inl (upd (upd (upd (upd (upd (fun _ => 0) 0 50) 1 50) 2 50) 3 50) 4 50))), (nq2, .inl (cy 0, 5, .inl (fun _ => 0))), (nq3, .inl (cy 3, 3, .inr (.inr (.inr (.inr (va_up (va_up (fun _ => none) 0 (some nq5)) 1 (some nq9))))))), (nq4, .inl (cy 0, 5, .inl (fun _ => 0))), (nq5, .inr (1, [.ref xq7, .ref xq8, .int 0])), (xq7, .inl (cy 0, 48, .inl (fun _ => 0))), (xq8, .inl (cy 0, 48, .inl (fun _ => 0))), (nq9, .inr (1, [.ref xq11, .ref xq12, .int 0])), (xq11, .inl (cy 0, 48, .inl (fun _ => 0))), (xq12, .inl (cy 0, 48, .inl (fun _ => 0))), (nq13, .inr (1, [.null, .null, .int 0]))] := hD
  refine lv_dup hx hb dX2_init_85 rfl ?_
  refine wIN (B := (B_c_X1_init G cy sk (va_A [(nq13, .inr (1, [.null, .null, .int 0]))] H.size) nq13)) (wr := [(h0, .inr (2, [.int 5, .int 9, .int 0, .ref nq1, .ref nq2, .ref nq3, .ref nq4])), (nq1, .inl (cy 0, 5, .inl (upd (upd (upd (upd (upd (fun _ => 0) 0 50) 1 50) 2 50) 3 50) 4 50))), (nq2, .inl (cy 0, 5, .inl (fun _ => 0))), (nq3, .inl (cy 3, 3, .inr (.inr (.inr (.inr (va_up (va_up (fun _ => none) 0 (some nq5)) 1 (some nq9))))))), (nq4, .inl (cy 0, 5, .inl (fun _ => 0))), (nq5, .inr (1, [.ref xq7, .ref xq8, .int 0])), (xq7, .inl (cy 0, 48, .inl (fun _ => 0))), (xq8, .inl (cy 0, 48, .inl (fun _ => 0))), (nq9, .inr (1, [.ref xq11, .ref xq12, .int 0])), (xq11, .inl (cy 0, 48, .inl (fun _ => 0))), (xq12, .inl (cy 0, 48, .inl (fun _ => 0)))]) (rest := [.ref nq13, .int 2, .ref nq3]) (host := "ClickStreet") hx hb hml hown hts hE (c_X1_init l G cy sk H.size nq13) kI_X1_init (by decide +kernel) rfl rfl ⟨(Nat.le_of_ble_eq_true rfl), (Nat.le_of_ble_eq_true rfl)⟩ hP hD hS hA [11] [0, 1, 2, 3, 4, 5, 6, 7, 8, 9, 10] rfl rfl rfl rfl (by decide) rfl rfl hl.1 (Nat.le_of_ble_eq_true rfl) dX2_init_86 ⟨(Nat.le_of_ble_eq_true rfl), (Nat.le_of_ble_eq_true rfl)⟩ (fun H locs haf hS => ?_)
  obtain ⟨xq15, xq16, hP1, hD1⟩ := haf.1
  obtain ⟨hP, hD⟩ := haf.2.1 _ hP1 hD1
  have hP : va_P G classes [(h0, .inr (2, [.int 5, .int 9, .int 0, .ref nq1, .ref nq2, .ref nq3, .ref nq4])), (nq1, .inl (cy 0, 5, .inl (upd (upd (upd (upd (upd (fun _ => 0) 0 50) 1 50) 2 50) 3 50) 4 50))), (nq2, .inl (cy 0, 5, .inl (fun _ => 0))), (nq3, .inl (cy 3, 3, .inr (.inr (.inr (.inr (va_up (va_up (fun _ => none) 0 (some nq5)) 1 (some nq9))))))), (nq4, .inl (cy 0, 5, .inl (fun _ => 0))), (nq5, .inr (1, [.ref xq7, .ref xq8, .int 0])), (xq7, .inl (cy 0, 48, .inl (fun _ => 0))), (xq8, .inl (cy 0, 48, .inl (fun _ => 0))), (nq9, .inr (1, [.ref xq11, .ref xq12, .int 0])), (xq11, .inl (cy 0, 48, .inl (fun _ => 0))), (xq12, .inl (cy 0, 48, .inl (fun _ => 0))), (nq13, .inr (1, [.ref xq15, .ref xq16, .int 0])), (xq15, .inl (cy 0, 48, .inl (fun _ => 0))), (xq16, .inl (cy 0, 48, .inl (fun _ => 0)))] H := hP
  have hD : va_D A [(h0, .inr (2, [.int 5, .int 9, .int 0, .ref nq1, .ref nq2, .ref nq3, .ref nq4])), (nq1, .inl (cy 0, 5, .inl (upd (upd (upd (upd (upd (fun _ => 0) 0 50) 1 50) 2 50) 3 50) 4 50))), (nq2, .inl (cy 0, 5, .inl (fun _ => 0))), (nq3, .inl (cy 3, 3, .inr (.inr (.inr (.inr (va_up (va_up (fun _ => none) 0 (some nq5)) 1 (some nq9))))))), (nq4, .inl (cy 0, 5, .inl (fun _ => 0))), (nq5, .inr (1, [.ref xq7, .ref xq8, .int 0])), (xq7, .inl (cy 0, 48, .inl (fun _ => 0))), (xq8, .inl (cy 0, 48, .inl (fun _ => 0))), (nq9, .inr (1, [.ref xq11, .ref xq12, .int 0])), (xq11, .inl (cy 0, 48, .inl (fun _ => 0))), (xq12, .inl (cy 0, 48, .inl (fun _ => 0))), (nq13, .inr (1, [.ref xq15, .ref xq16, .int 0])), (xq15, .inl (cy 0, 48, .inl (fun _ => 0))), (xq16, .inl (cy 0, 48, .inl (fun _ => 0)))] := hD
  refine va_astq hx hb hE.1 hP hD hS 3 3 11 1 rfl rfl rfl rfl (vinL (by decide)) dX2_init_89 (fun H locs hP hD hS => ?_)
  have hP : va_P G classes [(h0, .inr (2, [.int 5, .int 9, .int 0, .ref nq1, .ref nq2, .ref nq3, .ref nq4])), (nq1, .inl (cy 0, 5, .inl (upd (upd (upd (upd (upd (fun _ => 0) 0 50) 1 50) 2 50) 3 50) 4 50))), (nq2, .inl (cy 0, 5, .inl (fun _ => 0))), (nq3, .inl (cy 3, 3, .inr (.inr (.inr (.inr (va_up (va_up (va_up (fun _ => none) 0 (some nq5)) 1 (some nq9)) 2 (some nq13))))))), (nq4, .inl (cy 0, 5, .inl (fun _ => 0))), (nq5, .inr (1, [.ref xq7, .ref xq8, .int 0])), (xq7, .inl (cy 0, 48, .inl (fun _ => 0))), (xq8, .inl (cy 0, 48, .inl (fun _ => 0))), (nq9, .inr (1, [.ref xq11, .ref xq12, .int 0])), (xq11, .inl (cy 0, 48, .inl (fun _ => 0))), (xq12, .inl (cy 0, 48, .inl (fun _ => 0))), (nq13, .inr (1, [.ref xq15, .ref xq16, .int 0])), (xq15, .inl (cy 0, 48, .inl (fun _ => 0))), (xq16, .inl (cy 0, 48, .inl (fun _ => 0)))] H := hP
  have hD : va_D A [(h0, .inr (2, [.int 5, .int 9, .int 0, .ref nq1, .ref nq2, .ref nq3, .ref nq4])), (nq1, .inl (cy 0, 5, .inl (upd (upd (upd (upd (upd (fun _ => 0) 0 50) 1 50) 2 50) 3 50) 4 50))), (nq2, .inl (cy 0, 5, .inl (fun _ => 0))), (nq3, .inl (cy 3, 3, .inr (.inr (.inr (.inr (va_up (va_up (va_up (fun _ => none) 0 (some nq5)) 1 (some nq9)) 2 (some nq13))))))), (nq4, .inl (cy 0, 5, .inl (fun _ => 0))), (nq5, .inr (1, [.ref xq7, .ref xq8, .int 0])), (xq7, .inl (cy 0, 48, .inl (fun _ => 0))), (xq8, .inl (cy 0, 48, .inl (fun _ => 0))), (nq9, .inr (1, [.ref xq11, .ref xq12, .int 0])), (xq11, .inl (cy 0, 48, .inl (fun _ => 0))), (xq12, .inl (cy 0, 48, .inl (fun _ => 0))), (nq13, .inr (1, [.ref xq15, .ref xq16, .int 0])), (xq15, .inl (cy 0, 48, .inl (fun _ => 0))), (xq16, .inl (cy 0, 48, .inl (fun _ => 0)))] := hD
  refine lv_iinc (v := 3) (lv' := [(1, .int 3), (0, .ref h0)]) hx hb dX2_init_90 hl (k := 0) rfl (by decide) (by decide) rfl (fun ls hl => ?_)
  refine lv_goto (tgt := 72) hx hb dX2_init_93 (by decide) ?_
  refine lv_iload_n hx hb dX2_init_72 rfl (lv_at hl 0 rfl) ?_
  refine lv_iconst (v := 3) hx hb dX2_init_73 (by decide) ?_
  refine lv_icmp_ge (tgt := 96) hx hb dX2_init_74 (by decide) (fun _ => ?_) (fun h9 => absurd h9 (by decide))
  have hP9 := P_cut (wc := [(h0, .inr (2, [.int 5, .int 9, .int 0, .ref nq1, .ref nq2, .ref nq3, .ref nq4])), (nq1, .inl (cy 0, 5, .inl (upd (upd (upd (upd (upd (fun _ => 0) 0 50) 1 50) 2 50) 3 50) 4 50))), (nq2, .inl (cy 0, 5, .inl (fun _ => 0))), (nq3, .inl (cy 3, 3, .inr (.inr (.inr (.inr (va_up (va_up (va_up (fun _ => none) 0 (some nq5)) 1 (some nq9)) 2 (some nq13))))))), (nq4, .inl (cy 0, 5, .inl (fun _ => 0))), (nq5, .inr (1, [.ref xq7, .ref xq8, .int 0])), (xq7, .inl (cy 0, 48, .inl (fun _ => 0))), (xq8, .inl (cy 0, 48, .inl (fun _ => 0))), (nq9, .inr (1, [.ref xq11, .ref xq12, .int 0])), (xq11, .inl (cy 0, 48, .inl (fun _ => 0))), (xq12, .inl (cy 0, 48, .inl (fun _ => 0))), (nq13, .inr (1, [.ref xq15, .ref xq16, .int 0])), (xq15, .inl (cy 0, 48, .inl (fun _ => 0))), (xq16, .inl (cy 0, 48, .inl (fun _ => 0)))]) hP [0, 1, 2, 3, 4, 5, 6, 7, 8, 9, 10, 11, 12, 13] rfl
  have hD9 := hD.sub (ws' := [(h0, .inr (2, [.int 5, .int 9, .int 0, .ref nq1, .ref nq2, .ref nq3, .ref nq4])), (nq1, .inl (cy 0, 5, .inl (upd (upd (upd (upd (upd (fun _ => 0) 0 50) 1 50) 2 50) 3 50) 4 50))), (nq2, .inl (cy 0, 5, .inl (fun _ => 0))), (nq3, .inl (cy 3, 3, .inr (.inr (.inr (.inr (va_up (va_up (va_up (fun _ => none) 0 (some nq5)) 1 (some nq9)) 2 (some nq13))))))), (nq4, .inl (cy 0, 5, .inl (fun _ => 0))), (nq5, .inr (1, [.ref xq7, .ref xq8, .int 0])), (xq7, .inl (cy 0, 48, .inl (fun _ => 0))), (xq8, .inl (cy 0, 48, .inl (fun _ => 0))), (nq9, .inr (1, [.ref xq11, .ref xq12, .int 0])), (xq11, .inl (cy 0, 48, .inl (fun _ => 0))), (xq12, .inl (cy 0, 48, .inl (fun _ => 0))), (nq13, .inr (1, [.ref xq15, .ref xq16, .int 0])), (xq15, .inl (cy 0, 48, .inl (fun _ => 0))), (xq16, .inl (cy 0, 48, .inl (fun _ => 0)))]) [0, 1, 2, 3, 4, 5, 6, 7, 8, 9, 10, 11, 12, 13] (by decide) rfl
  refine W.widen (k := 13) (n := 315) (by first | exact Nat.le_of_ble_eq_true rfl | omega) (by first | exact Nat.le_of_ble_eq_true rfl | omega) ?_
  exact W.vret hx hb hr (fun t ht hW => ⟨⟨(), rfl, trivial, by dsimp only; rw [ht]; exact ⟨nq1, nq2, nq3, nq4, nq5, xq7, xq8, nq9, xq11, xq12, nq13, xq15, xq16, (upd (upd (upd (upd (upd (fun _ => 0) 0 50) 1 50) 2 50) 3 50) 4 50), (va_up (va_up (va_up (fun _ => none) 0 (some nq5)) 1 (some nq9)) 2 (some nq13)), rfl, rfl, rfl, (by decide), hP9, hD9⟩⟩, hS.F ht⟩) hS.2.2 dX2_init_96
def B_c_X4_init (G : va_G) (cy : Nat → ClassId) (sk : Nat → Nat) (A : Nat → Prop) (h0 : Nat) (H : Heap) : Prop := ∃ (dr : Nat) (t0 : Nat) (co : Nat) (ck : Nat) (t0a : Nat) (nm : Nat), (nm = (sk 0)) ∧ va_P G classes [(h0, .inr (4, [.ref dr, .ref t0, .ref nm, .int 0, .int (-1), .int 0, .int 0])), (dr, .inr (1, [.ref co, .ref ck, .int 0])), (co, .inl (cy 0, 48, .inl (fun _ => 0))), (ck, .inl (cy 0, 48, .inl (fun _ => 0))), (t0, .inr (5, [.ref t0a, .int 0])), (t0a, .inl (cy 0, 0, .inl (fun _ => 0)))] H ∧ va_D A [(h0, .inr (4, [.ref dr, .ref t0, .ref nm, .int 0, .int (-1), .int 0, .int 0])), (dr, .inr (1, [.ref co, .ref ck, .int 0])), (co, .inl (cy 0, 48, .inl (fun _ => 0))), (ck, .inl (cy 0, 48, .inl (fun _ => 0))), (t0, .inr (5, [.ref t0a, .int 0])), (t0a, .inl (cy 0, 0, .inl (fun _ => 0)))]
set_option maxHeartbeats 4000000 in
set_option maxRecDepth 100000 in
theorem c_X4_init (l : Launch) (G : va_G) (cy : Nat → ClassId) (sk : Nat → Nat) (sz : Nat) (h0 : Nat)  : Met l yX4_init (wsO yX4_init cX4_init 1 none) ({ frames := 2, cells := 5, slots := 201, locals := 35 }) (va_Pc [.ref h0] (PR G cy sk sz [(h0, .inr (4, [.null, .null, .null, .int 0, .int 0, .int 0, .int 0]))])) (va_Qv (fun (_ : Unit) => True) (fun _ t => B_c_X4_init G cy sk (va_A [(h0, .inr (4, [.null, .null, .null, .int 0, .int 0, .int 0, .int 0]))] sz) h0 t.heap) (va_A [(h0, .inr (4, [.null, .null, .null, .int 0, .int 0, .int 0, .int 0]))] sz)) 5 201 (va_A [(h0, .inr (4, [.null, .null, .null, .int 0, .int 0, .int 0, .int 0]))] sz) := by
  refine mt (by decide) (Nat.le_of_ble_eq_true rfl) ?_
  intro p e s m below meth c ls hx hb hr hml hts hown hlocks hin hsz hP hE hD hl
  subst hsz
  have hl : lv_has ls 1 [(0, .ref h0)] := hl
  have hD := hD.self (sz := s.heap.size)
  generalize hAe : va_A [(h0, .inr (4, [.null, .null, .null, .int 0, .int 0, .int 0, .int 0]))] s.heap.size = A at hD ⊢
  have hA : ∀ q : Nat, s.heap.size ≤ q → A q := fun q h => by rw [← hAe]; exact Or.inr h
  have hS : va_S A s.heap s.heap [] := va_S.rf
  refine lv_aload_n hx hb dX4_init_0 rfl (lv_at hl 0 rfl) ?_
  refine W.objInit hx hb hown (hts _ m_352) (hts _ m_107) (hts _ m_108) rfl (by rw [hml]; exact hl.1) rfl dX4_init_1 (Nat.le_of_ble_eq_true rfl) (Nat.le_of_ble_eq_true rfl) ?_
  refine W.eq (g2 := F0 m 4 ls []) rfl ?_
  refine lv_aload_n hx hb dX4_init_4 rfl (lv_at hl 0 rfl) ?_
  refine va_new (ci := 1) (fs := [.null, .null, .int 0]) (C := RX1) (T := TX1) (N := 3) hx hb hts inB1 tyX1 tyX1_ok hown (hts _ m_353) (hts _ m_155) (hts _ m_83) hE.1 hP hD hS hA rfl df1 (Nat.le_of_ble_eq_true rfl) (Nat.le_of_ble_eq_true rfl) dX4_init_5 (fun nq1 H hP hD hS => ?_)
  have hP : va_P G classes [(h0, .inr (4, [.null, .null, .null, .int 0, .int 0, .int 0, .int 0])), (nq1, .inr (1, [.null, .null, .int 0]))] H := hP
  have hD : va_D A [(h0, .inr (4, [.null, .null, .null, .int 0, .int 0, .int 0, .int 0])), (nq1, .inr (1, [.null, .null, .int 0]))] := hD
  refine lv_dup hx hb dX4_init_8 rfl ?_
  refine wIN (B := (B_c_X1_init G cy sk (va_A [(nq1, .inr (1, [.null, .null, .int 0]))] H.size) nq1)) (wr := [(h0, .inr (4, [.null, .null, .null, .int 0, .int 0, .int 0, .int 0]))]) (rest := [.ref nq1, .ref h0]) (host := "ClickStreet") hx hb hml hown hts hE (c_X1_init l G cy sk H.size nq1) kI_X1_init (by decide +kernel) rfl rfl ⟨(Nat.le_of_ble_eq_true rfl), (Nat.le_of_ble_eq_true rfl)⟩ hP hD hS hA [1] [0] rfl rfl rfl rfl (by decide) rfl rfl hl.1 (Nat.le_of_ble_eq_true rfl) dX4_init_9 ⟨(Nat.le_of_ble_eq_true rfl), (Nat.le_of_ble_eq_true rfl)⟩ (fun H locs haf hS => ?_)
  obtain ⟨xq3, xq4, hP1, hD1⟩ := haf.1
  obtain ⟨hP, hD⟩ := haf.2.1 _ hP1 hD1
  have hP : va_P G classes [(h0, .inr (4, [.null, .null, .null, .int 0, .int 0, .int 0, .int 0])), (nq1, .inr (1, [.ref xq3, .ref xq4, .int 0])), (xq3, .inl (cy 0, 48, .inl (fun _ => 0))), (xq4, .inl (cy 0, 48, .inl (fun _ => 0)))] H := hP
  have hD : va_D A [(h0, .inr (4, [.null, .null, .null, .int 0, .int 0, .int 0, .int 0])), (nq1, .inr (1, [.ref xq3, .ref xq4, .int 0])), (xq3, .inl (cy 0, 48, .inl (fun _ => 0))), (xq4, .inl (cy 0, 48, .inl (fun _ => 0)))] := hD
  refine va_putF (D := G) (ci := 4) (v := .ref nq1) (ty := (.object "ClickStreet$Formula")) (C := RX4) (T := TX4) (N := 7) hx hb hts inB4 tyX4 tyX4_ok nmX4 hown hE.1 hP hD hS 0 rfl rfl 0 (by decide) (hts _ m_358) (fun _ h9 => h9) rfl hin rfl (by decide +kernel) rfl rfl (Nat.le_of_ble_eq_true rfl) dX4_init_12 (fun H locs hP hD hS => ?_)
  have hP : va_P G classes [(h0, .inr (4, [.ref nq1, .null, .null, .int 0, .int 0, .int 0, .int 0])), (nq1, .inr (1, [.ref xq3, .ref xq4, .int 0])), (xq3, .inl (cy 0, 48, .inl (fun _ => 0))), (xq4, .inl (cy 0, 48, .inl (fun _ => 0)))] H := hP
  have hD : va_D A [(h0, .inr (4, [.ref nq1, .null, .null, .int 0, .int 0, .int 0, .int 0])), (nq1, .inr (1, [.ref xq3, .ref xq4, .int 0])), (xq3, .inl (cy 0, 48, .inl (fun _ => 0))), (xq4, .inl (cy 0, 48, .inl (fun _ => 0)))] := hD
  refine lv_aload_n hx hb dX4_init_15 rfl (lv_at hl 0 rfl) ?_
  refine va_new (ci := 5) (fs := [.null, .int 0]) (C := RX5) (T := TX5) (N := 2) hx hb hts inB5 tyX5 tyX5_ok hown (hts _ m_355) (hts _ m_200) (hts _ m_85) hE.1 hP hD hS hA rfl df5 (Nat.le_of_ble_eq_true rfl) (Nat.le_of_ble_eq_true rfl) dX4_init_16 (fun nq5 H hP hD hS => ?_)
  have hP : va_P G classes [(h0, .inr (4, [.ref nq1, .null, .null, .int 0, .int 0, .int 0, .int 0])), (nq1, .inr (1, [.ref xq3, .ref xq4, .int 0])), (xq3, .inl (cy 0, 48, .inl (fun _ => 0))), (xq4, .inl (cy 0, 48, .inl (fun _ => 0))), (nq5, .inr (5, [.null, .int 0]))] H := hP
  have hD : va_D A [(h0, .inr (4, [.ref nq1, .null, .null, .int 0, .int 0, .int 0, .int 0])), (nq1, .inr (1, [.ref xq3, .ref xq4, .int 0])), (xq3, .inl (cy 0, 48, .inl (fun _ => 0))), (xq4, .inl (cy 0, 48, .inl (fun _ => 0))), (nq5, .inr (5, [.null, .int 0]))] := hD
  refine lv_dup hx hb dX4_init_19 rfl ?_
  refine lv_iconst (v := 0) hx hb dX4_init_20 (by decide) ?_
  refine wI (B := (B_c_X5_init G cy sk (va_A [(nq5, .inr (5, [.null, .int 0]))] H.size) nq5 0 0)) (wr := [(h0, .inr (4, [.ref nq1, .null, .null, .int 0, .int 0, .int 0, .int 0])), (nq1, .inr (1, [.ref xq3, .ref xq4, .int 0])), (xq3, .inl (cy 0, 48, .inl (fun _ => 0))), (xq4, .inl (cy 0, 48, .inl (fun _ => 0)))]) (rest := [.ref nq5, .ref h0]) hx hb hml hown hts hE (c_X5_init l G cy sk H.size nq5 0 0 rfl (by decide)) kI_X5_init m_356 rfl rfl ⟨(Nat.le_of_ble_eq_true rfl), (Nat.le_of_ble_eq_true rfl)⟩ hP hD hS hA [4] [0, 1, 2, 3] rfl rfl rfl rfl (by decide) rfl rfl hl.1 (Nat.le_of_ble_eq_true rfl) dX4_init_21 ⟨(Nat.le_of_ble_eq_true rfl), (Nat.le_of_ble_eq_true rfl)⟩ (fun H locs haf hS => ?_)
  obtain ⟨xq7, hP1, hD1⟩ := haf.1
  obtain ⟨hP, hD⟩ := haf.2.1 _ hP1 hD1
  have hP : va_P G classes [(h0, .inr (4, [.ref nq1, .null, .null, .int 0, .int 0, .int 0, .int 0])), (nq1, .inr (1, [.ref xq3, .ref xq4, .int 0])), (xq3, .inl (cy 0, 48, .inl (fun _ => 0))), (xq4, .inl (cy 0, 48, .inl (fun _ => 0))), (nq5, .inr (5, [.ref xq7, .int 0])), (xq7, .inl (cy 0, 0, .inl (fun _ => 0)))] H := hP
  have hD : va_D A [(h0, .inr (4, [.ref nq1, .null, .null, .int 0, .int 0, .int 0, .int 0])), (nq1, .inr (1, [.ref xq3, .ref xq4, .int 0])), (xq3, .inl (cy 0, 48, .inl (fun _ => 0))), (xq4, .inl (cy 0, 48, .inl (fun _ => 0))), (nq5, .inr (5, [.ref xq7, .int 0])), (xq7, .inl (cy 0, 0, .inl (fun _ => 0)))] := hD
  refine va_put (D := G) (ci := 4) (v := .ref nq5) (ty := (.object "ClickStreet$Row")) (C := RX4) (T := TX4) (N := 7) hx hb hts inB4 tyX4 tyX4_ok nmX4 hown hE.1 hP hD hS 0 rfl rfl 1 (by decide) (hts _ m_360) (fun _ h9 => h9) rfl (by decide +kernel) rfl rfl (Nat.le_of_ble_eq_true rfl) dX4_init_24 (fun H locs hP hD hS => ?_)
  have hP : va_P G classes [(h0, .inr (4, [.ref nq1, .ref nq5, .null, .int 0, .int 0, .int 0, .int 0])), (nq1, .inr (1, [.ref xq3, .ref xq4, .int 0])), (xq3, .inl (cy 0, 48, .inl (fun _ => 0))), (xq4, .inl (cy 0, 48, .inl (fun _ => 0))), (nq5, .inr (5, [.ref xq7, .int 0])), (xq7, .inl (cy 0, 0, .inl (fun _ => 0)))] H := hP
  have hD : va_D A [(h0, .inr (4, [.ref nq1, .ref nq5, .null, .int 0, .int 0, .int 0, .int 0])), (nq1, .inr (1, [.ref xq3, .ref xq4, .int 0])), (xq3, .inl (cy 0, 48, .inl (fun _ => 0))), (xq4, .inl (cy 0, 48, .inl (fun _ => 0))), (nq5, .inr (5, [.ref xq7, .int 0])), (xq7, .inl (cy 0, 0, .inl (fun _ => 0)))] := hD
  refine lv_aload_n hx hb dX4_init_27 rfl (lv_at hl 0 rfl) ?_
  refine va_ldcS hx hb hown (hE.2.2.2.1 0 _ rfl) dX4_init_28 ?_
  refine va_put (D := G) (ci := 4) (v := .ref (sk 0)) (ty := (.object "java/lang/String")) (C := RX4) (T := TX4) (N := 7) hx hb hts inB4 tyX4 tyX4_ok nmX4 hown hE.1 hP hD hS 0 rfl rfl 2 (by decide) (hts _ m_361) (fun _ h9 => h9) rfl (by decide +kernel) rfl rfl (Nat.le_of_ble_eq_true rfl) dX4_init_30 (fun H locs hP hD hS => ?_)
  have hP : va_P G classes [(h0, .inr (4, [.ref nq1, .ref nq5, .ref (sk 0), .int 0, .int 0, .int 0, .int 0])), (nq1, .inr (1, [.ref xq3, .ref xq4, .int 0])), (xq3, .inl (cy 0, 48, .inl (fun _ => 0))), (xq4, .inl (cy 0, 48, .inl (fun _ => 0))), (nq5, .inr (5, [.ref xq7, .int 0])), (xq7, .inl (cy 0, 0, .inl (fun _ => 0)))] H := hP
  have hD : va_D A [(h0, .inr (4, [.ref nq1, .ref nq5, .ref (sk 0), .int 0, .int 0, .int 0, .int 0])), (nq1, .inr (1, [.ref xq3, .ref xq4, .int 0])), (xq3, .inl (cy 0, 48, .inl (fun _ => 0))), (xq4, .inl (cy 0, 48, .inl (fun _ => 0))), (nq5, .inr (5, [.ref xq7, .int 0])), (xq7, .inl (cy 0, 0, .inl (fun _ => 0)))] := hD
  refine lv_aload_n hx hb dX4_init_33 rfl (lv_at hl 0 rfl) ?_
  refine lv_iconst (v := 0) hx hb dX4_init_34 (by decide) ?_
  refine va_put (D := G) (ci := 4) (v := .int 0) (ty := .int) (C := RX4) (T := TX4) (N := 7) hx hb hts inB4 tyX4 tyX4_ok nmX4 hown hE.1 hP hD hS 0 rfl rfl 3 (by decide) (hts _ m_362) (fun _ h9 => h9) rfl (by decide +kernel) rfl rfl (Nat.le_of_ble_eq_true rfl) dX4_init_35 (fun H locs hP hD hS => ?_)
  have hP : va_P G classes [(h0, .inr (4, [.ref nq1, .ref nq5, .ref (sk 0), .int 0, .int 0, .int 0, .int 0])), (nq1, .inr (1, [.ref xq3, .ref xq4, .int 0])), (xq3, .inl (cy 0, 48, .inl (fun _ => 0))), (xq4, .inl (cy 0, 48, .inl (fun _ => 0))), (nq5, .inr (5, [.ref xq7, .int 0])), (xq7, .inl (cy 0, 0, .inl (fun _ => 0)))] H := hP
  have hD : va_D A [(h0, .inr (4, [.ref nq1, .ref nq5, .ref (sk 0), .int 0, .int 0, .int 0, .int 0])), (nq1, .inr (1, [.ref xq3, .ref xq4, .int 0])), (xq3, .inl (cy 0, 48, .inl (fun _ => 0))), (xq4, .inl (cy 0, 48, .inl (fun _ => 0))), (nq5, .inr (5, [.ref xq7, .int 0])), (xq7, .inl (cy 0, 0, .inl (fun _ => 0)))] := hD
  refine lv_aload_n hx hb dX4_init_38 rfl (lv_at hl 0 rfl) ?_
  refine lv_iconst (v := (-1)) hx hb dX4_init_39 (by decide) ?_
  refine va_put (D := G) (ci := 4) (v := .int (-1)) (ty := .int) (C := RX4) (T := TX4) (N := 7) hx hb hts inB4 tyX4 tyX4_ok nmX4 hown hE.1 hP hD hS 0 rfl rfl 4 (by decide) (hts _ m_363) (fun _ h9 => h9) rfl (by decide +kernel) rfl rfl (Nat.le_of_ble_eq_true rfl) dX4_init_40 (fun H locs hP hD hS => ?_)
  have hP : va_P G classes [(h0, .inr (4, [.ref nq1, .ref nq5, .ref (sk 0), .int 0, .int (-1), .int 0, .int 0])), (nq1, .inr (1, [.ref xq3, .ref xq4, .int 0])), (xq3, .inl (cy 0, 48, .inl (fun _ => 0))), (xq4, .inl (cy 0, 48, .inl (fun _ => 0))), (nq5, .inr (5, [.ref xq7, .int 0])), (xq7, .inl (cy 0, 0, .inl (fun _ => 0)))] H := hP
  have hD : va_D A [(h0, .inr (4, [.ref nq1, .ref nq5, .ref (sk 0), .int 0, .int (-1), .int 0, .int 0])), (nq1, .inr (1, [.ref xq3, .ref xq4, .int 0])), (xq3, .inl (cy 0, 48, .inl (fun _ => 0))), (xq4, .inl (cy 0, 48, .inl (fun _ => 0))), (nq5, .inr (5, [.ref xq7, .int 0])), (xq7, .inl (cy 0, 0, .inl (fun _ => 0)))] := hD
  refine lv_aload_n hx hb dX4_init_43 rfl (lv_at hl 0 rfl) ?_
  refine lv_iconst (v := 0) hx hb dX4_init_44 (by decide) ?_
  refine va_put (D := G) (ci := 4) (v := .int 0) (ty := .int) (C := RX4) (T := TX4) (N := 7) hx hb hts inB4 tyX4 tyX4_ok nmX4 hown hE.1 hP hD hS 0 rfl rfl 5 (by decide) (hts _ m_364) (fun _ h9 => h9) rfl (by decide +kernel) rfl rfl (Nat.le_of_ble_eq_true rfl) dX4_init_45 (fun H locs hP hD hS => ?_)
  have hP : va_P G classes [(h0, .inr (4, [.ref nq1, .ref nq5, .ref (sk 0), .int 0, .int (-1), .int 0, .int 0])), (nq1, .inr (1, [.ref xq3, .ref xq4, .int 0])), (xq3, .inl (cy 0, 48, .inl (fun _ => 0))), (xq4, .inl (cy 0, 48, .inl (fun _ => 0))), (nq5, .inr (5, [.ref xq7, .int 0])), (xq7, .inl (cy 0, 0, .inl (fun _ => 0)))] H := hP
  have hD : va_D A [(h0, .inr (4, [.ref nq1, .ref nq5, .ref (sk 0), .int 0, .int (-1), .int 0, .int 0])), (nq1, .inr (1, [.ref xq3, .ref xq4, .int 0])), (xq3, .inl (cy 0, 48, .inl (fun _ => 0))), (xq4, .inl (cy 0, 48, .inl (fun _ => 0))), (nq5, .inr (5, [.ref xq7, .int 0])), (xq7, .inl (cy 0, 0, .inl (fun _ => 0)))] := hD
  refine lv_aload_n hx hb dX4_init_48 rfl (lv_at hl 0 rfl) ?_
  refine lv_iconst (v := 0) hx hb dX4_init_49 (by decide) ?_
  refine va_put (D := G) (ci := 4) (v := .int 0) (ty := .int) (C := RX4) (T := TX4) (N := 7) hx hb hts inB4 tyX4 tyX4_ok nmX4 hown hE.1 hP hD hS 0 rfl rfl 6 (by decide) (hts _ m_365) (fun _ h9 => h9) rfl (by decide +kernel) rfl rfl (Nat.le_of_ble_eq_true rfl) dX4_init_50 (fun H locs hP hD hS => ?_)
  have hP : va_P G classes [(h0, .inr (4, [.ref nq1, .ref nq5, .ref (sk 0), .int 0, .int (-1), .int 0, .int 0])), (nq1, .inr (1, [.ref xq3, .ref xq4, .int 0])), (xq3, .inl (cy 0, 48, .inl (fun _ => 0))), (xq4, .inl (cy 0, 48, .inl (fun _ => 0))), (nq5, .inr (5, [.ref xq7, .int 0])), (xq7, .inl (cy 0, 0, .inl (fun _ => 0)))] H := hP
  have hD : va_D A [(h0, .inr (4, [.ref nq1, .ref nq5, .ref (sk 0), .int 0, .int (-1), .int 0, .int 0])), (nq1, .inr (1, [.ref xq3, .ref xq4, .int 0])), (xq3, .inl (cy 0, 48, .inl (fun _ => 0))), (xq4, .inl (cy 0, 48, .inl (fun _ => 0))), (nq5, .inr (5, [.ref xq7, .int 0])), (xq7, .inl (cy 0, 0, .inl (fun _ => 0)))] := hD
  have hP9 := P_cut (wc := [(h0, .inr (4, [.ref nq1, .ref nq5, .ref (sk 0), .int 0, .int (-1), .int 0, .int 0])), (nq1, .inr (1, [.ref xq3, .ref xq4, .int 0])), (xq3, .inl (cy 0, 48, .inl (fun _ => 0))), (xq4, .inl (cy 0, 48, .inl (fun _ => 0))), (nq5, .inr (5, [.ref xq7, .int 0])), (xq7, .inl (cy 0, 0, .inl (fun _ => 0)))]) hP [0, 1, 2, 3, 4, 5] rfl
  have hD9 := hD.sub (ws' := [(h0, .inr (4, [.ref nq1, .ref nq5, .ref (sk 0), .int 0, .int (-1), .int 0, .int 0])), (nq1, .inr (1, [.ref xq3, .ref xq4, .int 0])), (xq3, .inl (cy 0, 48, .inl (fun _ => 0))), (xq4, .inl (cy 0, 48, .inl (fun _ => 0))), (nq5, .inr (5, [.ref xq7, .int 0])), (xq7, .inl (cy 0, 0, .inl (fun _ => 0)))]) [0, 1, 2, 3, 4, 5] (by decide) rfl
  refine W.widen (k := 5) (n := 201) (by first | exact Nat.le_of_ble_eq_true rfl | omega) (by first | exact Nat.le_of_ble_eq_true rfl | omega) ?_
  exact W.vret hx hb hr (fun t ht hW => ⟨⟨(), rfl, trivial, by dsimp only; rw [ht]; exact ⟨nq1, nq5, xq3, xq4, xq7, (sk 0), rfl, hP9, hD9⟩⟩, hS.F ht⟩) hS.2.2 dX4_init_53
def B_c_X0_init (G : va_G) (cy : Nat → ClassId) (sk : Nat → Nat) (A : Nat → Prop) (h0 : Nat) (H : Heap) : Prop := ∃ (fc : Nat) (fd_ : Nat) (fl_ : Nat) (fh : Nat), va_P G classes [(h0, .inr (0, [.ref fc, .ref fd_, .ref fl_, .ref fh, .int 0, .int 0])), (fc, .inl (cy 0, 192, .inl (fun _ => 0))), (fd_, .inl (cy 1, 192, .inl (fun _ => 0))), (fl_, .inl (cy 2, 24, .inr (.inl (fun _ => 0)))), (fh, .inl (cy 0, 8, .inl (fun _ => 0)))] H ∧ va_D A [(h0, .inr (0, [.ref fc, .ref fd_, .ref fl_, .ref fh, .int 0, .int 0])), (fc, .inl (cy 0, 192, .inl (fun _ => 0))), (fd_, .inl (cy 1, 192, .inl (fun _ => 0))), (fl_, .inl (cy 2, 24, .inr (.inl (fun _ => 0)))), (fh, .inl (cy 0, 8, .inl (fun _ => 0)))]
set_option maxHeartbeats 4000000 in
set_option maxRecDepth 100000 in
theorem c_X0_init (l : Launch) (G : va_G) (cy : Nat → ClassId) (sk : Nat → Nat) (sz : Nat) (h0 : Nat)  : Met l yX0_init (wsO yX0_init cX0_init 1 none) ({ frames := 1, cells := 4, slots := 416, locals := 12 }) (va_Pc [.ref h0] (PR G cy sk sz [(h0, .inr (0, [.null, .null, .null, .null, .int 0, .int 0]))])) (va_Qv (fun (_ : Unit) => True) (fun _ t => B_c_X0_init G cy sk (va_A [(h0, .inr (0, [.null, .null, .null, .null, .int 0, .int 0]))] sz) h0 t.heap) (va_A [(h0, .inr (0, [.null, .null, .null, .null, .int 0, .int 0]))] sz)) 4 416 (va_A [(h0, .inr (0, [.null, .null, .null, .null, .int 0, .int 0]))] sz) := by
  refine mt (by decide) (Nat.le_of_ble_eq_true rfl) ?_
  intro p e s m below meth c ls hx hb hr hml hts hown hlocks hin hsz hP hE hD hl
  subst hsz
  have hl : lv_has ls 1 [(0, .ref h0)] := hl
  have hD := hD.self (sz := s.heap.size)
  generalize hAe : va_A [(h0, .inr (0, [.null, .null, .null, .null, .int 0, .int 0]))] s.heap.size = A at hD ⊢
  have hA : ∀ q : Nat, s.heap.size ≤ q → A q := fun q h => by rw [← hAe]; exact Or.inr h
  have hS : va_S A s.heap s.heap [] := va_S.rf
  refine lv_aload_n hx hb dX0_init_0 rfl (lv_at hl 0 rfl) ?_
  refine W.objInit hx hb hown (hts _ m_387) (hts _ m_107) (hts _ m_108) rfl (by rw [hml]; exact hl.1) rfl dX0_init_1 (Nat.le_of_ble_eq_true rfl) (Nat.le_of_ble_eq_true rfl) ?_
  refine W.eq (g2 := F0 m 4 ls []) rfl ?_
  refine lv_aload_n hx hb dX0_init_4 rfl (lv_at hl 0 rfl) ?_
  refine lv_sipush (v := 192) hx hb dX0_init_5 (by decide) ?_
  refine nwI (n := 192) (N := 192) hx hb hts m_146 hE hP hD hS hA (by decide) (by decide) (Nat.le_of_ble_eq_true rfl) (Nat.le_of_ble_eq_true rfl) (Nat.le_of_ble_eq_true rfl) dX0_init_8 (fun nq1 H hP hD hS => ?_)
  have hP : va_P G classes [(h0, .inr (0, [.null, .null, .null, .null, .int 0, .int 0])), (nq1, .inl (cy 0, 192, .inl (fun _ => 0)))] H := hP
  have hD : va_D A [(h0, .inr (0, [.null, .null, .null, .null, .int 0, .int 0])), (nq1, .inl (cy 0, 192, .inl (fun _ => 0)))] := hD
  refine va_putF (D := G) (ci := 0) (v := .ref nq1) (ty := (.array .int)) (C := RX0) (T := TX0) (N := 6) hx hb hts inB0 tyX0 tyX0_ok nmX0 hown hE.1 hP hD hS 0 rfl rfl 0 (by decide) (hts _ m_388) (fun _ h9 => h9) rfl hin rfl (by decide +kernel) rfl rfl (Nat.le_of_ble_eq_true rfl) dX0_init_10 (fun H locs hP hD hS => ?_)
  have hP : va_P G classes [(h0, .inr (0, [.ref nq1, .null, .null, .null, .int 0, .int 0])), (nq1, .inl (cy 0, 192, .inl (fun _ => 0)))] H := hP
  have hD : va_D A [(h0, .inr (0, [.ref nq1, .null, .null, .null, .int 0, .int 0])), (nq1, .inl (cy 0, 192, .inl (fun _ => 0)))] := hD
  refine lv_aload_n hx hb dX0_init_13 rfl (lv_at hl 0 rfl) ?_
  refine lv_sipush (v := 192) hx hb dX0_init_14 (by decide) ?_
  refine nwZ (n := 192) (N := 192) hx hb hts m_409 hE hP hD hS hA (by decide) (by decide) (Nat.le_of_ble_eq_true rfl) (Nat.le_of_ble_eq_true rfl) (Nat.le_of_ble_eq_true rfl) dX0_init_17 (fun nq2 H hP hD hS => ?_)
  have hP : va_P G classes [(h0, .inr (0, [.ref nq1, .null, .null, .null, .int 0, .int 0])), (nq1, .inl (cy 0, 192, .inl (fun _ => 0))), (nq2, .inl (cy 1, 192, .inl (fun _ => 0)))] H := hP
  have hD : va_D A [(h0, .inr (0, [.ref nq1, .null, .null, .null, .int 0, .int 0])), (nq1, .inl (cy 0, 192, .inl (fun _ => 0))), (nq2, .inl (cy 1, 192, .inl (fun _ => 0)))] := hD
  refine va_putF (D := G) (ci := 0) (v := .ref nq2) (ty := (.array .boolean)) (C := RX0) (T := TX0) (N := 6) hx hb hts inB0 tyX0 tyX0_ok nmX0 hown hE.1 hP hD hS 0 rfl rfl 1 (by decide) (hts _ m_389) (fun _ h9 => h9) rfl hin rfl (by decide +kernel) rfl rfl (Nat.le_of_ble_eq_true rfl) dX0_init_19 (fun H locs hP hD hS => ?_)
  have hP : va_P G classes [(h0, .inr (0, [.ref nq1, .ref nq2, .null, .null, .int 0, .int 0])), (nq1, .inl (cy 0, 192, .inl (fun _ => 0))), (nq2, .inl (cy 1, 192, .inl (fun _ => 0)))] H := hP
  have hD : va_D A [(h0, .inr (0, [.ref nq1, .ref nq2, .null, .null, .int 0, .int 0])), (nq1, .inl (cy 0, 192, .inl (fun _ => 0))), (nq2, .inl (cy 1, 192, .inl (fun _ => 0)))] := hD
  refine lv_aload_n hx hb dX0_init_22 rfl (lv_at hl 0 rfl) ?_
  refine lv_bipush (v := 24) hx hb dX0_init_23 (by decide) ?_
  refine nwJ (n := 24) (N := 24) hx hb hts m_410 hE hP hD hS hA (by decide) (by decide) (Nat.le_of_ble_eq_true rfl) (Nat.le_of_ble_eq_true rfl) (Nat.le_of_ble_eq_true rfl) dX0_init_25 (fun nq3 H hP hD hS => ?_)
  have hP : va_P G classes [(h0, .inr (0, [.ref nq1, .ref nq2, .null, .null, .int 0, .int 0])), (nq1, .inl (cy 0, 192, .inl (fun _ => 0))), (nq2, .inl (cy 1, 192, .inl (fun _ => 0))), (nq3, .inl (cy 2, 24, .inr (.inl (fun _ => 0))))] H := hP
  have hD : va_D A [(h0, .inr (0, [.ref nq1, .ref nq2, .null, .null, .int 0, .int 0])), (nq1, .inl (cy 0, 192, .inl (fun _ => 0))), (nq2, .inl (cy 1, 192, .inl (fun _ => 0))), (nq3, .inl (cy 2, 24, .inr (.inl (fun _ => 0))))] := hD
  refine va_putF (D := G) (ci := 0) (v := .ref nq3) (ty := (.array .long)) (C := RX0) (T := TX0) (N := 6) hx hb hts inB0 tyX0 tyX0_ok nmX0 hown hE.1 hP hD hS 0 rfl rfl 2 (by decide) (hts _ m_390) (fun _ h9 => h9) rfl hin rfl (by decide +kernel) rfl rfl (Nat.le_of_ble_eq_true rfl) dX0_init_27 (fun H locs hP hD hS => ?_)
  have hP : va_P G classes [(h0, .inr (0, [.ref nq1, .ref nq2, .ref nq3, .null, .int 0, .int 0])), (nq1, .inl (cy 0, 192, .inl (fun _ => 0))), (nq2, .inl (cy 1, 192, .inl (fun _ => 0))), (nq3, .inl (cy 2, 24, .inr (.inl (fun _ => 0))))] H := hP
  have hD : va_D A [(h0, .inr (0, [.ref nq1, .ref nq2, .ref nq3, .null, .int 0, .int 0])), (nq1, .inl (cy 0, 192, .inl (fun _ => 0))), (nq2, .inl (cy 1, 192, .inl (fun _ => 0))), (nq3, .inl (cy 2, 24, .inr (.inl (fun _ => 0))))] := hD
  refine lv_aload_n hx hb dX0_init_30 rfl (lv_at hl 0 rfl) ?_
  refine lv_bipush (v := 8) hx hb dX0_init_31 (by decide) ?_
  refine nwI (n := 8) (N := 8) hx hb hts m_146 hE hP hD hS hA (by decide) (by decide) (Nat.le_of_ble_eq_true rfl) (Nat.le_of_ble_eq_true rfl) (Nat.le_of_ble_eq_true rfl) dX0_init_33 (fun nq4 H hP hD hS => ?_)
  have hP : va_P G classes [(h0, .inr (0, [.ref nq1, .ref nq2, .ref nq3, .null, .int 0, .int 0])), (nq1, .inl (cy 0, 192, .inl (fun _ => 0))), (nq2, .inl (cy 1, 192, .inl (fun _ => 0))), (nq3, .inl (cy 2, 24, .inr (.inl (fun _ => 0)))), (nq4, .inl (cy 0, 8, .inl (fun _ => 0)))] H := hP
  have hD : va_D A [(h0, .inr (0, [.ref nq1, .ref nq2, .ref nq3, .null, .int 0, .int 0])), (nq1, .inl (cy 0, 192, .inl (fun _ => 0))), (nq2, .inl (cy 1, 192, .inl (fun _ => 0))), (nq3, .inl (cy 2, 24, .inr (.inl (fun _ => 0)))), (nq4, .inl (cy 0, 8, .inl (fun _ => 0)))] := hD
  refine va_putF (D := G) (ci := 0) (v := .ref nq4) (ty := (.array .int)) (C := RX0) (T := TX0) (N := 6) hx hb hts inB0 tyX0 tyX0_ok nmX0 hown hE.1 hP hD hS 0 rfl rfl 3 (by decide) (hts _ m_391) (fun _ h9 => h9) rfl hin rfl (by decide +kernel) rfl rfl (Nat.le_of_ble_eq_true rfl) dX0_init_35 (fun H locs hP hD hS => ?_)
  have hP : va_P G classes [(h0, .inr (0, [.ref nq1, .ref nq2, .ref nq3, .ref nq4, .int 0, .int 0])), (nq1, .inl (cy 0, 192, .inl (fun _ => 0))), (nq2, .inl (cy 1, 192, .inl (fun _ => 0))), (nq3, .inl (cy 2, 24, .inr (.inl (fun _ => 0)))), (nq4, .inl (cy 0, 8, .inl (fun _ => 0)))] H := hP
  have hD : va_D A [(h0, .inr (0, [.ref nq1, .ref nq2, .ref nq3, .ref nq4, .int 0, .int 0])), (nq1, .inl (cy 0, 192, .inl (fun _ => 0))), (nq2, .inl (cy 1, 192, .inl (fun _ => 0))), (nq3, .inl (cy 2, 24, .inr (.inl (fun _ => 0)))), (nq4, .inl (cy 0, 8, .inl (fun _ => 0)))] := hD
  refine lv_aload_n hx hb dX0_init_38 rfl (lv_at hl 0 rfl) ?_
  refine lv_iconst (v := 0) hx hb dX0_init_39 (by decide) ?_
  refine va_put (D := G) (ci := 0) (v := .int 0) (ty := .int) (C := RX0) (T := TX0) (N := 6) hx hb hts inB0 tyX0 tyX0_ok nmX0 hown hE.1 hP hD hS 0 rfl rfl 4 (by decide) (hts _ m_392) (fun _ h9 => h9) rfl (by decide +kernel) rfl rfl (Nat.le_of_ble_eq_true rfl) dX0_init_40 (fun H locs hP hD hS => ?_)
  have hP : va_P G classes [(h0, .inr (0, [.ref nq1, .ref nq2, .ref nq3, .ref nq4, .int 0, .int 0])), (nq1, .inl (cy 0, 192, .inl (fun _ => 0))), (nq2, .inl (cy 1, 192, .inl (fun _ => 0))), (nq3, .inl (cy 2, 24, .inr (.inl (fun _ => 0)))), (nq4, .inl (cy 0, 8, .inl (fun _ => 0)))] H := hP
  have hD : va_D A [(h0, .inr (0, [.ref nq1, .ref nq2, .ref nq3, .ref nq4, .int 0, .int 0])), (nq1, .inl (cy 0, 192, .inl (fun _ => 0))), (nq2, .inl (cy 1, 192, .inl (fun _ => 0))), (nq3, .inl (cy 2, 24, .inr (.inl (fun _ => 0)))), (nq4, .inl (cy 0, 8, .inl (fun _ => 0)))] := hD
  refine lv_aload_n hx hb dX0_init_43 rfl (lv_at hl 0 rfl) ?_
  refine lv_iconst (v := 0) hx hb dX0_init_44 (by decide) ?_
  refine va_put (D := G) (ci := 0) (v := .int 0) (ty := .int) (C := RX0) (T := TX0) (N := 6) hx hb hts inB0 tyX0 tyX0_ok nmX0 hown hE.1 hP hD hS 0 rfl rfl 5 (by decide) (hts _ m_394) (fun _ h9 => h9) rfl (by decide +kernel) rfl rfl (Nat.le_of_ble_eq_true rfl) dX0_init_45 (fun H locs hP hD hS => ?_)
  have hP : va_P G classes [(h0, .inr (0, [.ref nq1, .ref nq2, .ref nq3, .ref nq4, .int 0, .int 0])), (nq1, .inl (cy 0, 192, .inl (fun _ => 0))), (nq2, .inl (cy 1, 192, .inl (fun _ => 0))), (nq3, .inl (cy 2, 24, .inr (.inl (fun _ => 0)))), (nq4, .inl (cy 0, 8, .inl (fun _ => 0)))] H := hP
  have hD : va_D A [(h0, .inr (0, [.ref nq1, .ref nq2, .ref nq3, .ref nq4, .int 0, .int 0])), (nq1, .inl (cy 0, 192, .inl (fun _ => 0))), (nq2, .inl (cy 1, 192, .inl (fun _ => 0))), (nq3, .inl (cy 2, 24, .inr (.inl (fun _ => 0)))), (nq4, .inl (cy 0, 8, .inl (fun _ => 0)))] := hD
  have hP9 := P_cut (wc := [(h0, .inr (0, [.ref nq1, .ref nq2, .ref nq3, .ref nq4, .int 0, .int 0])), (nq1, .inl (cy 0, 192, .inl (fun _ => 0))), (nq2, .inl (cy 1, 192, .inl (fun _ => 0))), (nq3, .inl (cy 2, 24, .inr (.inl (fun _ => 0)))), (nq4, .inl (cy 0, 8, .inl (fun _ => 0)))]) hP [0, 1, 2, 3, 4] rfl
  have hD9 := hD.sub (ws' := [(h0, .inr (0, [.ref nq1, .ref nq2, .ref nq3, .ref nq4, .int 0, .int 0])), (nq1, .inl (cy 0, 192, .inl (fun _ => 0))), (nq2, .inl (cy 1, 192, .inl (fun _ => 0))), (nq3, .inl (cy 2, 24, .inr (.inl (fun _ => 0)))), (nq4, .inl (cy 0, 8, .inl (fun _ => 0)))]) [0, 1, 2, 3, 4] (by decide) rfl
  refine W.widen (k := 4) (n := 416) (by first | exact Nat.le_of_ble_eq_true rfl | omega) (by first | exact Nat.le_of_ble_eq_true rfl | omega) ?_
  exact W.vret hx hb hr (fun t ht hW => ⟨⟨(), rfl, trivial, by dsimp only; rw [ht]; exact ⟨nq1, nq2, nq3, nq4, hP9, hD9⟩⟩, hS.F ht⟩) hS.2.2 dX0_init_48
def B_c_X8_init (G : va_G) (cy : Nat → ClassId) (sk : Nat → Nat) (A : Nat → Prop) (h0 : Nat) (H : Heap) : Prop := ∃ (bg : Nat) (bga : Nat) (vt : Nat) (vta : Nat), va_P G classes [(h0, .inr (8, [.ref bg, .ref vt, .int 0, .int 0, .int 0, .int 0])), (bg, .inr (5, [.ref bga, .int 0])), (bga, .inl (cy 0, 30, .inl (fun _ => 0))), (vt, .inr (5, [.ref vta, .int 0])), (vta, .inl (cy 0, 30, .inl (fun _ => 0)))] H ∧ va_D A [(h0, .inr (8, [.ref bg, .ref vt, .int 0, .int 0, .int 0, .int 0])), (bg, .inr (5, [.ref bga, .int 0])), (bga, .inl (cy 0, 30, .inl (fun _ => 0))), (vt, .inr (5, [.ref vta, .int 0])), (vta, .inl (cy 0, 30, .inl (fun _ => 0)))]
set_option maxHeartbeats 4000000 in
set_option maxRecDepth 100000 in
theorem c_X8_init (l : Launch) (G : va_G) (cy : Nat → ClassId) (sk : Nat → Nat) (sz : Nat) (h0 : Nat)  : Met l yX8_init (wsO yX8_init cX8_init 1 none) ({ frames := 2, cells := 4, slots := 204, locals := 35 }) (va_Pc [.ref h0] (PR G cy sk sz [(h0, .inr (8, [.null, .null, .int 0, .int 0, .int 0, .int 0]))])) (va_Qv (fun (_ : Unit) => True) (fun _ t => B_c_X8_init G cy sk (va_A [(h0, .inr (8, [.null, .null, .int 0, .int 0, .int 0, .int 0]))] sz) h0 t.heap) (va_A [(h0, .inr (8, [.null, .null, .int 0, .int 0, .int 0, .int 0]))] sz)) 4 204 (va_A [(h0, .inr (8, [.null, .null, .int 0, .int 0, .int 0, .int 0]))] sz) := by
  refine mt (by decide) (Nat.le_of_ble_eq_true rfl) ?_
  intro p e s m below meth c ls hx hb hr hml hts hown hlocks hin hsz hP hE hD hl
  subst hsz
  have hl : lv_has ls 1 [(0, .ref h0)] := hl
  have hD := hD.self (sz := s.heap.size)
  generalize hAe : va_A [(h0, .inr (8, [.null, .null, .int 0, .int 0, .int 0, .int 0]))] s.heap.size = A at hD ⊢
  have hA : ∀ q : Nat, s.heap.size ≤ q → A q := fun q h => by rw [← hAe]; exact Or.inr h
  have hS : va_S A s.heap s.heap [] := va_S.rf
  refine lv_aload_n hx hb dX8_init_0 rfl (lv_at hl 0 rfl) ?_
  refine W.objInit hx hb hown (hts _ m_416) (hts _ m_107) (hts _ m_108) rfl (by rw [hml]; exact hl.1) rfl dX8_init_1 (Nat.le_of_ble_eq_true rfl) (Nat.le_of_ble_eq_true rfl) ?_
  refine W.eq (g2 := F0 m 4 ls []) rfl ?_
  refine lv_aload_n hx hb dX8_init_4 rfl (lv_at hl 0 rfl) ?_
  refine va_new (ci := 5) (fs := [.null, .int 0]) (C := RX5) (T := TX5) (N := 2) hx hb hts inB5 tyX5 tyX5_ok hown (hts _ m_417) (hts _ m_200) (hts _ m_85) hE.1 hP hD hS hA rfl df5 (Nat.le_of_ble_eq_true rfl) (Nat.le_of_ble_eq_true rfl) dX8_init_5 (fun nq1 H hP hD hS => ?_)
  have hP : va_P G classes [(h0, .inr (8, [.null, .null, .int 0, .int 0, .int 0, .int 0])), (nq1, .inr (5, [.null, .int 0]))] H := hP
  have hD : va_D A [(h0, .inr (8, [.null, .null, .int 0, .int 0, .int 0, .int 0])), (nq1, .inr (5, [.null, .int 0]))] := hD
  refine lv_dup hx hb dX8_init_8 rfl ?_
  refine lv_bipush (v := 30) hx hb dX8_init_9 (by decide) ?_
  refine wI (B := (B_c_X5_init G cy sk (va_A [(nq1, .inr (5, [.null, .int 0]))] H.size) nq1 30 30)) (wr := [(h0, .inr (8, [.null, .null, .int 0, .int 0, .int 0, .int 0]))]) (rest := [.ref nq1, .ref h0]) hx hb hml hown hts hE (c_X5_init l G cy sk H.size nq1 30 30 rfl (by decide)) kI_X5_init m_418 rfl rfl ⟨(Nat.le_of_ble_eq_true rfl), (Nat.le_of_ble_eq_true rfl)⟩ hP hD hS hA [1] [0] rfl rfl rfl rfl (by decide) rfl rfl hl.1 (Nat.le_of_ble_eq_true rfl) dX8_init_11 ⟨(Nat.le_of_ble_eq_true rfl), (Nat.le_of_ble_eq_true rfl)⟩ (fun H locs haf hS => ?_)
  obtain ⟨xq3, hP1, hD1⟩ := haf.1
  obtain ⟨hP, hD⟩ := haf.2.1 _ hP1 hD1
  have hP : va_P G classes [(h0, .inr (8, [.null, .null, .int 0, .int 0, .int 0, .int 0])), (nq1, .inr (5, [.ref xq3, .int 0])), (xq3, .inl (cy 0, 30, .inl (fun _ => 0)))] H := hP
  have hD : va_D A [(h0, .inr (8, [.null, .null, .int 0, .int 0, .int 0, .int 0])), (nq1, .inr (5, [.ref xq3, .int 0])), (xq3, .inl (cy 0, 30, .inl (fun _ => 0)))] := hD
  refine va_putF (D := G) (ci := 8) (v := .ref nq1) (ty := (.object "ClickStreet$Row")) (C := RX8) (T := TX8) (N := 6) hx hb hts inB8 tyX8 tyX8_ok nmX8 hown hE.1 hP hD hS 0 rfl rfl 0 (by decide) (hts _ m_419) (fun _ h9 => h9) rfl hin rfl (by decide +kernel) rfl rfl (Nat.le_of_ble_eq_true rfl) dX8_init_14 (fun H locs hP hD hS => ?_)
  have hP : va_P G classes [(h0, .inr (8, [.ref nq1, .null, .int 0, .int 0, .int 0, .int 0])), (nq1, .inr (5, [.ref xq3, .int 0])), (xq3, .inl (cy 0, 30, .inl (fun _ => 0)))] H := hP
  have hD : va_D A [(h0, .inr (8, [.ref nq1, .null, .int 0, .int 0, .int 0, .int 0])), (nq1, .inr (5, [.ref xq3, .int 0])), (xq3, .inl (cy 0, 30, .inl (fun _ => 0)))] := hD
  refine lv_aload_n hx hb dX8_init_17 rfl (lv_at hl 0 rfl) ?_
  refine va_new (ci := 5) (fs := [.null, .int 0]) (C := RX5) (T := TX5) (N := 2) hx hb hts inB5 tyX5 tyX5_ok hown (hts _ m_417) (hts _ m_200) (hts _ m_85) hE.1 hP hD hS hA rfl df5 (Nat.le_of_ble_eq_true rfl) (Nat.le_of_ble_eq_true rfl) dX8_init_18 (fun nq4 H hP hD hS => ?_)
  have hP : va_P G classes [(h0, .inr (8, [.ref nq1, .null, .int 0, .int 0, .int 0, .int 0])), (nq1, .inr (5, [.ref xq3, .int 0])), (xq3, .inl (cy 0, 30, .inl (fun _ => 0))), (nq4, .inr (5, [.null, .int 0]))] H := hP
  have hD : va_D A [(h0, .inr (8, [.ref nq1, .null, .int 0, .int 0, .int 0, .int 0])), (nq1, .inr (5, [.ref xq3, .int 0])), (xq3, .inl (cy 0, 30, .inl (fun _ => 0))), (nq4, .inr (5, [.null, .int 0]))] := hD
  refine lv_dup hx hb dX8_init_21 rfl ?_
  refine lv_bipush (v := 30) hx hb dX8_init_22 (by decide) ?_
  refine wI (B := (B_c_X5_init G cy sk (va_A [(nq4, .inr (5, [.null, .int 0]))] H.size) nq4 30 30)) (wr := [(h0, .inr (8, [.ref nq1, .null, .int 0, .int 0, .int 0, .int 0])), (nq1, .inr (5, [.ref xq3, .int 0])), (xq3, .inl (cy 0, 30, .inl (fun _ => 0)))]) (rest := [.ref nq4, .ref h0]) hx hb hml hown hts hE (c_X5_init l G cy sk H.size nq4 30 30 rfl (by decide)) kI_X5_init m_418 rfl rfl ⟨(Nat.le_of_ble_eq_true rfl), (Nat.le_of_ble_eq_true rfl)⟩ hP hD hS hA [3] [0, 1, 2] rfl rfl rfl rfl (by decide) rfl rfl hl.1 (Nat.le_of_ble_eq_true rfl) dX8_init_24 ⟨(Nat.le_of_ble_eq_true rfl), (Nat.le_of_ble_eq_true rfl)⟩ (fun H locs haf hS => ?_)
  obtain ⟨xq6, hP1, hD1⟩ := haf.1
  obtain ⟨hP, hD⟩ := haf.2.1 _ hP1 hD1
  have hP : va_P G classes [(h0, .inr (8, [.ref nq1, .null, .int 0, .int 0, .int 0, .int 0])), (nq1, .inr (5, [.ref xq3, .int 0])), (xq3, .inl (cy 0, 30, .inl (fun _ => 0))), (nq4, .inr (5, [.ref xq6, .int 0])), (xq6, .inl (cy 0, 30, .inl (fun _ => 0)))] H := hP
  have hD : va_D A [(h0, .inr (8, [.ref nq1, .null, .int 0, .int 0, .int 0, .int 0])), (nq1, .inr (5, [.ref xq3, .int 0])), (xq3, .inl (cy 0, 30, .inl (fun _ => 0))), (nq4, .inr (5, [.ref xq6, .int 0])), (xq6, .inl (cy 0, 30, .inl (fun _ => 0)))] := hD
  refine va_putF (D := G) (ci := 8) (v := .ref nq4) (ty := (.object "ClickStreet$Row")) (C := RX8) (T := TX8) (N := 6) hx hb hts inB8 tyX8 tyX8_ok nmX8 hown hE.1 hP hD hS 0 rfl rfl 1 (by decide) (hts _ m_420) (fun _ h9 => h9) rfl hin rfl (by decide +kernel) rfl rfl (Nat.le_of_ble_eq_true rfl) dX8_init_27 (fun H locs hP hD hS => ?_)
  have hP : va_P G classes [(h0, .inr (8, [.ref nq1, .ref nq4, .int 0, .int 0, .int 0, .int 0])), (nq1, .inr (5, [.ref xq3, .int 0])), (xq3, .inl (cy 0, 30, .inl (fun _ => 0))), (nq4, .inr (5, [.ref xq6, .int 0])), (xq6, .inl (cy 0, 30, .inl (fun _ => 0)))] H := hP
  have hD : va_D A [(h0, .inr (8, [.ref nq1, .ref nq4, .int 0, .int 0, .int 0, .int 0])), (nq1, .inr (5, [.ref xq3, .int 0])), (xq3, .inl (cy 0, 30, .inl (fun _ => 0))), (nq4, .inr (5, [.ref xq6, .int 0])), (xq6, .inl (cy 0, 30, .inl (fun _ => 0)))] := hD
  refine lv_aload_n hx hb dX8_init_30 rfl (lv_at hl 0 rfl) ?_
  refine lv_iconst (v := 0) hx hb dX8_init_31 (by decide) ?_
  refine va_put (D := G) (ci := 8) (v := .int 0) (ty := .int) (C := RX8) (T := TX8) (N := 6) hx hb hts inB8 tyX8 tyX8_ok nmX8 hown hE.1 hP hD hS 0 rfl rfl 2 (by decide) (hts _ m_422) (fun _ h9 => h9) rfl (by decide +kernel) rfl rfl (Nat.le_of_ble_eq_true rfl) dX8_init_32 (fun H locs hP hD hS => ?_)
  have hP : va_P G classes [(h0, .inr (8, [.ref nq1, .ref nq4, .int 0, .int 0, .int 0, .int 0])), (nq1, .inr (5, [.ref xq3, .int 0])), (xq3, .inl (cy 0, 30, .inl (fun _ => 0))), (nq4, .inr (5, [.ref xq6, .int 0])), (xq6, .inl (cy 0, 30, .inl (fun _ => 0)))] H := hP
  have hD : va_D A [(h0, .inr (8, [.ref nq1, .ref nq4, .int 0, .int 0, .int 0, .int 0])), (nq1, .inr (5, [.ref xq3, .int 0])), (xq3, .inl (cy 0, 30, .inl (fun _ => 0))), (nq4, .inr (5, [.ref xq6, .int 0])), (xq6, .inl (cy 0, 30, .inl (fun _ => 0)))] := hD
  refine lv_aload_n hx hb dX8_init_35 rfl (lv_at hl 0 rfl) ?_
  refine lv_iconst (v := 0) hx hb dX8_init_36 (by decide) ?_
  refine va_put (D := G) (ci := 8) (v := .int 0) (ty := .int) (C := RX8) (T := TX8) (N := 6) hx hb hts inB8 tyX8 tyX8_ok nmX8 hown hE.1 hP hD hS 0 rfl rfl 3 (by decide) (hts _ m_423) (fun _ h9 => h9) rfl (by decide +kernel) rfl rfl (Nat.le_of_ble_eq_true rfl) dX8_init_37 (fun H locs hP hD hS => ?_)
  have hP : va_P G classes [(h0, .inr (8, [.ref nq1, .ref nq4, .int 0, .int 0, .int 0, .int 0])), (nq1, .inr (5, [.ref xq3, .int 0])), (xq3, .inl (cy 0, 30, .inl (fun _ => 0))), (nq4, .inr (5, [.ref xq6, .int 0])), (xq6, .inl (cy 0, 30, .inl (fun _ => 0)))] H := hP
  have hD : va_D A [(h0, .inr (8, [.ref nq1, .ref nq4, .int 0, .int 0, .int 0, .int 0])), (nq1, .inr (5, [.ref xq3, .int 0])), (xq3, .inl (cy 0, 30, .inl (fun _ => 0))), (nq4, .inr (5, [.ref xq6, .int 0])), (xq6, .inl (cy 0, 30, .inl (fun _ => 0)))] := hD
  refine lv_aload_n hx hb dX8_init_40 rfl (lv_at hl 0 rfl) ?_
  refine lv_iconst (v := 0) hx hb dX8_init_41 (by decide) ?_
  refine va_put (D := G) (ci := 8) (v := .int 0) (ty := .int) (C := RX8) (T := TX8) (N := 6) hx hb hts inB8 tyX8 tyX8_ok nmX8 hown hE.1 hP hD hS 0 rfl rfl 4 (by decide) (hts _ m_424) (fun _ h9 => h9) rfl (by decide +kernel) rfl rfl (Nat.le_of_ble_eq_true rfl) dX8_init_42 (fun H locs hP hD hS => ?_)
  have hP : va_P G classes [(h0, .inr (8, [.ref nq1, .ref nq4, .int 0, .int 0, .int 0, .int 0])), (nq1, .inr (5, [.ref xq3, .int 0])), (xq3, .inl (cy 0, 30, .inl (fun _ => 0))), (nq4, .inr (5, [.ref xq6, .int 0])), (xq6, .inl (cy 0, 30, .inl (fun _ => 0)))] H := hP
  have hD : va_D A [(h0, .inr (8, [.ref nq1, .ref nq4, .int 0, .int 0, .int 0, .int 0])), (nq1, .inr (5, [.ref xq3, .int 0])), (xq3, .inl (cy 0, 30, .inl (fun _ => 0))), (nq4, .inr (5, [.ref xq6, .int 0])), (xq6, .inl (cy 0, 30, .inl (fun _ => 0)))] := hD
  refine lv_aload_n hx hb dX8_init_45 rfl (lv_at hl 0 rfl) ?_
  refine lv_iconst (v := 0) hx hb dX8_init_46 (by decide) ?_
  refine va_put (D := G) (ci := 8) (v := .int 0) (ty := .boolean) (C := RX8) (T := TX8) (N := 6) hx hb hts inB8 tyX8 tyX8_ok nmX8 hown hE.1 hP hD hS 0 rfl rfl 5 (by decide) (hts _ m_425) (fun _ h9 => h9) rfl (by decide +kernel) rfl rfl (Nat.le_of_ble_eq_true rfl) dX8_init_47 (fun H locs hP hD hS => ?_)
  have hP : va_P G classes [(h0, .inr (8, [.ref nq1, .ref nq4, .int 0, .int 0, .int 0, .int 0])), (nq1, .inr (5, [.ref xq3, .int 0])), (xq3, .inl (cy 0, 30, .inl (fun _ => 0))), (nq4, .inr (5, [.ref xq6, .int 0])), (xq6, .inl (cy 0, 30, .inl (fun _ => 0)))] H := hP
  have hD : va_D A [(h0, .inr (8, [.ref nq1, .ref nq4, .int 0, .int 0, .int 0, .int 0])), (nq1, .inr (5, [.ref xq3, .int 0])), (xq3, .inl (cy 0, 30, .inl (fun _ => 0))), (nq4, .inr (5, [.ref xq6, .int 0])), (xq6, .inl (cy 0, 30, .inl (fun _ => 0)))] := hD
  have hP9 := P_cut (wc := [(h0, .inr (8, [.ref nq1, .ref nq4, .int 0, .int 0, .int 0, .int 0])), (nq1, .inr (5, [.ref xq3, .int 0])), (xq3, .inl (cy 0, 30, .inl (fun _ => 0))), (nq4, .inr (5, [.ref xq6, .int 0])), (xq6, .inl (cy 0, 30, .inl (fun _ => 0)))]) hP [0, 1, 2, 3, 4] rfl
  have hD9 := hD.sub (ws' := [(h0, .inr (8, [.ref nq1, .ref nq4, .int 0, .int 0, .int 0, .int 0])), (nq1, .inr (5, [.ref xq3, .int 0])), (xq3, .inl (cy 0, 30, .inl (fun _ => 0))), (nq4, .inr (5, [.ref xq6, .int 0])), (xq6, .inl (cy 0, 30, .inl (fun _ => 0)))]) [0, 1, 2, 3, 4] (by decide) rfl
  refine W.widen (k := 4) (n := 204) (by first | exact Nat.le_of_ble_eq_true rfl | omega) (by first | exact Nat.le_of_ble_eq_true rfl | omega) ?_
  exact W.vret hx hb hr (fun t ht hW => ⟨⟨(), rfl, trivial, by dsimp only; rw [ht]; exact ⟨nq1, xq3, nq4, xq6, hP9, hD9⟩⟩, hS.F ht⟩) hS.2.2 dX8_init_50
