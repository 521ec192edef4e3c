def B_c_X8_init (G : va_G) (cy : Nat → ClassId) (A : Nat → Prop) (h0 : Nat) (H : Heap) : Prop := ∃ (bg : Nat) (vt : Nat) (vta : Nat), va_P G classes [(h0, .inr (8, [.ref bg, .ref vt, .int 0, .int 0, .int 0, .int 0])), (vt, .inr (5, [.ref vta, .int 0]))] H ∧ va_D A [(h0, .inr (8, [.ref bg, .ref vt, .int 0, .int 0, .int 0, .int 0])), (vt, .inr (5, [.ref vta, .int 0]))]
set_option maxHeartbeats 4000000 in
set_option maxRecDepth 100000 in
theorem c_X8_init (l : Launch) (G : va_G) (cy : Nat → ClassId) (sk : Nat → Nat) (sz : Nat) (h0 : Nat)  : Met l yX8_init (wsO yX8_init cX8_init 1 none) ({ frames := 2, cells := 4, slots := 204, locals := 35 }) (va_Pc [.ref h0] (PR G cy sk sz [(h0, .inr (8, [.null, .null, .int 0, .int 0, .int 0, .int 0]))])) (va_Qv (fun (_ : Unit) => True) (fun _ t => B_c_X8_init G cy (va_A [(h0, .inr (8, [.null, .null, .int 0, .int 0, .int 0, .int 0]))] sz) h0 t.heap) (va_A [(h0, .inr (8, [.null, .null, .int 0, .int 0, .int 0, .int 0]))] sz)) 4 204 (va_A [(h0, .inr (8, [.null, .null, .int 0, .int 0, .int 0, .int 0]))] sz) := by
  refine mt (by decide) (Nat.le_of_ble_eq_true rfl) ?_
  intro p e s m below meth c ls hx hb hr hml hts hown hlocks hin hsz hP hE hD hl
  subst hsz
  have hl : lv_has ls 1 [(0, .ref h0)] := hl
  have hD := hD.self (sz := s.heap.size)
  generalize hAe : va_A [(h0, .inr (8, [.null, .null, .int 0, .int 0, .int 0, .int 0]))] s.heap.size = A at hD ⊢
  have hA : ∀ q : Nat, s.heap.size ≤ q → A q := fun q h => by rw [← hAe]; exact Or.inr h
  have hS : va_S A s.heap s.heap [] := va_S.rf
  refine lv_aload_n hx hb dX8_init_0 rfl (lv_at hl 0 rfl) ?_
  refine W.objInit hx hb hown (hts _ m_416) (hts _ m_107) (hts _ m_108) rfl (by rw [hml]; exact hl.1) rfl dX8_init_1 (Nat.le_of_ble_eq_true rfl) (Nat.le_of_ble_eq_true rfl) ?_
  refine W.eq (g2 := F0 m 4 ls []) rfl ?_
  refine lv_aload_n hx hb dX8_init_4 rfl (lv_at hl 0 rfl) ?_
  refine va_new (ci := 5) (fs := [.null, .int 0]) (C := RX5) (T := TX5) (N := 2) hx hb hts inB5 tyX5 tyX5_ok hown (hts _ m_417) (hts _ m_200) (hts _ m_85) hE.1 hP hD hS hA rfl df5 (Nat.le_of_ble_eq_true rfl) (Nat.le_of_ble_eq_true rfl) dX8_init_5 (fun nq1 H hP hD hS => ?_)
  have hP : va_P G classes [(h0, .inr (8, [.null, .null, .int 0, .int 0, .int 0, .int 0])), (nq1, .inr (5, [.null, .int 0]))] H := hP
  have hD : va_D A [(h0, .inr (8, [.null, .null, .int 0, .int 0, .int 0, .int 0])), (nq1, .inr (5, [.null, .int 0]))] := hD
  refine lv_dup hx hb dX8_init_8 rfl ?_
  refine lv_bipush (v := 30) hx hb dX8_init_9 (by decide) ?_
  refine wI (B := (B_c_X5_init G cy (va_A [(nq1, .inr (5, [.null, .int 0]))] H.size) nq1 30 30)) (wr := [(h0, .inr (8, [.null, .null, .int 0, .int 0, .int 0, .int 0]))]) (rest := [.ref nq1, .ref h0]) hx hb hml hown hts hE (c_X5_init l G cy sk H.size nq1 30 30 rfl (by decide)) kI_X5_init m_418 rfl rfl ⟨(Nat.le_of_ble_eq_true rfl), (Nat.le_of_ble_eq_true rfl)⟩ hP hD hS hA [1] [0] rfl rfl rfl rfl (by decide) rfl rfl hl.1 (Nat.le_of_ble_eq_true rfl) dX8_init_11 ⟨(Nat.le_of_ble_eq_true rfl), (Nat.le_of_ble_eq_true rfl)⟩ (fun H locs haf hS => ?_)
  obtain ⟨xq3, hP1, hD1⟩ := haf.1
  obtain ⟨hP, hD⟩ := haf.2.1 _ hP1 hD1
  have hP : va_P G classes [(h0, .inr (8, [.null, .null, .int 0, .int 0, .int 0, .int 0])), (nq1, .inr (5, [.ref xq3, .int 0])), (xq3, .inl (cy 0, 30, .inl (fun _ => 0)))] H := hP
  have hD : va_D A [(h0, .inr (8, [.null, .null, .int 0, .int 0, .int 0, .int 0])), (nq1, .inr (5, [.ref xq3, .int 0])), (xq3, .inl (cy 0, 30, .inl (fun _ => 0)))] := hD
  refine va_putF (D := G) (ci := 8) (v := .ref nq1) (ty := (.object "ClickStreet$Row")) (C := RX8) (T := TX8) (N := 6) hx hb hts inB8 tyX8 tyX8_ok nmX8 hown hE.1 hP hD hS 0 rfl rfl 0 (by decide) (hts _ m_419) (fun _ h9 => h9) rfl hin rfl (by decide +kernel) rfl rfl (Nat.le_of_ble_eq_true rfl) dX8_init_14 (fun H locs hP hD hS => ?_)
  have hP : va_P G classes [(h0, .inr (8, [.ref nq1, .null, .int 0, .int 0, .int 0, .int 0])), (nq1, .inr (5, [.ref xq3, .int 0])), (xq3, .inl (cy 0, 30, .inl (fun _ => 0)))] H := hP
  have hD : va_D A [(h0, .inr (8, [.ref nq1, .null, .int 0, .int 0, .int 0, .int 0])), (nq1, .inr (5, [.ref xq3, .int 0])), (xq3, .inl (cy 0, 30, .inl (fun _ => 0)))] := hD
  refine lv_aload_n hx hb dX8_init_17 rfl (lv_at hl 0 rfl) ?_
  refine va_new (ci := 5) (fs := [.null, .int 0]) (C := RX5) (T := TX5) (N := 2) hx hb hts inB5 tyX5 tyX5_ok hown (hts _ m_417) (hts _ m_200) (hts _ m_85) hE.1 hP hD hS hA rfl df5 (Nat.le_of_ble_eq_true rfl) (Nat.le_of_ble_eq_true rfl) dX8_init_18 (fun nq4 H hP hD hS => ?_)
  have hP : va_P G classes [(h0, .inr (8, [.ref nq1, .null, .int 0, .int 0, .int 0, .int 0])), (nq1, .inr (5, [.ref xq3, .int 0])), (xq3, .inl (cy 0, 30, .inl (fun _ => 0))), (nq4, .inr (5, [.null, .int 0]))] H := hP
  have hD : va_D A [(h0, .inr (8, [.ref nq1, .null, .int 0, .int 0, .int 0, .int 0])), (nq1, .inr (5, [.ref xq3, .int 0])), (xq3, .inl (cy 0, 30, .inl (fun _ => 0))), (nq4, .inr (5, [.null, .int 0]))] := hD
  refine lv_dup hx hb dX8_init_21 rfl ?_
  refine lv_bipush (v := 30) hx hb dX8_init_22 (by decide) ?_
  refine wI (B := (B_c_X5_init G cy (va_A [(nq4, .inr (5, [.null, .int 0]))] H.size) nq4 30 30)) (wr := [(h0, .inr (8, [.ref nq1, .null, .int 0, .int 0, .int 0, .int 0])), (nq1, .inr (5, [.ref xq3, .int 0])), (xq3, .inl (cy 0, 30, .inl (fun _ => 0)))]) (rest := [.ref nq4, .ref h0]) hx hb hml hown hts hE (c_X5_init l G cy sk H.size nq4 30 30 rfl (by decide)) kI_X5_init m_418 rfl rfl ⟨(Nat.le_of_ble_eq_true rfl), (Nat.le_of_ble_eq_true rfl)⟩ hP hD hS hA [3] [0, 1, 2] rfl rfl rfl rfl (by decide) rfl rfl hl.1 (Nat.le_of_ble_eq_true rfl) dX8_init_24 ⟨(Nat.le_of_ble_eq_true rfl), (Nat.le_of_ble_eq_true rfl)⟩ (fun H locs haf hS => ?_)
  obtain ⟨xq6, hP1, hD1⟩ := haf.1
  obtain ⟨hP, hD⟩ := haf.2.1 _ hP1 hD1
  have hP : va_P G classes [(h0, .inr (8, [.ref nq1, .null, .int 0, .int 0, .int 0, .int 0])), (nq1, .inr (5, [.ref xq3, .int 0])), (xq3, .inl (cy 0, 30, .inl (fun _ => 0))), (nq4, .inr (5, [.ref xq6, .int 0])), (xq6, .inl (cy 0, 30, .inl (fun _ => 0)))] H := hP
  have hD : va_D A [(h0, .inr (8, [.ref nq1, .null, .int 0, .int 0, .int 0, .int 0])), (nq1, .inr (5, [.ref xq3, .int 0])), (xq3, .inl (cy 0, 30, .inl (fun _ => 0))), (nq4, .inr (5, [.ref xq6, .int 0])), (xq6, .inl (cy 0, 30, .inl (fun _ => 0)))] := hD
  refine va_putF (D := G) (ci := 8) (v := .ref nq4) (ty := (.object "ClickStreet$Row")) (C := RX8) (T := TX8) (N := 6) hx hb hts inB8 tyX8 tyX8_ok nmX8 hown hE.1 hP hD hS 0 rfl rfl 1 (by decide) (hts _ m_420) (fun _ h9 => h9) rfl hin rfl (by decide +kernel) rfl rfl (Nat.le_of_ble_eq_true rfl) dX8_init_27 (fun H locs hP hD hS => ?_)
  have hP : va_P G classes [(h0, .inr (8, [.ref nq1, .ref nq4, .int 0, .int 0, .int 0, .int 0])), (nq1, .inr (5, [.ref xq3, .int 0])), (xq3, .inl (cy 0, 30, .inl (fun _ => 0))), (nq4, .inr (5, [.ref xq6, .int 0])), (xq6, .inl (cy 0, 30, .inl (fun _ => 0)))] H := hP
  have hD : va_D A [(h0, .inr (8, [.ref nq1, .ref nq4, .int 0, .int 0, .int 0, .int 0])), (nq1, .inr (5, [.ref xq3, .int 0])), (xq3, .inl (cy 0, 30, .inl (fun _ => 0))), (nq4, .inr (5, [.ref xq6, .int 0])), (xq6, .inl (cy 0, 30, .inl (fun _ => 0)))] := hD
  refine lv_aload_n hx hb dX8_init_30 rfl (lv_at hl 0 rfl) ?_
  refine lv_iconst (v := 0) hx hb dX8_init_31 (by decide) ?_
  refine va_put (D := G) (ci := 8) (v := .int 0) (ty := .int) (C := RX8) (T := TX8) (N := 6) hx hb hts inB8 tyX8 tyX8_ok nmX8 hown hE.1 hP hD hS 0 rfl rfl 2 (by decide) (hts _ m_422) (fun _ h9 => h9) rfl (by decide +kernel) rfl rfl (Nat.le_of_ble_eq_true rfl) dX8_init_32 (fun H locs hP hD hS => ?_)
  have hP : va_P G classes [(h0, .inr (8, [.ref nq1, .ref nq4, .int 0, .int 0, .int 0, .int 0])), (nq1, .inr (5, [.ref xq3, .int 0])), (xq3, .inl (cy 0, 30, .inl (fun _ => 0))), (nq4, .inr (5, [.ref xq6, .int 0])), (xq6, .inl (cy 0, 30, .inl (fun _ => 0)))] H := hP
  have hD : va_D A [(h0, .inr (8, [.ref nq1, .ref nq4, .int 0, .int 0, .int 0, .int 0])), (nq1, .inr (5, [.ref xq3, .int 0])), (xq3, .inl (cy 0, 30, .inl (fun _ => 0))), (nq4, .inr (5, [.ref xq6, .int 0])), (xq6, .inl (cy 0, 30, .inl (fun _ => 0)))] := hD
  refine lv_aload_n hx hb dX8_init_35 rfl (lv_at hl 0 rfl) ?_
  refine lv_iconst (v := 0) hx hb dX8_init_36 (by decide) ?_
  refine va_put (D := G) (ci := 8) (v := .int 0) (ty := .int) (C := RX8) (T := TX8) (N := 6) hx hb hts inB8 tyX8 tyX8_ok nmX8 hown hE.1 hP hD hS 0 rfl rfl 3 (by decide) (hts _ m_423) (fun _ h9 => h9) rfl (by decide +kernel) rfl rfl (Nat.le_of_ble_eq_true rfl) dX8_init_37 (fun H locs hP hD hS => ?_)
  have hP : va_P G classes [(h0, .inr (8, [.ref nq1, .ref nq4, .int 0, .int 0, .int 0, .int 0])), (nq1, .inr (5, [.ref xq3, .int 0])), (xq3, .inl (cy 0, 30, .inl (fun _ => 0))), (nq4, .inr (5, [.ref xq6, .int 0])), (xq6, .inl (cy 0, 30, .inl (fun _ => 0)))] H := hP
  have hD : va_D A [(h0, .inr (8, [.ref nq1, .ref nq4, .int 0, .int 0, .int 0, .int 0])), (nq1, .inr (5, [.ref xq3, .int 0])), (xq3, .inl (cy 0, 30, .inl (fun _ => 0))), (nq4, .inr (5, [.ref xq6, .int 0])), (xq6, .inl (cy 0, 30, .inl (fun _ => 0)))] := hD
  refine lv_aload_n hx hb dX8_init_40 rfl (lv_at hl 0 rfl) ?_
  refine lv_iconst (v := 0) hx hb dX8_init_41 (by decide) ?_
  refine va_put (D := G) (ci := 8) (v := .int 0) (ty := .int) (C := RX8) (T := TX8) (N := 6) hx hb hts inB8 tyX8 tyX8_ok nmX8 hown hE.1 hP hD hS 0 rfl rfl 4 (by decide) (hts _ m_424) (fun _ h9 => h9) rfl (by decide +kernel) rfl rfl (Nat.le_of_ble_eq_true rfl) dX8_init_42 (fun H locs hP hD hS => ?_)
  have hP : va_P G classes [(h0, .inr (8, [.ref nq1, .ref nq4, .int 0, .int 0, .int 0, .int 0])), (nq1, .inr (5, [.ref xq3, .int 0])), (xq3, .inl (cy 0, 30, .inl (fun _ => 0))), (nq4, .inr (5, [.ref xq6, .int 0])), (xq6, .inl (cy 0, 30, .inl (fun _ => 0)))] H := hP
  have hD : va_D A [(h0, .inr (8, [.ref nq1, .ref nq4, .int 0, .int 0, .int 0, .int 0])), (nq1, .inr (5, [.ref xq3, .int 0])), (xq3, .inl (cy 0, 30, .inl (fun _ => 0))), (nq4, .inr (5, [.ref xq6, .int 0])), (xq6, .inl (cy 0, 30, .inl (fun _ => 0)))] := hD
  refine lv_aload_n hx hb dX8_init_45 rfl (lv_at hl 0 rfl) ?_
  refine lv_iconst (v := 0) hx hb dX8_init_46 (by decide) ?_
  refine va_put (D := G) (ci := 8) (v := .int 0) (ty := .boolean) (C := RX8) (T := TX8) (N := 6) hx hb hts inB8 tyX8 tyX8_ok nmX8 hown hE.1 hP hD hS 0 rfl rfl 5 (by decide) (hts _ m_425) (fun _ h9 => h9) rfl (by decide +kernel) rfl rfl (Nat.le_of_ble_eq_true rfl) dX8_init_47 (fun H locs hP hD hS => ?_)
  have hP : va_P G classes [(h0, .inr (8, [.ref nq1, .ref nq4, .int 0, .int 0, .int 0, .int 0])), (nq1, .inr (5, [.ref xq3, .int 0])), (xq3, .inl (cy 0, 30, .inl (fun _ => 0))), (nq4, .inr (5, [.ref xq6, .int 0])), (xq6, .inl (cy 0, 30, .inl (fun _ => 0)))] H := hP
  have hD : va_D A [(h0, .inr (8, [.ref nq1, .ref nq4, .int 0, .int 0, .int 0, .int 0])), (nq1, .inr (5, [.ref xq3, .int 0])), (xq3, .inl (cy 0, 30, .inl (fun _ => 0))), (nq4, .inr (5, [.ref xq6, .int 0])), (xq6, .inl (cy 0, 30, .inl (fun _ => 0)))] := hD
  have hP9 := P_cut (wc := [(h0, .inr (8, [.ref nq1, .ref nq4, .int 0, .int 0, .int 0, .int 0])), (nq4, .inr (5, [.ref xq6, .int 0]))]) hP [0, 3] rfl
  have hD9 := hD.sub (ws' := [(h0, .inr (8, [.ref nq1, .ref nq4, .int 0, .int 0, .int 0, .int 0])), (nq4, .inr (5, [.ref xq6, .int 0]))]) [0, 3] (by decide) rfl
  refine W.widen (k := 4) (n := 204) (by first | exact Nat.le_of_ble_eq_true rfl | omega) (by first | exact Nat.le_of_ble_eq_true rfl | omega) ?_
  exact W.vret hx hb hr (fun t ht hW => ⟨⟨(), rfl, trivial, by dsimp only; rw [ht]; exact ⟨nq1, nq4, xq6, hP9, hD9⟩⟩, hS.F ht⟩) hS.2.2 dX8_init_50
