def B_c_X4_init (G : va_G) (cy : Nat → ClassId) (sk : Nat → Nat) (A : Nat → Prop) (h0 : Nat) (H : Heap) : Prop := ∃ (dr : Nat) (t0 : Nat) (co : Nat) (ck : Nat) (t0a : Nat) (nm : Nat), (nm = (sk 0)) ∧ va_P G classes [(h0, .inr (4, [.ref dr, .ref t0, .ref nm, .int 0, .int (-1), .int 0, .int 0])), (dr, .inr (1, [.ref co, .ref ck, .int 0])), (co, .inl (cy 0, 48, .inl (fun _ => 0))), (ck, .inl (cy 0, 48, .inl (fun _ => 0))), (t0, .inr (5, [.ref t0a, .int 0])), (t0a, .inl (cy 0, 0, .inl (fun _ => 0)))] H ∧ va_D A [(h0, .inr (4, [.ref dr, .ref t0, .ref nm, .int 0, .int (-1), .int 0, .int 0])), (dr, .inr (1, [.ref co, .ref ck, .int 0])), (co, .inl (cy 0, 48, .inl (fun _ => 0))), (ck, .inl (cy 0, 48, .inl (fun _ => 0))), (t0, .inr (5, [.ref t0a, .int 0])), (t0a, .inl (cy 0, 0, .inl (fun _ => 0)))]
theorem eN_0 {G : va_G} {cy : Nat → ClassId} {sk : Nat → Nat} {s : State} (hE : EN G cy sk s) : vk_R RX4 25 "" (sk 0) s := hE.2.2.2.1 0 (RX4, 25, "") rfl
set_option maxHeartbeats 4000000 in
set_option maxRecDepth 100000 in
theorem c_X4_init (l : Launch) (G : va_G) (cy : Nat → ClassId) (sk : Nat → Nat) (sz : Nat) (h0 : Nat)  : Met l yX4_init (wsO yX4_init cX4_init 1 none) ({ frames := 2, cells := 5, slots := 201, locals := 35 }) (va_Pc [.ref h0] (PR G cy sk sz [(h0, .inr (4, [.null, .null, .null, .int 0, .int 0, .int 0, .int 0]))])) (va_Qv (fun (_ : Unit) => True) (fun _ t => B_c_X4_init G cy sk (va_A [(h0, .inr (4, [.null, .null, .null, .int 0, .int 0, .int 0, .int 0]))] sz) h0 t.heap) (va_A [(h0, .inr (4, [.null, .null, .null, .int 0, .int 0, .int 0, .int 0]))] sz)) 5 201 (va_A [(h0, .inr (4, [.null, .null, .null, .int 0, .int 0, .int 0, .int 0]))] sz) := by
  refine mt (by decide) (Nat.le_of_ble_eq_true rfl) ?_
  intro p e s m below meth c ls hx hb hr hml hts hown hlocks hin hsz hP hE hD hl
  subst hsz
  have hl : lv_has ls 1 [(0, .ref h0)] := hl
  have hD := hD.self (sz := s.heap.size)
  generalize hAe : va_A [(h0, .inr (4, [.null, .null, .null, .int 0, .int 0, .int 0, .int 0]))] s.heap.size = A at hD ⊢
  have hA : ∀ q : Nat, s.heap.size ≤ q → A q := fun q h => by rw [← hAe]; exact Or.inr h
  have hS : va_S A s.heap s.heap [] := va_S.rf
  refine lv_aload_n hx hb dX4_init_0 rfl (lv_at hl 0 rfl) ?_
  refine W.objInit hx hb hown (hts _ m_352) (hts _ m_107) (hts _ m_108) rfl (by rw [hml]; exact hl.1) rfl dX4_init_1 (Nat.le_of_ble_eq_true rfl) (Nat.le_of_ble_eq_true rfl) ?_
  refine W.eq (g2 := F0 m 4 ls []) rfl ?_
  refine lv_aload_n hx hb dX4_init_4 rfl (lv_at hl 0 rfl) ?_
  refine va_new (ci := 1) (fs := [.null, .null, .int 0]) (C := RX1) (T := TX1) (N := 3) hx hb hts inB1 tyX1 tyX1_ok hown (hts _ m_353) (hts _ m_155) (hts _ m_83) hE.1 hP hD hS hA rfl df1 (Nat.le_of_ble_eq_true rfl) (Nat.le_of_ble_eq_true rfl) dX4_init_5 (fun nq1 H hP hD hS => ?_)
  have hP : va_P G classes [(h0, .inr (4, [.null, .null, .null, .int 0, .int 0, .int 0, .int 0])), (nq1, .inr (1, [.null, .null, .int 0]))] H := hP
  refine lv_dup hx hb dX4_init_8 rfl ?_
  refine wIN (B := (B_c_X1_init G cy sk (va_A [(nq1, .inr (1, [.null, .null, .int 0]))] H.size) nq1)) (wr := [(h0, .inr (4, [.null, .null, .null, .int 0, .int 0, .int 0, .int 0]))]) (rest := [.ref nq1, .ref h0]) (host := "ClickStreet") hx hb hml hown hts hE (c_X1_init l G cy sk H.size nq1) kI_X1_init (by decide +kernel) rfl rfl ⟨(Nat.le_of_ble_eq_true rfl), (Nat.le_of_ble_eq_true rfl)⟩ hP hD hS hA [1] [0] rfl rfl rfl rfl (by decide) rfl rfl hl.1 (Nat.le_of_ble_eq_true rfl) dX4_init_9 ⟨(Nat.le_of_ble_eq_true rfl), (Nat.le_of_ble_eq_true rfl)⟩ (fun H locs haf hS => ?_)
  obtain ⟨xq3, xq4, hP1, hD1⟩ := haf.1
  obtain ⟨hP, hD⟩ := haf.2.1 _ hP1 hD1
  have hP : va_P G classes [(h0, .inr (4, [.null, .null, .null, .int 0, .int 0, .int 0, .int 0])), (nq1, .inr (1, [.ref xq3, .ref xq4, .int 0])), (xq3, .inl (cy 0, 48, .inl (fun _ => 0))), (xq4, .inl (cy 0, 48, .inl (fun _ => 0)))] H := hP
  refine va_putF (D := G) (ci := 4) (v := .ref nq1) (ty := (.object "ClickStreet$Formula")) (C := RX4) (T := TX4) (N := 7) hx hb hts inB4 tyX4 tyX4_ok nmX4 hown hE.1 hP hD hS 0 rfl rfl 0 (by decide) (hts _ m_358) (fun _ h9 => h9) rfl hin rfl (by decide +kernel) rfl rfl (Nat.le_of_ble_eq_true rfl) dX4_init_12 (fun H locs hP hD hS => ?_)
  have hP : va_P G classes [(h0, .inr (4, [.ref nq1, .null, .null, .int 0, .int 0, .int 0, .int 0])), (nq1, .inr (1, [.ref xq3, .ref xq4, .int 0])), (xq3, .inl (cy 0, 48, .inl (fun _ => 0))), (xq4, .inl (cy 0, 48, .inl (fun _ => 0)))] H := hP
  refine lv_aload_n hx hb dX4_init_15 rfl (lv_at hl 0 rfl) ?_
  refine va_new (ci := 5) (fs := [.null, .int 0]) (C := RX5) (T := TX5) (N := 2) hx hb hts inB5 tyX5 tyX5_ok hown (hts _ m_355) (hts _ m_200) (hts _ m_85) hE.1 hP hD hS hA rfl df5 (Nat.le_of_ble_eq_true rfl) (Nat.le_of_ble_eq_true rfl) dX4_init_16 (fun nq5 H hP hD hS => ?_)
  have hP : va_P G classes [(h0, .inr (4, [.ref nq1, .null, .null, .int 0, .int 0, .int 0, .int 0])), (nq1, .inr (1, [.ref xq3, .ref xq4, .int 0])), (xq3, .inl (cy 0, 48, .inl (fun _ => 0))), (xq4, .inl (cy 0, 48, .inl (fun _ => 0))), (nq5, .inr (5, [.null, .int 0]))] H := hP
  refine lv_dup hx hb dX4_init_19 rfl ?_
  refine lv_iconst (v := 0) hx hb dX4_init_20 (by decide) ?_
  refine wI (B := (B_c_X5_init G cy sk (va_A [(nq5, .inr (5, [.null, .int 0]))] H.size) nq5 0 0)) (wr := [(h0, .inr (4, [.ref nq1, .null, .null, .int 0, .int 0, .int 0, .int 0])), (nq1, .inr (1, [.ref xq3, .ref xq4, .int 0])), (xq3, .inl (cy 0, 48, .inl (fun _ => 0))), (xq4, .inl (cy 0, 48, .inl (fun _ => 0)))]) (rest := [.ref nq5, .ref h0]) hx hb hml hown hts hE (c_X5_init l G cy sk H.size nq5 0 0 rfl (by decide)) kI_X5_init m_356 rfl rfl ⟨(Nat.le_of_ble_eq_true rfl), (Nat.le_of_ble_eq_true rfl)⟩ hP hD hS hA [4] [0, 1, 2, 3] rfl rfl rfl rfl (by decide) rfl rfl hl.1 (Nat.le_of_ble_eq_true rfl) dX4_init_21 ⟨(Nat.le_of_ble_eq_true rfl), (Nat.le_of_ble_eq_true rfl)⟩ (fun H locs haf hS => ?_)
  obtain ⟨xq7, hP1, hD1⟩ := haf.1
  obtain ⟨hP, hD⟩ := haf.2.1 _ hP1 hD1
  have hP : va_P G classes [(h0, .inr (4, [.ref nq1, .null, .null, .int 0, .int 0, .int 0, .int 0])), (nq1, .inr (1, [.ref xq3, .ref xq4, .int 0])), (xq3, .inl (cy 0, 48, .inl (fun _ => 0))), (xq4, .inl (cy 0, 48, .inl (fun _ => 0))), (nq5, .inr (5, [.ref xq7, .int 0])), (xq7, .inl (cy 0, 0, .inl (fun _ => 0)))] H := hP
  refine va_put (D := G) (ci := 4) (v := .ref nq5) (ty := (.object "ClickStreet$Row")) (C := RX4) (T := TX4) (N := 7) hx hb hts inB4 tyX4 tyX4_ok nmX4 hown hE.1 hP hD hS 0 rfl rfl 1 (by decide) (hts _ m_360) (fun _ h9 => h9) rfl (by decide +kernel) rfl rfl (Nat.le_of_ble_eq_true rfl) dX4_init_24 (fun H locs hP hD hS => ?_)
  have hP : va_P G classes [(h0, .inr (4, [.ref nq1, .ref nq5, .null, .int 0, .int 0, .int 0, .int 0])), (nq1, .inr (1, [.ref xq3, .ref xq4, .int 0])), (xq3, .inl (cy 0, 48, .inl (fun _ => 0))), (xq4, .inl (cy 0, 48, .inl (fun _ => 0))), (nq5, .inr (5, [.ref xq7, .int 0])), (xq7, .inl (cy 0, 0, .inl (fun _ => 0)))] H := hP
  refine lv_aload_n hx hb dX4_init_27 rfl (lv_at hl 0 rfl) ?_
  refine va_ldcS hx hb hown (eN_0 hE) dX4_init_28 ?_
  refine va_put (D := G) (ci := 4) (v := .ref (sk 0)) (ty := (.object "java/lang/String")) (C := RX4) (T := TX4) (N := 7) hx hb hts inB4 tyX4 tyX4_ok nmX4 hown hE.1 hP hD hS 0 rfl rfl 2 (by decide) (hts _ m_361) (fun _ h9 => h9) rfl (by decide +kernel) rfl rfl (Nat.le_of_ble_eq_true rfl) dX4_init_30 (fun H locs hP hD hS => ?_)
  have hP : va_P G classes [(h0, .inr (4, [.ref nq1, .ref nq5, .ref (sk 0), .int 0, .int 0, .int 0, .int 0])), (nq1, .inr (1, [.ref xq3, .ref xq4, .int 0])), (xq3, .inl (cy 0, 48, .inl (fun _ => 0))), (xq4, .inl (cy 0, 48, .inl (fun _ => 0))), (nq5, .inr (5, [.ref xq7, .int 0])), (xq7, .inl (cy 0, 0, .inl (fun _ => 0)))] H := hP
  refine lv_aload_n hx hb dX4_init_33 rfl (lv_at hl 0 rfl) ?_
  refine lv_iconst (v := 0) hx hb dX4_init_34 (by decide) ?_
  refine va_put (D := G) (ci := 4) (v := .int 0) (ty := .int) (C := RX4) (T := TX4) (N := 7) hx hb hts inB4 tyX4 tyX4_ok nmX4 hown hE.1 hP hD hS 0 rfl rfl 3 (by decide) (hts _ m_362) (fun _ h9 => h9) rfl (by decide +kernel) rfl rfl (Nat.le_of_ble_eq_true rfl) dX4_init_35 (fun H locs hP hD hS => ?_)
  have hP : va_P G classes [(h0, .inr (4, [.ref nq1, .ref nq5, .ref (sk 0), .int 0, .int 0, .int 0, .int 0])), (nq1, .inr (1, [.ref xq3, .ref xq4, .int 0])), (xq3, .inl (cy 0, 48, .inl (fun _ => 0))), (xq4, .inl (cy 0, 48, .inl (fun _ => 0))), (nq5, .inr (5, [.ref xq7, .int 0])), (xq7, .inl (cy 0, 0, .inl (fun _ => 0)))] H := hP
  refine lv_aload_n hx hb dX4_init_38 rfl (lv_at hl 0 rfl) ?_
  refine lv_iconst (v := (-1)) hx hb dX4_init_39 (by decide) ?_
  refine va_put (D := G) (ci := 4) (v := .int (-1)) (ty := .int) (C := RX4) (T := TX4) (N := 7) hx hb hts inB4 tyX4 tyX4_ok nmX4 hown hE.1 hP hD hS 0 rfl rfl 4 (by decide) (hts _ m_363) (fun _ h9 => h9) rfl (by decide +kernel) rfl rfl (Nat.le_of_ble_eq_true rfl) dX4_init_40 (fun H locs hP hD hS => ?_)
  have hP : va_P G classes [(h0, .inr (4, [.ref nq1, .ref nq5, .ref (sk 0), .int 0, .int (-1), .int 0, .int 0])), (nq1, .inr (1, [.ref xq3, .ref xq4, .int 0])), (xq3, .inl (cy 0, 48, .inl (fun _ => 0))), (xq4, .inl (cy 0, 48, .inl (fun _ => 0))), (nq5, .inr (5, [.ref xq7, .int 0])), (xq7, .inl (cy 0, 0, .inl (fun _ => 0)))] H := hP
  refine lv_aload_n hx hb dX4_init_43 rfl (lv_at hl 0 rfl) ?_
  refine lv_iconst (v := 0) hx hb dX4_init_44 (by decide) ?_
  refine va_put (D := G) (ci := 4) (v := .int 0) (ty := .int) (C := RX4) (T := TX4) (N := 7) hx hb hts inB4 tyX4 tyX4_ok nmX4 hown hE.1 hP hD hS 0 rfl rfl 5 (by decide) (hts _ m_364) (fun _ h9 => h9) rfl (by decide +kernel) rfl rfl (Nat.le_of_ble_eq_true rfl) dX4_init_45 (fun H locs hP hD hS => ?_)
  have hP : va_P G classes [(h0, .inr (4, [.ref nq1, .ref nq5, .ref (sk 0), .int 0, .int (-1), .int 0, .int 0])), (nq1, .inr (1, [.ref xq3, .ref xq4, .int 0])), (xq3, .inl (cy 0, 48, .inl (fun _ => 0))), (xq4, .inl (cy 0, 48, .inl (fun _ => 0))), (nq5, .inr (5, [.ref xq7, .int 0])), (xq7, .inl (cy 0, 0, .inl (fun _ => 0)))] H := hP
  refine lv_aload_n hx hb dX4_init_48 rfl (lv_at hl 0 rfl) ?_
  refine lv_iconst (v := 0) hx hb dX4_init_49 (by decide) ?_
  refine va_put (D := G) (ci := 4) (v := .int 0) (ty := .int) (C := RX4) (T := TX4) (N := 7) hx hb hts inB4 tyX4 tyX4_ok nmX4 hown hE.1 hP hD hS 0 rfl rfl 6 (by decide) (hts _ m_365) (fun _ h9 => h9) rfl (by decide +kernel) rfl rfl (Nat.le_of_ble_eq_true rfl) dX4_init_50 (fun H locs hP hD hS => ?_)
  have hP : va_P G classes [(h0, .inr (4, [.ref nq1, .ref nq5, .ref (sk 0), .int 0, .int (-1), .int 0, .int 0])), (nq1, .inr (1, [.ref xq3, .ref xq4, .int 0])), (xq3, .inl (cy 0, 48, .inl (fun _ => 0))), (xq4, .inl (cy 0, 48, .inl (fun _ => 0))), (nq5, .inr (5, [.ref xq7, .int 0])), (xq7, .inl (cy 0, 0, .inl (fun _ => 0)))] H := hP
  have hP9 : va_P G classes [(h0, .inr (4, [.ref nq1, .ref nq5, .ref (sk 0), .int 0, .int (-1), .int 0, .int 0])), (nq1, .inr (1, [.ref xq3, .ref xq4, .int 0])), (xq3, .inl (cy 0, 48, .inl (fun _ => 0))), (xq4, .inl (cy 0, 48, .inl (fun _ => 0))), (nq5, .inr (5, [.ref xq7, .int 0])), (xq7, .inl (cy 0, 0, .inl (fun _ => 0)))] H := hP
  have hD9 : va_D A [(h0, .inr (4, [.ref nq1, .ref nq5, .ref (sk 0), .int 0, .int (-1), .int 0, .int 0])), (nq1, .inr (1, [.ref xq3, .ref xq4, .int 0])), (xq3, .inl (cy 0, 48, .inl (fun _ => 0))), (xq4, .inl (cy 0, 48, .inl (fun _ => 0))), (nq5, .inr (5, [.ref xq7, .int 0])), (xq7, .inl (cy 0, 0, .inl (fun _ => 0)))] := hD
  refine W.widen (k := 5) (n := 201) (by first | exact Nat.le_of_ble_eq_true rfl | omega) (by first | exact Nat.le_of_ble_eq_true rfl | omega) ?_
  exact W.vret hx hb hr (fun t ht hW => ⟨⟨(), rfl, trivial, by dsimp only; rw [ht]; exact ⟨nq1, nq5, xq3, xq4, xq7, (sk 0), rfl, hP9, hD9⟩⟩, hS.F ht⟩) hS.2.2 dX4_init_53
def B_c_X0_init (G : va_G) (cy : Nat → ClassId) (sk : Nat → Nat) (A : Nat → Prop) (h0 : Nat) (H : Heap) : Prop := ∃ (fc : Nat) (fd_ : Nat) (fl_ : Nat) (fh : Nat), va_P G classes [(h0, .inr (0, [.ref fc, .ref fd_, .ref fl_, .ref fh, .int 0, .int 0])), (fc, .inl (cy 0, 192, .inl (fun _ => 0))), (fd_, .inl (cy 1, 192, .inl (fun _ => 0))), (fl_, .inl (cy 2, 24, .inr (.inl (fun _ => 0)))), (fh, .inl (cy 0, 8, .inl (fun _ => 0)))] H ∧ va_D A [(h0, .inr (0, [.ref fc, .ref fd_, .ref fl_, .ref fh, .int 0, .int 0])), (fc, .inl (cy 0, 192, .inl (fun _ => 0))), (fd_, .inl (cy 1, 192, .inl (fun _ => 0))), (fl_, .inl (cy 2, 24, .inr (.inl (fun _ => 0)))), (fh, .inl (cy 0, 8, .inl (fun _ => 0)))]
set_option maxHeartbeats 4000000 in
set_option maxRecDepth 100000 in
theorem c_X0_init (l : Launch) (G : va_G) (cy : Nat → ClassId) (sk : Nat → Nat) (sz : Nat) (h0 : Nat)  : Met l yX0_init (wsO yX0_init cX0_init 1 none) ({ frames := 1, cells := 4, slots := 416, locals := 12 }) (va_Pc [.ref h0] (PR G cy sk sz [(h0, .inr (0, [.null, .null, .null, .null, .int 0, .int 0]))])) (va_Qv (fun (_ : Unit) => True) (fun _ t => B_c_X0_init G cy sk (va_A [(h0, .inr (0, [.null, .null, .null, .null, .int 0, .int 0]))] sz) h0 t.heap) (va_A [(h0, .inr (0, [.null, .null, .null, .null, .int 0, .int 0]))] sz)) 4 416 (va_A [(h0, .inr (0, [.null, .null, .null, .null, .int 0, .int 0]))] sz) := by
  refine mt (by decide) (Nat.le_of_ble_eq_true rfl) ?_
  intro p e s m below meth c ls hx hb hr hml hts hown hlocks hin hsz hP hE hD hl
  subst hsz
  have hl : lv_has ls 1 [(0, .ref h0)] := hl
  have hD := hD.self (sz := s.heap.size)
  generalize hAe : va_A [(h0, .inr (0, [.null, .null, .null, .null, .int 0, .int 0]))] s.heap.size = A at hD ⊢
  have hA : ∀ q : Nat, s.heap.size ≤ q → A q := fun q h => by rw [← hAe]; exact Or.inr h
  have hS : va_S A s.heap s.heap [] := va_S.rf
  refine lv_aload_n hx hb dX0_init_0 rfl (lv_at hl 0 rfl) ?_
  refine W.objInit hx hb hown (hts _ m_387) (hts _ m_107) (hts _ m_108) rfl (by rw [hml]; exact hl.1) rfl dX0_init_1 (Nat.le_of_ble_eq_true rfl) (Nat.le_of_ble_eq_true rfl) ?_
  refine W.eq (g2 := F0 m 4 ls []) rfl ?_
  refine lv_aload_n hx hb dX0_init_4 rfl (lv_at hl 0 rfl) ?_
  refine lv_sipush (v := 192) hx hb dX0_init_5 (by decide) ?_
  refine nwI (n := 192) (N := 192) hx hb hts m_146 hE hP hD hS hA (by decide) (by decide) (Nat.le_of_ble_eq_true rfl) (Nat.le_of_ble_eq_true rfl) (Nat.le_of_ble_eq_true rfl) dX0_init_8 (fun nq1 H hP hD hS => ?_)
  have hP : va_P G classes [(h0, .inr (0, [.null, .null, .null, .null, .int 0, .int 0])), (nq1, .inl (cy 0, 192, .inl (fun _ => 0)))] H := hP
  refine va_putF (D := G) (ci := 0) (v := .ref nq1) (ty := (.array .int)) (C := RX0) (T := TX0) (N := 6) hx hb hts inB0 tyX0 tyX0_ok nmX0 hown hE.1 hP hD hS 0 rfl rfl 0 (by decide) (hts _ m_388) (fun _ h9 => h9) rfl hin rfl (by decide +kernel) rfl rfl (Nat.le_of_ble_eq_true rfl) dX0_init_10 (fun H locs hP hD hS => ?_)
  have hP : va_P G classes [(h0, .inr (0, [.ref nq1, .null, .null, .null, .int 0, .int 0])), (nq1, .inl (cy 0, 192, .inl (fun _ => 0)))] H := hP
  refine lv_aload_n hx hb dX0_init_13 rfl (lv_at hl 0 rfl) ?_
  refine lv_sipush (v := 192) hx hb dX0_init_14 (by decide) ?_
  refine nwZ (n := 192) (N := 192) hx hb hts m_409 hE hP hD hS hA (by decide) (by decide) (Nat.le_of_ble_eq_true rfl) (Nat.le_of_ble_eq_true rfl) (Nat.le_of_ble_eq_true rfl) dX0_init_17 (fun nq2 H hP hD hS => ?_)
  have hP : va_P G classes [(h0, .inr (0, [.ref nq1, .null, .null, .null, .int 0, .int 0])), (nq1, .inl (cy 0, 192, .inl (fun _ => 0))), (nq2, .inl (cy 1, 192, .inl (fun _ => 0)))] H := hP
  refine va_putF (D := G) (ci := 0) (v := .ref nq2) (ty := (.array .boolean)) (C := RX0) (T := TX0) (N := 6) hx hb hts inB0 tyX0 tyX0_ok nmX0 hown hE.1 hP hD hS 0 rfl rfl 1 (by decide) (hts _ m_389) (fun _ h9 => h9) rfl hin rfl (by decide +kernel) rfl rfl (Nat.le_of_ble_eq_true rfl) dX0_init_19 (fun H locs hP hD hS => ?_)
  have hP : va_P G classes [(h0, .inr (0, [.ref nq1, .ref nq2, .null, .null, .int 0, .int 0])), (nq1, .inl (cy 0, 192, .inl (fun _ => 0))), (nq2, .inl (cy 1, 192, .inl (fun _ => 0)))] H := hP
  refine lv_aload_n hx hb dX0_init_22 rfl (lv_at hl 0 rfl) ?_
  refine lv_bipush (v := 24) hx hb dX0_init_23 (by decide) ?_
  refine nwJ (n := 24) (N := 24) hx hb hts m_410 hE hP hD hS hA (by decide) (by decide) (Nat.le_of_ble_eq_true rfl) (Nat.le_of_ble_eq_true rfl) (Nat.le_of_ble_eq_true rfl) dX0_init_25 (fun nq3 H hP hD hS => ?_)
  have hP : va_P G classes [(h0, .inr (0, [.ref nq1, .ref nq2, .null, .null, .int 0, .int 0])), (nq1, .inl (cy 0, 192, .inl (fun _ => 0))), (nq2, .inl (cy 1, 192, .inl (fun _ => 0))), (nq3, .inl (cy 2, 24, .inr (.inl (fun _ => 0))))] H := hP
  refine va_putF (D := G) (ci := 0) (v := .ref nq3) (ty := (.array .long)) (C := RX0) (T := TX0) (N := 6) hx hb hts inB0 tyX0 tyX0_ok nmX0 hown hE.1 hP hD hS 0 rfl rfl 2 (by decide) (hts _ m_390) (fun _ h9 => h9) rfl hin rfl (by decide +kernel) rfl rfl (Nat.le_of_ble_eq_true rfl) dX0_init_27 (fun H locs hP hD hS => ?_)
  have hP : va_P G classes [(h0, .inr (0, [.ref nq1, .ref nq2, .ref nq3, .null, .int 0, .int 0])), (nq1, .inl (cy 0, 192, .inl (fun _ => 0))), (nq2, .inl (cy 1, 192, .inl (fun _ => 0))), (nq3, .inl (cy 2, 24, .inr (.inl (fun _ => 0))))] H := hP
  refine lv_aload_n hx hb dX0_init_30 rfl (lv_at hl 0 rfl) ?_
  refine lv_bipush (v := 8) hx hb dX0_init_31 (by decide) ?_
  refine nwI (n := 8) (N := 8) hx hb hts m_146 hE hP hD hS hA (by decide) (by decide) (Nat.le_of_ble_eq_true rfl) (Nat.le_of_ble_eq_true rfl) (Nat.le_of_ble_eq_true rfl) dX0_init_33 (fun nq4 H hP hD hS => ?_)
  have hP : va_P G classes [(h0, .inr (0, [.ref nq1, .ref nq2, .ref nq3, .null, .int 0, .int 0])), (nq1, .inl (cy 0, 192, .inl (fun _ => 0))), (nq2, .inl (cy 1, 192, .inl (fun _ => 0))), (nq3, .inl (cy 2, 24, .inr (.inl (fun _ => 0)))), (nq4, .inl (cy 0, 8, .inl (fun _ => 0)))] H := hP
  refine va_putF (D := G) (ci := 0) (v := .ref nq4) (ty := (.array .int)) (C := RX0) (T := TX0) (N := 6) hx hb hts inB0 tyX0 tyX0_ok nmX0 hown hE.1 hP hD hS 0 rfl rfl 3 (by decide) (hts _ m_391) (fun _ h9 => h9) rfl hin rfl (by decide +kernel) rfl rfl (Nat.le_of_ble_eq_true rfl) dX0_init_35 (fun H locs hP hD hS => ?_)
  have hP : va_P G classes [(h0, .inr (0, [.ref nq1, .ref nq2, .ref nq3, .ref nq4, .int 0, .int 0])), (nq1, .inl (cy 0, 192, .inl (fun _ => 0))), (nq2, .inl (cy 1, 192, .inl (fun _ => 0))), (nq3, .inl (cy 2, 24, .inr (.inl (fun _ => 0)))), (nq4, .inl (cy 0, 8, .inl (fun _ => 0)))] H := hP
  refine lv_aload_n hx hb dX0_init_38 rfl (lv_at hl 0 rfl) ?_
  refine lv_iconst (v := 0) hx hb dX0_init_39 (by decide) ?_
  refine va_put (D := G) (ci := 0) (v := .int 0) (ty := .int) (C := RX0) (T := TX0) (N := 6) hx hb hts inB0 tyX0 tyX0_ok nmX0 hown hE.1 hP hD hS 0 rfl rfl 4 (by decide) (hts _ m_392) (fun _ h9 => h9) rfl (by decide +kernel) rfl rfl (Nat.le_of_ble_eq_true rfl) dX0_init_40 (fun H locs hP hD hS => ?_)
  have hP : va_P G classes [(h0, .inr (0, [.ref nq1, .ref nq2, .ref nq3, .ref nq4, .int 0, .int 0])), (nq1, .inl (cy 0, 192, .inl (fun _ => 0))), (nq2, .inl (cy 1, 192, .inl (fun _ => 0))), (nq3, .inl (cy 2, 24, .inr (.inl (fun _ => 0)))), (nq4, .inl (cy 0, 8, .inl (fun _ => 0)))] H := hP
  refine lv_aload_n hx hb dX0_init_43 rfl (lv_at hl 0 rfl) ?_
  refine lv_iconst (v := 0) hx hb dX0_init_44 (by decide) ?_
  refine va_put (D := G) (ci := 0) (v := .int 0) (ty := .int) (C := RX0) (T := TX0) (N := 6) hx hb hts inB0 tyX0 tyX0_ok nmX0 hown hE.1 hP hD hS 0 rfl rfl 5 (by decide) (hts _ m_394) (fun _ h9 => h9) rfl (by decide +kernel) rfl rfl (Nat.le_of_ble_eq_true rfl) dX0_init_45 (fun H locs hP hD hS => ?_)
  have hP : va_P G classes [(h0, .inr (0, [.ref nq1, .ref nq2, .ref nq3, .ref nq4, .int 0, .int 0])), (nq1, .inl (cy 0, 192, .inl (fun _ => 0))), (nq2, .inl (cy 1, 192, .inl (fun _ => 0))), (nq3, .inl (cy 2, 24, .inr (.inl (fun _ => 0)))), (nq4, .inl (cy 0, 8, .inl (fun _ => 0)))] H := hP
  have hP9 : va_P G classes [(h0, .inr (0, [.ref nq1, .ref nq2, .ref nq3, .ref nq4, .int 0, .int 0])), (nq1, .inl (cy 0, 192, .inl (fun _ => 0))), (nq2, .inl (cy 1, 192, .inl (fun _ => 0))), (nq3, .inl (cy 2, 24, .inr (.inl (fun _ => 0)))), (nq4, .inl (cy 0, 8, .inl (fun _ => 0)))] H := hP
  have hD9 : va_D A [(h0, .inr (0, [.ref nq1, .ref nq2, .ref nq3, .ref nq4, .int 0, .int 0])), (nq1, .inl (cy 0, 192, .inl (fun _ => 0))), (nq2, .inl (cy 1, 192, .inl (fun _ => 0))), (nq3, .inl (cy 2, 24, .inr (.inl (fun _ => 0)))), (nq4, .inl (cy 0, 8, .inl (fun _ => 0)))] := hD
  refine W.widen (k := 4) (n := 416) (by first | exact Nat.le_of_ble_eq_true rfl | omega) (by first | exact Nat.le_of_ble_eq_true rfl | omega) ?_
  exact W.vret hx hb hr (fun t ht hW => ⟨⟨(), rfl, trivial, by dsimp only; rw [ht]; exact ⟨nq1, nq2, nq3, nq4, hP9, hD9⟩⟩, hS.F ht⟩) hS.2.2 dX0_init_48
def B_c_X8_init (G : va_G) (cy : Nat → ClassId) (sk : Nat → Nat) (A : Nat → Prop) (h0 : Nat) (H : Heap) : Prop := ∃ (bg : Nat) (bga : Nat) (vt : Nat) (vta : Nat), va_P G classes [(h0, .inr (8, [.ref bg, .ref vt, .int 0, .int 0, .int 0, .int 0])), (bg, .inr (5, [.ref bga, .int 0])), (bga, .inl (cy 0, 30, .inl (fun _ => 0))), (vt, .inr (5, [.ref vta, .int 0])), (vta, .inl (cy 0, 30, .inl (fun _ => 0)))] H ∧ va_D A [(h0, .inr (8, [.ref bg, .ref vt, .int 0, .int 0, .int 0, .int 0])), (bg, .inr (5, [.ref bga, .int 0])), (bga, .inl (cy 0, 30, .inl (fun _ => 0))), (vt, .inr (5, [.ref vta, .int 0])), (vta, .inl (cy 0, 30, .inl (fun _ => 0)))]
set_option maxHeartbeats 4000000 in
set_option maxRecDepth 100000 in
theorem c_X8_init (l : Launch) (G : va_G) (cy : Nat → ClassId) (sk : Nat → Nat) (sz : Nat) (h0 : Nat)  : Met l yX8_init (wsO yX8_init cX8_init 1 none) ({ frames := 2, cells := 4, slots := 204, locals := 35 }) (va_Pc [.ref h0] (PR G cy sk sz [(h0, .inr (8, [.null, .null, .int 0, .int 0, .int 0, .int 0]))])) (va_Qv (fun (_ : Unit) => True) (fun _ t => B_c_X8_init G cy sk (va_A [(h0, .inr (8, [.null, .null, .int 0, .int 0, .int 0, .int 0]))] sz) h0 t.heap) (va_A [(h0, .inr (8, [.null, .null, .int 0, .int 0, .int 0, .int 0]))] sz)) 4 204 (va_A [(h0, .inr (8, [.null, .null, .int 0, .int 0, .int 0, .int 0]))] sz) := by
  refine mt (by decide) (Nat.le_of_ble_eq_true rfl) ?_
  intro p e s m below meth c ls hx hb hr hml hts hown hlocks hin hsz hP hE hD hl
  subst hsz
  have hl : lv_has ls 1 [(0, .ref h0)] := hl
  have hD := hD.self (sz := s.heap.size)
  generalize hAe : va_A [(h0, .inr (8, [.null, .null, .int 0, .int 0, .int 0, .int 0]))] s.heap.size = A at hD ⊢
  have hA : ∀ q : Nat, s.heap.size ≤ q → A q := fun q h => by rw [← hAe]; exact Or.inr h
  have hS : va_S A s.heap s.heap [] := va_S.rf
  refine lv_aload_n hx hb dX8_init_0 rfl (lv_at hl 0 rfl) ?_
  refine W.objInit hx hb hown (hts _ m_416) (hts _ m_107) (hts _ m_108) rfl (by rw [hml]; exact hl.1) rfl dX8_init_1 (Nat.le_of_ble_eq_true rfl) (Nat.le_of_ble_eq_true rfl) ?_
  refine W.eq (g2 := F0 m 4 ls []) rfl ?_
  refine lv_aload_n hx hb dX8_init_4 rfl (lv_at hl 0 rfl) ?_
  refine va_new (ci := 5) (fs := [.null, .int 0]) (C := RX5) (T := TX5) (N := 2) hx hb hts inB5 tyX5 tyX5_ok hown (hts _ m_417) (hts _ m_200) (hts _ m_85) hE.1 hP hD hS hA rfl df5 (Nat.le_of_ble_eq_true rfl) (Nat.le_of_ble_eq_true rfl) dX8_init_5 (fun nq1 H hP hD hS => ?_)
  have hP : va_P G classes [(h0, .inr (8, [.null, .null, .int 0, .int 0, .int 0, .int 0])), (nq1, .inr (5, [.null, .int 0]))] H := hP
  refine lv_dup hx hb dX8_init_8 rfl ?_
  refine lv_bipush (v := 30) hx hb dX8_init_9 (by decide) ?_
  refine wI (B := (B_c_X5_init G cy sk (va_A [(nq1, .inr (5, [.null, .int 0]))] H.size) nq1 30 30)) (wr := [(h0, .inr (8, [.null, .null, .int 0, .int 0, .int 0, .int 0]))]) (rest := [.ref nq1, .ref h0]) hx hb hml hown hts hE (c_X5_init l G cy sk H.size nq1 30 30 rfl (by decide)) kI_X5_init m_418 rfl rfl ⟨(Nat.le_of_ble_eq_true rfl), (Nat.le_of_ble_eq_true rfl)⟩ hP hD hS hA [1] [0] rfl rfl rfl rfl (by decide) rfl rfl hl.1 (Nat.le_of_ble_eq_true rfl) dX8_init_11 ⟨(Nat.le_of_ble_eq_true rfl), (Nat.le_of_ble_eq_true rfl)⟩ (fun H locs haf hS => ?_)
  obtain ⟨xq3, hP1, hD1⟩ := haf.1
  obtain ⟨hP, hD⟩ := haf.2.1 _ hP1 hD1
  have hP : va_P G classes [(h0, .inr (8, [.null, .null, .int 0, .int 0, .int 0, .int 0])), (nq1, .inr (5, [.ref xq3, .int 0])), (xq3, .inl (cy 0, 30, .inl (fun _ => 0)))] H := hP
  refine va_putF (D := G) (ci := 8) (v := .ref nq1) (ty := (.object "ClickStreet$Row")) (C := RX8) (T := TX8) (N := 6) hx hb hts inB8 tyX8 tyX8_ok nmX8 hown hE.1 hP hD hS 0 rfl rfl 0 (by decide) (hts _ m_419) (fun _ h9 => h9) rfl hin rfl (by decide +kernel) rfl rfl (Nat.le_of_ble_eq_true rfl) dX8_init_14 (fun H locs hP hD hS => ?_)
  have hP : va_P G classes [(h0, .inr (8, [.ref nq1, .null, .int 0, .int 0, .int 0, .int 0])), (nq1, .inr (5, [.ref xq3, .int 0])), (xq3, .inl (cy 0, 30, .inl (fun _ => 0)))] H := hP
  refine lv_aload_n hx hb dX8_init_17 rfl (lv_at hl 0 rfl) ?_
  refine va_new (ci := 5) (fs := [.null, .int 0]) (C := RX5) (T := TX5) (N := 2) hx hb hts inB5 tyX5 tyX5_ok hown (hts _ m_417) (hts _ m_200) (hts _ m_85) hE.1 hP hD hS hA rfl df5 (Nat.le_of_ble_eq_true rfl) (Nat.le_of_ble_eq_true rfl) dX8_init_18 (fun nq4 H hP hD hS => ?_)
  have hP : va_P G classes [(h0, .inr (8, [.ref nq1, .null, .int 0, .int 0, .int 0, .int 0])), (nq1, .inr (5, [.ref xq3, .int 0])), (xq3, .inl (cy 0, 30, .inl (fun _ => 0))), (nq4, .inr (5, [.null, .int 0]))] H := hP
  refine lv_dup hx hb dX8_init_21 rfl ?_
  refine lv_bipush (v := 30) hx hb dX8_init_22 (by decide) ?_
  refine wI (B := (B_c_X5_init G cy sk (va_A [(nq4, .inr (5, [.null, .int 0]))] H.size) nq4 30 30)) (wr := [(h0, .inr (8, [.ref nq1, .null, .int 0, .int 0, .int 0, .int 0])), (nq1, .inr (5, [.ref xq3, .int 0])), (xq3, .inl (cy 0, 30, .inl (fun _ => 0)))]) (rest := [.ref nq4, .ref h0]) hx hb hml hown hts hE (c_X5_init l G cy sk H.size nq4 30 30 rfl (by decide)) kI_X5_init m_418 rfl rfl ⟨(Nat.le_of_ble_eq_true rfl), (Nat.le_of_ble_eq_true rfl)⟩ hP hD hS hA [3] [0, 1, 2] rfl rfl rfl rfl (by decide) rfl rfl hl.1 (Nat.le_of_ble_eq_true rfl) dX8_init_24 ⟨(Nat.le_of_ble_eq_true rfl), (Nat.le_of_ble_eq_true rfl)⟩ (fun H locs haf hS => ?_)
  obtain ⟨xq6, hP1, hD1⟩ := haf.1
  obtain ⟨hP, hD⟩ := haf.2.1 _ hP1 hD1
  have hP : va_P G classes [(h0, .inr (8, [.ref nq1, .null, .int 0, .int 0, .int 0, .int 0])), (nq1, .inr (5, [.ref xq3, .int 0])), (xq3, .inl (cy 0, 30, .inl (fun _ => 0))), (nq4, .inr (5, [.ref xq6, .int 0])), (xq6, .inl (cy 0, 30, .inl (fun _ => 0)))] H := hP
  refine va_putF (D := G) (ci := 8) (v := .ref nq4) (ty := (.object "ClickStreet$Row")) (C := RX8) (T := TX8) (N := 6) hx hb hts inB8 tyX8 tyX8_ok nmX8 hown hE.1 hP hD hS 0 rfl rfl 1 (by decide) (hts _ m_420) (fun _ h9 => h9) rfl hin rfl (by decide +kernel) rfl rfl (Nat.le_of_ble_eq_true rfl) dX8_init_27 (fun H locs hP hD hS => ?_)
  have hP : va_P G classes [(h0, .inr (8, [.ref nq1, .ref nq4, .int 0, .int 0, .int 0, .int 0])), (nq1, .inr (5, [.ref xq3, .int 0])), (xq3, .inl (cy 0, 30, .inl (fun _ => 0))), (nq4, .inr (5, [.ref xq6, .int 0])), (xq6, .inl (cy 0, 30, .inl (fun _ => 0)))] H := hP
  refine lv_aload_n hx hb dX8_init_30 rfl (lv_at hl 0 rfl) ?_
  refine lv_iconst (v := 0) hx hb dX8_init_31 (by decide) ?_
  refine va_put (D := G) (ci := 8) (v := .int 0) (ty := .int) (C := RX8) (T := TX8) (N := 6) hx hb hts inB8 tyX8 tyX8_ok nmX8 hown hE.1 hP hD hS 0 rfl rfl 2 (by decide) (hts _ m_422) (fun _ h9 => h9) rfl (by decide +kernel) rfl rfl (Nat.le_of_ble_eq_true rfl) dX8_init_32 (fun H locs hP hD hS => ?_)
  have hP : va_P G classes [(h0, .inr (8, [.ref nq1, .ref nq4, .int 0, .int 0, .int 0, .int 0])), (nq1, .inr (5, [.ref xq3, .int 0])), (xq3, .inl (cy 0, 30, .inl (fun _ => 0))), (nq4, .inr (5, [.ref xq6, .int 0])), (xq6, .inl (cy 0, 30, .inl (fun _ => 0)))] H := hP
  refine lv_aload_n hx hb dX8_init_35 rfl (lv_at hl 0 rfl) ?_
  refine lv_iconst (v := 0) hx hb dX8_init_36 (by decide) ?_
  refine va_put (D := G) (ci := 8) (v := .int 0) (ty := .int) (C := RX8) (T := TX8) (N := 6) hx hb hts inB8 tyX8 tyX8_ok nmX8 hown hE.1 hP hD hS 0 rfl rfl 3 (by decide) (hts _ m_423) (fun _ h9 => h9) rfl (by decide +kernel) rfl rfl (Nat.le_of_ble_eq_true rfl) dX8_init_37 (fun H locs hP hD hS => ?_)
  have hP : va_P G classes [(h0, .inr (8, [.ref nq1, .ref nq4, .int 0, .int 0, .int 0, .int 0])), (nq1, .inr (5, [.ref xq3, .int 0])), (xq3, .inl (cy 0, 30, .inl (fun _ => 0))), (nq4, .inr (5, [.ref xq6, .int 0])), (xq6, .inl (cy 0, 30, .inl (fun _ => 0)))] H := hP
  refine lv_aload_n hx hb dX8_init_40 rfl (lv_at hl 0 rfl) ?_
  refine lv_iconst (v := 0) hx hb dX8_init_41 (by decide) ?_
  refine va_put (D := G) (ci := 8) (v := .int 0) (ty := .int) (C := RX8) (T := TX8) (N := 6) hx hb hts inB8 tyX8 tyX8_ok nmX8 hown hE.1 hP hD hS 0 rfl rfl 4 (by decide) (hts _ m_424) (fun _ h9 => h9) rfl (by decide +kernel) rfl rfl (Nat.le_of_ble_eq_true rfl) dX8_init_42 (fun H locs hP hD hS => ?_)
  have hP : va_P G classes [(h0, .inr (8, [.ref nq1, .ref nq4, .int 0, .int 0, .int 0, .int 0])), (nq1, .inr (5, [.ref xq3, .int 0])), (xq3, .inl (cy 0, 30, .inl (fun _ => 0))), (nq4, .inr (5, [.ref xq6, .int 0])), (xq6, .inl (cy 0, 30, .inl (fun _ => 0)))] H := hP
  refine lv_aload_n hx hb dX8_init_45 rfl (lv_at hl 0 rfl) ?_
  refine lv_iconst (v := 0) hx hb dX8_init_46 (by decide) ?_
  refine va_put (D := G) (ci := 8) (v := .int 0) (ty := .boolean) (C := RX8) (T := TX8) (N := 6) hx hb hts inB8 tyX8 tyX8_ok nmX8 hown hE.1 hP hD hS 0 rfl rfl 5 (by decide) (hts _ m_425) (fun _ h9 => h9) rfl (by decide +kernel) rfl rfl (Nat.le_of_ble_eq_true rfl) dX8_init_47 (fun H locs hP hD hS => ?_)
  have hP : va_P G classes [(h0, .inr (8, [.ref nq1, .ref nq4, .int 0, .int 0, .int 0, .int 0])), (nq1, .inr (5, [.ref xq3, .int 0])), (xq3, .inl (cy 0, 30, .inl (fun _ => 0))), (nq4, .inr (5, [.ref xq6, .int 0])), (xq6, .inl (cy 0, 30, .inl (fun _ => 0)))] H := hP
  have hP9 : va_P G classes [(h0, .inr (8, [.ref nq1, .ref nq4, .int 0, .int 0, .int 0, .int 0])), (nq1, .inr (5, [.ref xq3, .int 0])), (xq3, .inl (cy 0, 30, .inl (fun _ => 0))), (nq4, .inr (5, [.ref xq6, .int 0])), (xq6, .inl (cy 0, 30, .inl (fun _ => 0)))] H := hP
  have hD9 : va_D A [(h0, .inr (8, [.ref nq1, .ref nq4, .int 0, .int 0, .int 0, .int 0])), (nq1, .inr (5, [.ref xq3, .int 0])), (xq3, .inl (cy 0, 30, .inl (fun _ => 0))), (nq4, .inr (5, [.ref xq6, .int 0])), (xq6, .inl (cy 0, 30, .inl (fun _ => 0)))] := hD
  refine W.widen (k := 4) (n := 204) (by first | exact Nat.le_of_ble_eq_true rfl | omega) (by first | exact Nat.le_of_ble_eq_true rfl | omega) ?_
  exact W.vret hx hb hr (fun t ht hW => ⟨⟨(), rfl, trivial, by dsimp only; rw [ht]; exact ⟨nq1, xq3, nq4, xq6, hP9, hD9⟩⟩, hS.F ht⟩) hS.2.2 dX8_init_50
