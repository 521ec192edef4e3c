theorem lf_c_X2_changeAir_0 (wh : Int32) (c_1 : ¬ wh = 0) (c_2 : ¬ wh = 1) : (0 : Int32) = (if wh = 0 then 5 else if wh = 1 then 9 else 0) := by simp_all
theorem lf_c_X2_changeAir_1 (wh : Int32) (c_1 : ¬ wh = 0) (c_2 : wh = 1) : (9 : Int32) = (if wh = 0 then 5 else if wh = 1 then 9 else 0) := by simp_all
theorem lf_c_X2_changeAir_2 (wh : Int32) (c_1 : wh = 0) : (5 : Int32) = (if wh = 0 then 5 else if wh = 1 then 9 else 0) := by simp_all
set_option maxHeartbeats 4000000 in
set_option maxRecDepth 100000 in
theorem c_X2_changeAir (l : Launch) (G : va_G) (cy : Nat → ClassId) (sk : Nat → Nat) (sz : Nat) (la : Nat) (ld : Nat) (sr : Nat) (tx : Nat) (vl : Nat) (wh : Int32) (v : Int32)  : Met l yX2_changeAir (wsO yX2_changeAir cX2_changeAir 4 (some .int)) ({ frames := 0, cells := 0, slots := 0, locals := 0 }) (va_Pc [.ref la, .int wh, .int v] (PR G cy sk sz [(la, .inr (2, [.int 5, .int 9, .int 0, .ref ld, .ref sr, .ref tx, .ref vl]))])) (va_Qi (fun r (_ : Unit) => r = (if wh = 0 then 5 else if wh = 1 then 9 else 0)) (fun _ _ => True) (va_A [(la, .inr (2, [.int 5, .int 9, .int 0, .ref ld, .ref sr, .ref tx, .ref vl]))] sz)) 0 0 (va_A [(la, .inr (2, [.int 5, .int 9, .int 0, .ref ld, .ref sr, .ref tx, .ref vl]))] sz) := by
  refine mt (by decide) (Nat.le_of_ble_eq_true rfl) ?_
  intro p e s m below meth c ls hx hb hr hml hts hown hlocks hin hsz hP hE hD hl
  subst hsz
  have hl : lv_has ls 4 [(0, .ref la), (1, .int wh), (2, .int v)] := hl
  have hD := hD.self (sz := s.heap.size)
  generalize hAe : va_A [(la, .inr (2, [.int 5, .int 9, .int 0, .ref ld, .ref sr, .ref tx, .ref vl]))] s.heap.size = A at hD ⊢
  have hA : ∀ q : Nat, s.heap.size ≤ q → A q := fun q h => by rw [← hAe]; exact Or.inr h
  have hS : va_S A s.heap s.heap [] := va_S.rf
  refine lv_iload_n hx hb dX2_changeAir_0 rfl (lv_at hl 1 rfl) ?_
  refine lv_if_ne (tgt := 11) hx hb dX2_changeAir_1 (by decide) (fun c_1 => ?_) (fun c_1 => ?_)
  · refine lv_iload_n hx hb dX2_changeAir_11 rfl (lv_at hl 1 rfl) ?_
    refine lv_iconst (v := 1) hx hb dX2_changeAir_12 (by decide) ?_
    refine lv_icmp_ne (tgt := 23) hx hb dX2_changeAir_13 (by decide) (fun c_2 => ?_) (fun c_2 => ?_)
    · refine lv_aload_n hx hb dX2_changeAir_23 rfl (lv_at hl 0 rfl) ?_
      refine va_get (D := G) (ci := 2) (v := .int 0) (C := RX2) (T := TX2) (N := 7) hx hb hts inB2 hown hE.1 hP 0 rfl rfl 2 (by decide) (hts _ m_172) (fun _ h9 => h9) rfl dX2_changeAir_24 ?_
      refine lv_istore_n (lv' := [(3, .int 0), (0, .ref la), (1, .int wh), (2, .int v)]) hx hb dX2_changeAir_27 rfl hl (by decide) rfl (fun ls hl => ?_)
      refine lv_iload_n hx hb dX2_changeAir_28 rfl (lv_at hl 2 rfl) ?_
      refine lv_if_ne (tgt := 40) hx hb dX2_changeAir_29 (by decide) (fun _ => ?_) (fun h9 => absurd h9 c_1)
      refine lv_iload_n hx hb dX2_changeAir_40 rfl (lv_at hl 2 rfl) ?_
      refine lv_iconst (v := 1) hx hb dX2_changeAir_41 (by decide) ?_
      refine lv_icmp_ne (tgt := 53) hx hb dX2_changeAir_42 (by decide) (fun _ => ?_) (fun h9 => absurd h9 c_2)
      refine lv_aload_n hx hb dX2_changeAir_53 rfl (lv_at hl 1 rfl) ?_
      refine lv_iload_n hx hb dX2_changeAir_54 rfl (lv_at hl 3 rfl) ?_
      refine va_put (D := G) (ci := 2) (v := .int v) (ty := .int) (C := RX2) (T := TX2) (N := 7) hx hb hts inB2 tyX2 tyX2_ok nmX2 hown hE.1 hP hD hS 0 rfl rfl 2 (by decide) (hts _ m_172) (fun _ h9 => h9) rfl (by decide +kernel) rfl rfl (Nat.le_of_ble_eq_true rfl) dX2_changeAir_55 (fun H locs hP hD hS => ?_)
      have hP : va_P G classes [(la, .inr (2, [.int 5, .int 9, .int v, .ref ld, .ref sr, .ref tx, .ref vl]))] H := hP
      have hD : va_D A [(la, .inr (2, [.int 5, .int 9, .int v, .ref ld, .ref sr, .ref tx, .ref vl]))] := hD
      refine lv_iload_n hx hb dX2_changeAir_58 rfl (lv_at hl 0 rfl) ?_
      refine W.widen (k := 0) (n := 0) (by first | exact Nat.le_of_ble_eq_true rfl | omega) (by first | exact Nat.le_of_ble_eq_true rfl | omega) ?_
      exact W.iret (v := 0) hx hb hr (fun t ht hW => ⟨⟨0, (), rfl, (lf_c_X2_changeAir_0 wh c_1 c_2), trivial⟩, hS.F ht⟩) hS.2.2 dX2_changeAir_59
    · refine lv_aload_n hx hb dX2_changeAir_16 rfl (lv_at hl 0 rfl) ?_
      refine va_get (D := G) (ci := 2) (v := .int 9) (C := RX2) (T := TX2) (N := 7) hx hb hts inB2 hown hE.1 hP 0 rfl rfl 1 (by decide) (hts _ m_171) (fun _ h9 => h9) rfl dX2_changeAir_17 ?_
      refine lv_goto (tgt := 27) hx hb dX2_changeAir_20 (by decide) ?_
      refine lv_istore_n (lv' := [(3, .int 9), (0, .ref la), (1, .int wh), (2, .int v)]) hx hb dX2_changeAir_27 rfl hl (by decide) rfl (fun ls hl => ?_)
      refine lv_iload_n hx hb dX2_changeAir_28 rfl (lv_at hl 2 rfl) ?_
      refine lv_if_ne (tgt := 40) hx hb dX2_changeAir_29 (by decide) (fun _ => ?_) (fun h9 => absurd h9 c_1)
      refine lv_iload_n hx hb dX2_changeAir_40 rfl (lv_at hl 2 rfl) ?_
      refine lv_iconst (v := 1) hx hb dX2_changeAir_41 (by decide) ?_
      refine lv_icmp_ne (tgt := 53) hx hb dX2_changeAir_42 (by decide) (fun h9 => absurd c_2 h9) (fun _ => ?_)
      refine lv_aload_n hx hb dX2_changeAir_45 rfl (lv_at hl 1 rfl) ?_
      refine lv_iload_n hx hb dX2_changeAir_46 rfl (lv_at hl 3 rfl) ?_
      refine va_put (D := G) (ci := 2) (v := .int v) (ty := .int) (C := RX2) (T := TX2) (N := 7) hx hb hts inB2 tyX2 tyX2_ok nmX2 hown hE.1 hP hD hS 0 rfl rfl 1 (by decide) (hts _ m_171) (fun _ h9 => h9) rfl (by decide +kernel) rfl rfl (Nat.le_of_ble_eq_true rfl) dX2_changeAir_47 (fun H locs hP hD hS => ?_)
      have hP : va_P G classes [(la, .inr (2, [.int 5, .int v, .int 0, .ref ld, .ref sr, .ref tx, .ref vl]))] H := hP
      have hD : va_D A [(la, .inr (2, [.int 5, .int v, .int 0, .ref ld, .ref sr, .ref tx, .ref vl]))] := hD
      refine lv_goto (tgt := 58) hx hb dX2_changeAir_50 (by decide) ?_
      refine lv_iload_n hx hb dX2_changeAir_58 rfl (lv_at hl 0 rfl) ?_
      refine W.widen (k := 0) (n := 0) (by first | exact Nat.le_of_ble_eq_true rfl | omega) (by first | exact Nat.le_of_ble_eq_true rfl | omega) ?_
      exact W.iret (v := 9) hx hb hr (fun t ht hW => ⟨⟨9, (), rfl, (lf_c_X2_changeAir_1 wh c_1 c_2), trivial⟩, hS.F ht⟩) hS.2.2 dX2_changeAir_59
  · refine lv_aload_n hx hb dX2_changeAir_4 rfl (lv_at hl 0 rfl) ?_
    refine va_get (D := G) (ci := 2) (v := .int 5) (C := RX2) (T := TX2) (N := 7) hx hb hts inB2 hown hE.1 hP 0 rfl rfl 0 (by decide) (hts _ m_170) (fun _ h9 => h9) rfl dX2_changeAir_5 ?_
    refine lv_goto (tgt := 27) hx hb dX2_changeAir_8 (by decide) ?_
    refine lv_istore_n (lv' := [(3, .int 5), (0, .ref la), (1, .int wh), (2, .int v)]) hx hb dX2_changeAir_27 rfl hl (by decide) rfl (fun ls hl => ?_)
    refine lv_iload_n hx hb dX2_changeAir_28 rfl (lv_at hl 2 rfl) ?_
    refine lv_if_ne (tgt := 40) hx hb dX2_changeAir_29 (by decide) (fun h9 => absurd c_1 h9) (fun _ => ?_)
    refine lv_aload_n hx hb dX2_changeAir_32 rfl (lv_at hl 1 rfl) ?_
    refine lv_iload_n hx hb dX2_changeAir_33 rfl (lv_at hl 3 rfl) ?_
    refine va_put (D := G) (ci := 2) (v := .int v) (ty := .int) (C := RX2) (T := TX2) (N := 7) hx hb hts inB2 tyX2 tyX2_ok nmX2 hown hE.1 hP hD hS 0 rfl rfl 0 (by decide) (hts _ m_170) (fun _ h9 => h9) rfl (by decide +kernel) rfl rfl (Nat.le_of_ble_eq_true rfl) dX2_changeAir_34 (fun H locs hP hD hS => ?_)
    have hP : va_P G classes [(la, .inr (2, [.int v, .int 9, .int 0, .ref ld, .ref sr, .ref tx, .ref vl]))] H := hP
    have hD : va_D A [(la, .inr (2, [.int v, .int 9, .int 0, .ref ld, .ref sr, .ref tx, .ref vl]))] := hD
    refine lv_goto (tgt := 58) hx hb dX2_changeAir_37 (by decide) ?_
    refine lv_iload_n hx hb dX2_changeAir_58 rfl (lv_at hl 0 rfl) ?_
    refine W.widen (k := 0) (n := 0) (by first | exact Nat.le_of_ble_eq_true rfl | omega) (by first | exact Nat.le_of_ble_eq_true rfl | omega) ?_
    exact W.iret (v := 5) hx hb hr (fun t ht hW => ⟨⟨5, (), rfl, (lf_c_X2_changeAir_2 wh c_1), trivial⟩, hS.F ht⟩) hS.2.2 dX2_changeAir_59
set_option maxHeartbeats 4000000 in
set_option maxRecDepth 100000 in
theorem c_X2_takeFrom (l : Launch) (G : va_G) (cy : Nat → ClassId) (sk : Nat → Nat) (sz : Nat) (la : Nat) (ld : Nat) (sr : Nat) (tx : Nat) (vl : Nat) (f0 : Nat) (f1 : Nat) (f2 : Nat) (c0 : Nat) (c1 : Nat) (c2 : Nat) (k0 : Nat) (k1 : Nat) (k2 : Nat) (fl : Nat → Int32) (gt : Nat → Option Nat) (pla : Nat) (pld : Nat) (psr : Nat) (ptx : Nat) (pvl : Nat) (pf0 : Nat) (pf1 : Nat) (pf2 : Nat) (pc0 : Nat) (pc1 : Nat) (pc2 : Nat) (pk0 : Nat) (pk1 : Nat) (pk2 : Nat) (pfl : Nat → Int32) (pgt : Nat → Option Nat) (hg0 : gt 0 = some f0) (hg1 : gt 1 = some f1) (hg2 : gt 2 = some f2) (ig0 : pgt 0 = some pf0) (ig1 : pgt 1 = some pf1) (ig2 : pgt 2 = some pf2) : Met l yX2_takeFrom (wsO yX2_takeFrom cX2_takeFrom 3 none) ({ frames := 2, cells := 0, slots := 0, locals := 61 }) (va_Pc [.ref la, .ref pla] (PR G cy sk sz [(la, .inr (2, [.int 5, .int 9, .int 0, .ref ld, .ref sr, .ref tx, .ref vl])), (ld, .inl (cy 0, 5, .inl fl)), (sr, .inl (cy 0, 5, .inl (fun _ => 0))), (tx, .inl (cy 3, 3, .inr (.inr (.inr (.inr gt))))), (f0, .inr (1, [.ref c0, .ref k0, .int 0])), (c0, .inl (cy 0, 48, .inl (fun _ => 0))), (f1, .inr (1, [.ref c1, .ref k1, .int 0])), (c1, .inl (cy 0, 48, .inl (fun _ => 0))), (f2, .inr (1, [.ref c2, .ref k2, .int 0])), (c2, .inl (cy 0, 48, .inl (fun _ => 0))), (pla, .inr (2, [.int 5, .int 9, .int 0, .ref pld, .ref psr, .ref ptx, .ref pvl])), (pld, .inl (cy 0, 5, .inl pfl)), (psr, .inl (cy 0, 5, .inl (fun _ => 0))), (ptx, .inl (cy 3, 3, .inr (.inr (.inr (.inr pgt))))), (pf0, .inr (1, [.ref pc0, .ref pk0, .int 0])), (pc0, .inl (cy 0, 48, .inl (fun _ => 0))), (pf1, .inr (1, [.ref pc1, .ref pk1, .int 0])), (pc1, .inl (cy 0, 48, .inl (fun _ => 0))), (pf2, .inr (1, [.ref pc2, .ref pk2, .int 0])), (pc2, .inl (cy 0, 48, .inl (fun _ => 0)))])) (va_Qv (fun (_ : Unit) => True) (fun _ _ => True) (va_A [(la, .inr (2, [.int 5, .int 9, .int 0, .ref ld, .ref sr, .ref tx, .ref vl])), (ld, .inl (cy 0, 5, .inl fl)), (sr, .inl (cy 0, 5, .inl (fun _ => 0))), (tx, .inl (cy 3, 3, .inr (.inr (.inr (.inr gt))))), (f0, .inr (1, [.ref c0, .ref k0, .int 0])), (c0, .inl (cy 0, 48, .inl (fun _ => 0))), (f1, .inr (1, [.ref c1, .ref k1, .int 0])), (c1, .inl (cy 0, 48, .inl (fun _ => 0))), (f2, .inr (1, [.ref c2, .ref k2, .int 0])), (c2, .inl (cy 0, 48, .inl (fun _ => 0))), (pla, .inr (2, [.int 5, .int 9, .int 0, .ref pld, .ref psr, .ref ptx, .ref pvl])), (pld, .inl (cy 0, 5, .inl pfl)), (psr, .inl (cy 0, 5, .inl (fun _ => 0))), (ptx, .inl (cy 3, 3, .inr (.inr (.inr (.inr pgt))))), (pf0, .inr (1, [.ref pc0, .ref pk0, .int 0])), (pc0, .inl (cy 0, 48, .inl (fun _ => 0))), (pf1, .inr (1, [.ref pc1, .ref pk1, .int 0])), (pc1, .inl (cy 0, 48, .inl (fun _ => 0))), (pf2, .inr (1, [.ref pc2, .ref pk2, .int 0])), (pc2, .inl (cy 0, 48, .inl (fun _ => 0)))] sz)) 0 0 (va_A [(la, .inr (2, [.int 5, .int 9, .int 0, .ref ld, .ref sr, .ref tx, .ref vl])), (ld, .inl (cy 0, 5, .inl fl)), (sr, .inl (cy 0, 5, .inl (fun _ => 0))), (tx, .inl (cy 3, 3, .inr (.inr (.inr (.inr gt))))), (f0, .inr (1, [.ref c0, .ref k0, .int 0])), (c0, .inl (cy 0, 48, .inl (fun _ => 0))), (f1, .inr (1, [.ref c1, .ref k1, .int 0])), (c1, .inl (cy 0, 48, .inl (fun _ => 0))), (f2, .inr (1, [.ref c2, .ref k2, .int 0])), (c2, .inl (cy 0, 48, .inl (fun _ => 0))), (pla, .inr (2, [.int 5, .int 9, .int 0, .ref pld, .ref psr, .ref ptx, .ref pvl])), (pld, .inl (cy 0, 5, .inl pfl)), (psr, .inl (cy 0, 5, .inl (fun _ => 0))), (ptx, .inl (cy 3, 3, .inr (.inr (.inr (.inr pgt))))), (pf0, .inr (1, [.ref pc0, .ref pk0, .int 0])), (pc0, .inl (cy 0, 48, .inl (fun _ => 0))), (pf1, .inr (1, [.ref pc1, .ref pk1, .int 0])), (pc1, .inl (cy 0, 48, .inl (fun _ => 0))), (pf2, .inr (1, [.ref pc2, .ref pk2, .int 0])), (pc2, .inl (cy 0, 48, .inl (fun _ => 0)))] sz) := by
  refine mt (by decide) (Nat.le_of_ble_eq_true rfl) ?_
  intro p e s m below meth c ls hx hb hr hml hts hown hlocks hin hsz hP hE hD hl
  subst hsz
  have hl : lv_has ls 3 [(0, .ref la), (1, .ref pla)] := hl
  have hD := hD.self (sz := s.heap.size)
  generalize hAe : va_A [(la, .inr (2, [.int 5, .int 9, .int 0, .ref ld, .ref sr, .ref tx, .ref vl])), (ld, .inl (cy 0, 5, .inl fl)), (sr, .inl (cy 0, 5, .inl (fun _ => 0))), (tx, .inl (cy 3, 3, .inr (.inr (.inr (.inr gt))))), (f0, .inr (1, [.ref c0, .ref k0, .int 0])), (c0, .inl (cy 0, 48, .inl (fun _ => 0))), (f1, .inr (1, [.ref c1, .ref k1, .int 0])), (c1, .inl (cy 0, 48, .inl (fun _ => 0))), (f2, .inr (1, [.ref c2, .ref k2, .int 0])), (c2, .inl (cy 0, 48, .inl (fun _ => 0))), (pla, .inr (2, [.int 5, .int 9, .int 0, .ref pld, .ref psr, .ref ptx, .ref pvl])), (pld, .inl (cy 0, 5, .inl pfl)), (psr, .inl (cy 0, 5, .inl (fun _ => 0))), (ptx, .inl (cy 3, 3, .inr (.inr (.inr (.inr pgt))))), (pf0, .inr (1, [.ref pc0, .ref pk0, .int 0])), (pc0, .inl (cy 0, 48, .inl (fun _ => 0))), (pf1, .inr (1, [.ref pc1, .ref pk1, .int 0])), (pc1, .inl (cy 0, 48, .inl (fun _ => 0))), (pf2, .inr (1, [.ref pc2, .ref pk2, .int 0])), (pc2, .inl (cy 0, 48, .inl (fun _ => 0)))] s.heap.size = A at hD ⊢
  have hA : ∀ q : Nat, s.heap.size ≤ q → A q := fun q h => by rw [← hAe]; exact Or.inr h
  have hS : va_S A s.heap s.heap [] := va_S.rf
  refine lv_aload_n hx hb dX2_takeFrom_0 rfl (lv_at hl 0 rfl) ?_
  refine lv_aload_n hx hb dX2_takeFrom_1 rfl (lv_at hl 1 rfl) ?_
  refine va_get (D := G) (ci := 2) (v := .int 5) (C := RX2) (T := TX2) (N := 7) hx hb hts inB2 hown hE.1 hP 10 rfl rfl 0 (by decide) (hts _ m_170) (fun _ h9 => h9) rfl dX2_takeFrom_2 ?_
  refine va_put (D := G) (ci := 2) (v := .int 5) (ty := .int) (C := RX2) (T := TX2) (N := 7) hx hb hts inB2 tyX2 tyX2_ok nmX2 hown hE.1 hP hD hS 0 rfl rfl 0 (by decide) (hts _ m_170) (fun _ h9 => h9) rfl (by decide +kernel) rfl rfl (Nat.le_of_ble_eq_true rfl) dX2_takeFrom_5 (fun H locs hP hD hS => ?_)
  have hP : va_P G classes [(la, .inr (2, [.int 5, .int 9, .int 0, .ref ld, .ref sr, .ref tx, .ref vl])), (ld, .inl (cy 0, 5, .inl fl)), (sr, .inl (cy 0, 5, .inl (fun _ => 0))), (tx, .inl (cy 3, 3, .inr (.inr (.inr (.inr gt))))), (f0, .inr (1, [.ref c0, .ref k0, .int 0])), (c0, .inl (cy 0, 48, .inl (fun _ => 0))), (f1, .inr (1, [.ref c1, .ref k1, .int 0])), (c1, .inl (cy 0, 48, .inl (fun _ => 0))), (f2, .inr (1, [.ref c2, .ref k2, .int 0])), (c2, .inl (cy 0, 48, .inl (fun _ => 0))), (pla, .inr (2, [.int 5, .int 9, .int 0, .ref pld, .ref psr, .ref ptx, .ref pvl])), (pld, .inl (cy 0, 5, .inl pfl)), (psr, .inl (cy 0, 5, .inl (fun _ => 0))), (ptx, .inl (cy 3, 3, .inr (.inr (.inr (.inr pgt))))), (pf0, .inr (1, [.ref pc0, .ref pk0, .int 0])), (pc0, .inl (cy 0, 48, .inl (fun _ => 0))), (pf1, .inr (1, [.ref pc1, .ref pk1, .int 0])), (pc1, .inl (cy 0, 48, .inl (fun _ => 0))), (pf2, .inr (1, [.ref pc2, .ref pk2, .int 0])), (pc2, .inl (cy 0, 48, .inl (fun _ => 0)))] H := hP
  have hD : va_D A [(la, .inr (2, [.int 5, .int 9, .int 0, .ref ld, .ref sr, .ref tx, .ref vl])), (ld, .inl (cy 0, 5, .inl fl)), (sr, .inl (cy 0, 5, .inl (fun _ => 0))), (tx, .inl (cy 3, 3, .inr (.inr (.inr (.inr gt))))), (f0, .inr (1, [.ref c0, .ref k0, .int 0])), (c0, .inl (cy 0, 48, .inl (fun _ => 0))), (f1, .inr (1, [.ref c1, .ref k1, .int 0])), (c1, .inl (cy 0, 48, .inl (fun _ => 0))), (f2, .inr (1, [.ref c2, .ref k2, .int 0])), (c2, .inl (cy 0, 48, .inl (fun _ => 0))), (pla, .inr (2, [.int 5, .int 9, .int 0, .ref pld, .ref psr, .ref ptx, .ref pvl])), (pld, .inl (cy 0, 5, .inl pfl)), (psr, .inl (cy 0, 5, .inl (fun _ => 0))), (ptx, .inl (cy 3, 3, .inr (.inr (.inr (.inr pgt))))), (pf0, .inr (1, [.ref pc0, .ref pk0, .int 0])), (pc0, .inl (cy 0, 48, .inl (fun _ => 0))), (pf1, .inr (1, [.ref pc1, .ref pk1, .int 0])), (pc1, .inl (cy 0, 48, .inl (fun _ => 0))), (pf2, .inr (1, [.ref pc2, .ref pk2, .int 0])), (pc2, .inl (cy 0, 48, .inl (fun _ => 0)))] := hD
  refine lv_aload_n hx hb dX2_takeFrom_8 rfl (lv_at hl 0 rfl) ?_
  refine lv_aload_n hx hb dX2_takeFrom_9 rfl (lv_at hl 1 rfl) ?_
  refine va_get (D := G) (ci := 2) (v := .int 9) (C := RX2) (T := TX2) (N := 7) hx hb hts inB2 hown hE.1 hP 10 rfl rfl 1 (by decide) (hts _ m_171) (fun _ h9 => h9) rfl dX2_takeFrom_10 ?_
  refine va_put (D := G) (ci := 2) (v := .int 9) (ty := .int) (C := RX2) (T := TX2) (N := 7) hx hb hts inB2 tyX2 tyX2_ok nmX2 hown hE.1 hP hD hS 0 rfl rfl 1 (by decide) (hts _ m_171) (fun _ h9 => h9) rfl (by decide +kernel) rfl rfl (Nat.le_of_ble_eq_true rfl) dX2_takeFrom_13 (fun H locs hP hD hS => ?_)
  have hP : va_P G classes [(la, .inr (2, [.int 5, .int 9, .int 0, .ref ld, .ref sr, .ref tx, .ref vl])), (ld, .inl (cy 0, 5, .inl fl)), (sr, .inl (cy 0, 5, .inl (fun _ => 0))), (tx, .inl (cy 3, 3, .inr (.inr (.inr (.inr gt))))), (f0, .inr (1, [.ref c0, .ref k0, .int 0])), (c0, .inl (cy 0, 48, .inl (fun _ => 0))), (f1, .inr (1, [.ref c1, .ref k1, .int 0])), (c1, .inl (cy 0, 48, .inl (fun _ => 0))), (f2, .inr (1, [.ref c2, .ref k2, .int 0])), (c2, .inl (cy 0, 48, .inl (fun _ => 0))), (pla, .inr (2, [.int 5, .int 9, .int 0, .ref pld, .ref psr, .ref ptx, .ref pvl])), (pld, .inl (cy 0, 5, .inl pfl)), (psr, .inl (cy 0, 5, .inl (fun _ => 0))), (ptx, .inl (cy 3, 3, .inr (.inr (.inr (.inr pgt))))), (pf0, .inr (1, [.ref pc0, .ref pk0, .int 0])), (pc0, .inl (cy 0, 48, .inl (fun _ => 0))), (pf1, .inr (1, [.ref pc1, .ref pk1, .int 0])), (pc1, .inl (cy 0, 48, .inl (fun _ => 0))), (pf2, .inr (1, [.ref pc2, .ref pk2, .int 0])), (pc2, .inl (cy 0, 48, .inl (fun _ => 0)))] H := hP
  have hD : va_D A [(la, .inr (2, [.int 5, .int 9, .int 0, .ref ld, .ref sr, .ref tx, .ref vl])), (ld, .inl (cy 0, 5, .inl fl)), (sr, .inl (cy 0, 5, .inl (fun _ => 0))), (tx, .inl (cy 3, 3, .inr (.inr (.inr (.inr gt))))), (f0, .inr (1, [.ref c0, .ref k0, .int 0])), (c0, .inl (cy 0, 48, .inl (fun _ => 0))), (f1, .inr (1, [.ref c1, .ref k1, .int 0])), (c1, .inl (cy 0, 48, .inl (fun _ => 0))), (f2, .inr (1, [.ref c2, .ref k2, .int 0])), (c2, .inl (cy 0, 48, .inl (fun _ => 0))), (pla, .inr (2, [.int 5, .int 9, .int 0, .ref pld, .ref psr, .ref ptx, .ref pvl])), (pld, .inl (cy 0, 5, .inl pfl)), (psr, .inl (cy 0, 5, .inl (fun _ => 0))), (ptx, .inl (cy 3, 3, .inr (.inr (.inr (.inr pgt))))), (pf0, .inr (1, [.ref pc0, .ref pk0, .int 0])), (pc0, .inl (cy 0, 48, .inl (fun _ => 0))), (pf1, .inr (1, [.ref pc1, .ref pk1, .int 0])), (pc1, .inl (cy 0, 48, .inl (fun _ => 0))), (pf2, .inr (1, [.ref pc2, .ref pk2, .int 0])), (pc2, .inl (cy 0, 48, .inl (fun _ => 0)))] := hD
  refine lv_aload_n hx hb dX2_takeFrom_16 rfl (lv_at hl 0 rfl) ?_
  refine lv_aload_n hx hb dX2_takeFrom_17 rfl (lv_at hl 1 rfl) ?_
  refine va_get (D := G) (ci := 2) (v := .int 0) (C := RX2) (T := TX2) (N := 7) hx hb hts inB2 hown hE.1 hP 10 rfl rfl 2 (by decide) (hts _ m_172) (fun _ h9 => h9) rfl dX2_takeFrom_18 ?_
  refine va_put (D := G) (ci := 2) (v := .int 0) (ty := .int) (C := RX2) (T := TX2) (N := 7) hx hb hts inB2 tyX2 tyX2_ok nmX2 hown hE.1 hP hD hS 0 rfl rfl 2 (by decide) (hts _ m_172) (fun _ h9 => h9) rfl (by decide +kernel) rfl rfl (Nat.le_of_ble_eq_true rfl) dX2_takeFrom_21 (fun H locs hP hD hS => ?_)
  have hP : va_P G classes [(la, .inr (2, [.int 5, .int 9, .int 0, .ref ld, .ref sr, .ref tx, .ref vl])), (ld, .inl (cy 0, 5, .inl fl)), (sr, .inl (cy 0, 5, .inl (fun _ => 0))), (tx, .inl (cy 3, 3, .inr (.inr (.inr (.inr gt))))), (f0, .inr (1, [.ref c0, .ref k0, .int 0])), (c0, .inl (cy 0, 48, .inl (fun _ => 0))), (f1, .inr (1, [.ref c1, .ref k1, .int 0])), (c1, .inl (cy 0, 48, .inl (fun _ => 0))), (f2, .inr (1, [.ref c2, .ref k2, .int 0])), (c2, .inl (cy 0, 48, .inl (fun _ => 0))), (pla, .inr (2, [.int 5, .int 9, .int 0, .ref pld, .ref psr, .ref ptx, .ref pvl])), (pld, .inl (cy 0, 5, .inl pfl)), (psr, .inl (cy 0, 5, .inl (fun _ => 0))), (ptx, .inl (cy 3, 3, .inr (.inr (.inr (.inr pgt))))), (pf0, .inr (1, [.ref pc0, .ref pk0, .int 0])), (pc0, .inl (cy 0, 48, .inl (fun _ => 0))), (pf1, .inr (1, [.ref pc1, .ref pk1, .int 0])), (pc1, .inl (cy 0, 48, .inl (fun _ => 0))), (pf2, .inr (1, [.ref pc2, .ref pk2, .int 0])), (pc2, .inl (cy 0, 48, .inl (fun _ => 0)))] H := hP
  have hD : va_D A [(la, .inr (2, [.int 5, .int 9, .int 0, .ref ld, .ref sr, .ref tx, .ref vl])), (ld, .inl (cy 0, 5, .inl fl)), (sr, .inl (cy 0, 5, .inl (fun _ => 0))), (tx, .inl (cy 3, 3, .inr (.inr (.inr (.inr gt))))), (f0, .inr (1, [.ref c0, .ref k0, .int 0])), (c0, .inl (cy 0, 48, .inl (fun _ => 0))), (f1, .inr (1, [.ref c1, .ref k1, .int 0])), (c1, .inl (cy 0, 48, .inl (fun _ => 0))), (f2, .inr (1, [.ref c2, .ref k2, .int 0])), (c2, .inl (cy 0, 48, .inl (fun _ => 0))), (pla, .inr (2, [.int 5, .int 9, .int 0, .ref pld, .ref psr, .ref ptx, .ref pvl])), (pld, .inl (cy 0, 5, .inl pfl)), (psr, .inl (cy 0, 5, .inl (fun _ => 0))), (ptx, .inl (cy 3, 3, .inr (.inr (.inr (.inr pgt))))), (pf0, .inr (1, [.ref pc0, .ref pk0, .int 0])), (pc0, .inl (cy 0, 48, .inl (fun _ => 0))), (pf1, .inr (1, [.ref pc1, .ref pk1, .int 0])), (pc1, .inl (cy 0, 48, .inl (fun _ => 0))), (pf2, .inr (1, [.ref pc2, .ref pk2, .int 0])), (pc2, .inl (cy 0, 48, .inl (fun _ => 0)))] := hD
  refine lv_aload_n hx hb dX2_takeFrom_24 rfl (lv_at hl 1 rfl) ?_
  refine va_get (D := G) (ci := 2) (v := .ref pld) (C := RX2) (T := TX2) (N := 7) hx hb hts inB2 hown hE.1 hP 10 rfl rfl 3 (by decide) (hts _ m_173) (fun _ h9 => h9) rfl dX2_takeFrom_25 ?_
  refine lv_iconst (v := 0) hx hb dX2_takeFrom_28 (by decide) ?_
  refine lv_aload_n hx hb dX2_takeFrom_29 rfl (lv_at hl 0 rfl) ?_
  refine va_get (D := G) (ci := 2) (v := .ref ld) (C := RX2) (T := TX2) (N := 7) hx hb hts inB2 hown hE.1 hP 0 rfl rfl 3 (by decide) (hts _ m_173) (fun _ h9 => h9) rfl dX2_takeFrom_30 ?_
  refine lv_iconst (v := 0) hx hb dX2_takeFrom_33 (by decide) ?_
  refine lv_iconst (v := 5) hx hb dX2_takeFrom_34 (by decide) ?_
  refine va_copyi (ty := .int) hx hb (hml.trans hl.1.symm) hown (hts _ m_1267) (hts _ m_830) (hts _ m_829) (hts _ m_98) hE.1 hP hD hS 11 1 0 0 rfl rfl rfl rfl rfl (by decide) (by decide) (by decide) (by decide) (by decide) (fun _ _ => rfl) (Nat.le_of_ble_eq_true rfl) (Nat.le_of_ble_eq_true rfl) dX2_takeFrom_35 (fun H locs hP hD hS => ?_)
  have hP : va_P G classes [(la, .inr (2, [.int 5, .int 9, .int 0, .ref ld, .ref sr, .ref tx, .ref vl])), (ld, .inl (cy 0, 5, .inl (va_cpy pfl fl 0 0 5))), (sr, .inl (cy 0, 5, .inl (fun _ => 0))), (tx, .inl (cy 3, 3, .inr (.inr (.inr (.inr gt))))), (f0, .inr (1, [.ref c0, .ref k0, .int 0])), (c0, .inl (cy 0, 48, .inl (fun _ => 0))), (f1, .inr (1, [.ref c1, .ref k1, .int 0])), (c1, .inl (cy 0, 48, .inl (fun _ => 0))), (f2, .inr (1, [.ref c2, .ref k2, .int 0])), (c2, .inl (cy 0, 48, .inl (fun _ => 0))), (pla, .inr (2, [.int 5, .int 9, .int 0, .ref pld, .ref psr, .ref ptx, .ref pvl])), (pld, .inl (cy 0, 5, .inl pfl)), (psr, .inl (cy 0, 5, .inl (fun _ => 0))), (ptx, .inl (cy 3, 3, .inr (.inr (.inr (.inr pgt))))), (pf0, .inr (1, [.ref pc0, .ref pk0, .int 0])), (pc0, .inl (cy 0, 48, .inl (fun _ => 0))), (pf1, .inr (1, [.ref pc1, .ref pk1, .int 0])), (pc1, .inl (cy 0, 48, .inl (fun _ => 0))), (pf2, .inr (1, [.ref pc2, .ref pk2, .int 0])), (pc2, .inl (cy 0, 48, .inl (fun _ => 0)))] H := hP
  have hD : va_D A [(la, .inr (2, [.int 5, .int 9, .int 0, .ref ld, .ref sr, .ref tx, .ref vl])), (ld, .inl (cy 0, 5, .inl (va_cpy pfl fl 0 0 5))), (sr, .inl (cy 0, 5, .inl (fun _ => 0))), (tx, .inl (cy 3, 3, .inr (.inr (.inr (.inr gt))))), (f0, .inr (1, [.ref c0, .ref k0, .int 0])), (c0, .inl (cy 0, 48, .inl (fun _ => 0))), (f1, .inr (1, [.ref c1, .ref k1, .int 0])), (c1, .inl (cy 0, 48, .inl (fun _ => 0))), (f2, .inr (1, [.ref c2, .ref k2, .int 0])), (c2, .inl (cy 0, 48, .inl (fun _ => 0))), (pla, .inr (2, [.int 5, .int 9, .int 0, .ref pld, .ref psr, .ref ptx, .ref pvl])), (pld, .inl (cy 0, 5, .inl pfl)), (psr, .inl (cy 0, 5, .inl (fun _ => 0))), (ptx, .inl (cy 3, 3, .inr (.inr (.inr (.inr pgt))))), (pf0, .inr (1, [.ref pc0, .ref pk0, .int 0])), (pc0, .inl (cy 0, 48, .inl (fun _ => 0))), (pf1, .inr (1, [.ref pc1, .ref pk1, .int 0])), (pc1, .inl (cy 0, 48, .inl (fun _ => 0))), (pf2, .inr (1, [.ref pc2, .ref pk2, .int 0])), (pc2, .inl (cy 0, 48, .inl (fun _ => 0)))] := hD
  obtain ⟨xf1, hP, hD⟩ : ∃ xf1, va_P G classes [(la, .inr (2, [.int 5, .int 9, .int 0, .ref ld, .ref sr, .ref tx, .ref vl])), (ld, .inl (cy 0, 5, .inl xf1)), (sr, .inl (cy 0, 5, .inl (fun _ => 0))), (tx, .inl (cy 3, 3, .inr (.inr (.inr (.inr gt))))), (f0, .inr (1, [.ref c0, .ref k0, .int 0])), (c0, .inl (cy 0, 48, .inl (fun _ => 0))), (f1, .inr (1, [.ref c1, .ref k1, .int 0])), (c1, .inl (cy 0, 48, .inl (fun _ => 0))), (f2, .inr (1, [.ref c2, .ref k2, .int 0])), (c2, .inl (cy 0, 48, .inl (fun _ => 0))), (pla, .inr (2, [.int 5, .int 9, .int 0, .ref pld, .ref psr, .ref ptx, .ref pvl])), (pld, .inl (cy 0, 5, .inl pfl)), (psr, .inl (cy 0, 5, .inl (fun _ => 0))), (ptx, .inl (cy 3, 3, .inr (.inr (.inr (.inr pgt))))), (pf0, .inr (1, [.ref pc0, .ref pk0, .int 0])), (pc0, .inl (cy 0, 48, .inl (fun _ => 0))), (pf1, .inr (1, [.ref pc1, .ref pk1, .int 0])), (pc1, .inl (cy 0, 48, .inl (fun _ => 0))), (pf2, .inr (1, [.ref pc2, .ref pk2, .int 0])), (pc2, .inl (cy 0, 48, .inl (fun _ => 0)))] H ∧ va_D A [(la, .inr (2, [.int 5, .int 9, .int 0, .ref ld, .ref sr, .ref tx, .ref vl])), (ld, .inl (cy 0, 5, .inl xf1)), (sr, .inl (cy 0, 5, .inl (fun _ => 0))), (tx, .inl (cy 3, 3, .inr (.inr (.inr (.inr gt))))), (f0, .inr (1, [.ref c0, .ref k0, .int 0])), (c0, .inl (cy 0, 48, .inl (fun _ => 0))), (f1, .inr (1, [.ref c1, .ref k1, .int 0])), (c1, .inl (cy 0, 48, .inl (fun _ => 0))), (f2, .inr (1, [.ref c2, .ref k2, .int 0])), (c2, .inl (cy 0, 48, .inl (fun _ => 0))), (pla, .inr (2, [.int 5, .int 9, .int 0, .ref pld, .ref psr, .ref ptx, .ref pvl])), (pld, .inl (cy 0, 5, .inl pfl)), (psr, .inl (cy 0, 5, .inl (fun _ => 0))), (ptx, .inl (cy 3, 3, .inr (.inr (.inr (.inr pgt))))), (pf0, .inr (1, [.ref pc0, .ref pk0, .int 0])), (pc0, .inl (cy 0, 48, .inl (fun _ => 0))), (pf1, .inr (1, [.ref pc1, .ref pk1, .int 0])), (pc1, .inl (cy 0, 48, .inl (fun _ => 0))), (pf2, .inr (1, [.ref pc2, .ref pk2, .int 0])), (pc2, .inl (cy 0, 48, .inl (fun _ => 0)))] := ⟨_, hP, hD⟩
  refine lv_aload_n hx hb dX2_takeFrom_38 rfl (lv_at hl 1 rfl) ?_
  refine va_get (D := G) (ci := 2) (v := .ref psr) (C := RX2) (T := TX2) (N := 7) hx hb hts inB2 hown hE.1 hP 10 rfl rfl 4 (by decide) (hts _ m_174) (fun _ h9 => h9) rfl dX2_takeFrom_39 ?_
  refine lv_iconst (v := 0) hx hb dX2_takeFrom_42 (by decide) ?_
  refine lv_aload_n hx hb dX2_takeFrom_43 rfl (lv_at hl 0 rfl) ?_
  refine va_get (D := G) (ci := 2) (v := .ref sr) (C := RX2) (T := TX2) (N := 7) hx hb hts inB2 hown hE.1 hP 0 rfl rfl 4 (by decide) (hts _ m_174) (fun _ h9 => h9) rfl dX2_takeFrom_44 ?_
  refine lv_iconst (v := 0) hx hb dX2_takeFrom_47 (by decide) ?_
  refine lv_iconst (v := 5) hx hb dX2_takeFrom_48 (by decide) ?_
  refine va_copyi (ty := .int) hx hb (hml.trans hl.1.symm) hown (hts _ m_1267) (hts _ m_830) (hts _ m_829) (hts _ m_98) hE.1 hP hD hS 12 2 0 0 rfl rfl rfl rfl rfl (by decide) (by decide) (by decide) (by decide) (by decide) (fun _ _ => rfl) (Nat.le_of_ble_eq_true rfl) (Nat.le_of_ble_eq_true rfl) dX2_takeFrom_49 (fun H locs hP hD hS => ?_)
  have hP : va_P G classes [(la, .inr (2, [.int 5, .int 9, .int 0, .ref ld, .ref sr, .ref tx, .ref vl])), (ld, .inl (cy 0, 5, .inl xf1)), (sr, .inl (cy 0, 5, .inl (va_cpy (fun _ => 0) (fun _ => 0) 0 0 5))), (tx, .inl (cy 3, 3, .inr (.inr (.inr (.inr gt))))), (f0, .inr (1, [.ref c0, .ref k0, .int 0])), (c0, .inl (cy 0, 48, .inl (fun _ => 0))), (f1, .inr (1, [.ref c1, .ref k1, .int 0])), (c1, .inl (cy 0, 48, .inl (fun _ => 0))), (f2, .inr (1, [.ref c2, .ref k2, .int 0])), (c2, .inl (cy 0, 48, .inl (fun _ => 0))), (pla, .inr (2, [.int 5, .int 9, .int 0, .ref pld, .ref psr, .ref ptx, .ref pvl])), (pld, .inl (cy 0, 5, .inl pfl)), (psr, .inl (cy 0, 5, .inl (fun _ => 0))), (ptx, .inl (cy 3, 3, .inr (.inr (.inr (.inr pgt))))), (pf0, .inr (1, [.ref pc0, .ref pk0, .int 0])), (pc0, .inl (cy 0, 48, .inl (fun _ => 0))), (pf1, .inr (1, [.ref pc1, .ref pk1, .int 0])), (pc1, .inl (cy 0, 48, .inl (fun _ => 0))), (pf2, .inr (1, [.ref pc2, .ref pk2, .int 0])), (pc2, .inl (cy 0, 48, .inl (fun _ => 0)))] H := hP
  have hD : va_D A [(la, .inr (2, [.int 5, .int 9, .int 0, .ref ld, .ref sr, .ref tx, .ref vl])), (ld, .inl (cy 0, 5, .inl xf1)), (sr, .inl (cy 0, 5, .inl (va_cpy (fun _ => 0) (fun _ => 0) 0 0 5))), (tx, .inl (cy 3, 3, .inr (.inr (.inr (.inr gt))))), (f0, .inr (1, [.ref c0, .ref k0, .int 0])), (c0, .inl (cy 0, 48, .inl (fun _ => 0))), (f1, .inr (1, [.ref c1, .ref k1, .int 0])), (c1, .inl (cy 0, 48, .inl (fun _ => 0))), (f2, .inr (1, [.ref c2, .ref k2, .int 0])), (c2, .inl (cy 0, 48, .inl (fun _ => 0))), (pla, .inr (2, [.int 5, .int 9, .int 0, .ref pld, .ref psr, .ref ptx, .ref pvl])), (pld, .inl (cy 0, 5, .inl pfl)), (psr, .inl (cy 0, 5, .inl (fun _ => 0))), (ptx, .inl (cy 3, 3, .inr (.inr (.inr (.inr pgt))))), (pf0, .inr (1, [.ref pc0, .ref pk0, .int 0])), (pc0, .inl (cy 0, 48, .inl (fun _ => 0))), (pf1, .inr (1, [.ref pc1, .ref pk1, .int 0])), (pc1, .inl (cy 0, 48, .inl (fun _ => 0))), (pf2, .inr (1, [.ref pc2, .ref pk2, .int 0])), (pc2, .inl (cy 0, 48, .inl (fun _ => 0)))] := hD
  obtain ⟨xf2, hP, hD⟩ : ∃ xf2, va_P G classes [(la, .inr (2, [.int 5, .int 9, .int 0, .ref ld, .ref sr, .ref tx, .ref vl])), (ld, .inl (cy 0, 5, .inl xf1)), (sr, .inl (cy 0, 5, .inl xf2)), (tx, .inl (cy 3, 3, .inr (.inr (.inr (.inr gt))))), (f0, .inr (1, [.ref c0, .ref k0, .int 0])), (c0, .inl (cy 0, 48, .inl (fun _ => 0))), (f1, .inr (1, [.ref c1, .ref k1, .int 0])), (c1, .inl (cy 0, 48, .inl (fun _ => 0))), (f2, .inr (1, [.ref c2, .ref k2, .int 0])), (c2, .inl (cy 0, 48, .inl (fun _ => 0))), (pla, .inr (2, [.int 5, .int 9, .int 0, .ref pld, .ref psr, .ref ptx, .ref pvl])), (pld, .inl (cy 0, 5, .inl pfl)), (psr, .inl (cy 0, 5, .inl (fun _ => 0))), (ptx, .inl (cy 3, 3, .inr (.inr (.inr (.inr pgt))))), (pf0, .inr (1, [.ref pc0, .ref pk0, .int 0])), (pc0, .inl (cy 0, 48, .inl (fun _ => 0))), (pf1, .inr (1, [.ref pc1, .ref pk1, .int 0])), (pc1, .inl (cy 0, 48, .inl (fun _ => 0))), (pf2, .inr (1, [.ref pc2, .ref pk2, .int 0])), (pc2, .inl (cy 0, 48, .inl (fun _ => 0)))] H ∧ va_D A [(la, .inr (2, [.int 5, .int 9, .int 0, .ref ld, .ref sr, .ref tx, .ref vl])), (ld, .inl (cy 0, 5, .inl xf1)), (sr, .inl (cy 0, 5, .inl xf2)), (tx, .inl (cy 3, 3, .inr (.inr (.inr (.inr gt))))), (f0, .inr (1, [.ref c0, .ref k0, .int 0])), (c0, .inl (cy 0, 48, .inl (fun _ => 0))), (f1, .inr (1, [.ref c1, .ref k1, .int 0])), (c1, .inl (cy 0, 48, .inl (fun _ => 0))), (f2, .inr (1, [.ref c2, .ref k2, .int 0])), (c2, .inl (cy 0, 48, .inl (fun _ => 0))), (pla, .inr (2, [.int 5, .int 9, .int 0, .ref pld, .ref psr, .ref ptx, .ref pvl])), (pld, .inl (cy 0, 5, .inl pfl)), (psr, .inl (cy 0, 5, .inl (fun _ => 0))), (ptx, .inl (cy 3, 3, .inr (.inr (.inr (.inr pgt))))), (pf0, .inr (1, [.ref pc0, .ref pk0, .int 0])), (pc0, .inl (cy 0, 48, .inl (fun _ => 0))), (pf1, .inr (1, [.ref pc1, .ref pk1, .int 0])), (pc1, .inl (cy 0, 48, .inl (fun _ => 0))), (pf2, .inr (1, [.ref pc2, .ref pk2, .int 0])), (pc2, .inl (cy 0, 48, .inl (fun _ => 0)))] := ⟨_, hP, hD⟩
  refine lv_iconst (v := 0) hx hb dX2_takeFrom_52 (by decide) ?_
  refine lv_istore_n (lv' := [(2, .int 0), (0, .ref la), (1, .ref pla)]) hx hb dX2_takeFrom_53 rfl hl (by decide) rfl (fun ls hl => ?_)
  refine lv_iload_n hx hb dX2_takeFrom_54 rfl (lv_at hl 0 rfl) ?_
  refine lv_iconst (v := 3) hx hb dX2_takeFrom_55 (by decide) ?_
  refine lv_icmp_ge (tgt := 80) hx hb dX2_takeFrom_56 (by decide) (fun h9 => absurd h9 (by decide)) (fun _ => ?_)
  refine lv_aload_n hx hb dX2_takeFrom_59 rfl (lv_at hl 1 rfl) ?_
  refine va_get (D := G) (ci := 2) (v := .ref tx) (C := RX2) (T := TX2) (N := 7) hx hb hts inB2 hown hE.1 hP 0 rfl rfl 5 (by decide) (hts _ m_175) (fun _ h9 => h9) rfl dX2_takeFrom_60 ?_
  refine lv_iload_n hx hb dX2_takeFrom_63 rfl (lv_at hl 0 rfl) ?_
  refine va_aldq hx hb hE.1 hP 3 3 rfl rfl (vinL (by decide)) dX2_takeFrom_64 ?_
  refine tpv (v := .ref f0) (by show va_rf (gt 0) = _; rw [hg0]; rfl) ?_
  refine lv_aload_n hx hb dX2_takeFrom_65 rfl (lv_at hl 2 rfl) ?_
  refine va_get (D := G) (ci := 2) (v := .ref ptx) (C := RX2) (T := TX2) (N := 7) hx hb hts inB2 hown hE.1 hP 10 rfl rfl 5 (by decide) (hts _ m_175) (fun _ h9 => h9) rfl dX2_takeFrom_66 ?_
  refine lv_iload_n hx hb dX2_takeFrom_69 rfl (lv_at hl 0 rfl) ?_
  refine va_aldq hx hb hE.1 hP 13 3 rfl rfl (vinL (by decide)) dX2_takeFrom_70 ?_
  refine tpv (v := .ref pf0) (by show va_rf (pgt 0) = _; rw [ig0]; rfl) ?_
  refine wVv (B := (fun _ => True)) (wr := [(la, .inr (2, [.int 5, .int 9, .int 0, .ref ld, .ref sr, .ref tx, .ref vl])), (ld, .inl (cy 0, 5, .inl xf1)), (sr, .inl (cy 0, 5, .inl xf2)), (tx, .inl (cy 3, 3, .inr (.inr (.inr (.inr gt))))), (f1, .inr (1, [.ref c1, .ref k1, .int 0])), (c1, .inl (cy 0, 48, .inl (fun _ => 0))), (f2, .inr (1, [.ref c2, .ref k2, .int 0])), (c2, .inl (cy 0, 48, .inl (fun _ => 0))), (pla, .inr (2, [.int 5, .int 9, .int 0, .ref pld, .ref psr, .ref ptx, .ref pvl])), (pld, .inl (cy 0, 5, .inl pfl)), (psr, .inl (cy 0, 5, .inl (fun _ => 0))), (ptx, .inl (cy 3, 3, .inr (.inr (.inr (.inr pgt))))), (pf1, .inr (1, [.ref pc1, .ref pk1, .int 0])), (pc1, .inl (cy 0, 48, .inl (fun _ => 0))), (pf2, .inr (1, [.ref pc2, .ref pk2, .int 0])), (pc2, .inl (cy 0, 48, .inl (fun _ => 0)))]) (rest := []) hx hb hml hown hts hE (c_X1_takeFrom l G cy sk H.size f0 c0 k0 pf0 pc0 pk0 0 0 (fun _ => 0) (fun _ => 0)) kV_X1_takeFrom m_1268 rfl rfl ⟨(Nat.le_of_ble_eq_true rfl), (Nat.le_of_ble_eq_true rfl)⟩ hP hD hS hA 4 rfl rfl rfl [4, 5, 14, 15] [0, 1, 2, 3, 6, 7, 8, 9, 10, 11, 12, 13, 16, 17, 18, 19] rfl rfl rfl rfl (by decide) rfl rfl hl.1 (Nat.le_of_ble_eq_true rfl) dX2_takeFrom_71 ⟨(Nat.le_of_ble_eq_true rfl), (Nat.le_of_ble_eq_true rfl)⟩ (fun H locs haf hS => ?_)
  obtain ⟨-, -, hP, hD⟩ := haf
  have hP : va_P G classes [(la, .inr (2, [.int 5, .int 9, .int 0, .ref ld, .ref sr, .ref tx, .ref vl])), (ld, .inl (cy 0, 5, .inl xf1)), (sr, .inl (cy 0, 5, .inl xf2)), (tx, .inl (cy 3, 3, .inr (.inr (.inr (.inr gt))))), (f1, .inr (1, [.ref c1, .ref k1, .int 0])), (c1, .inl (cy 0, 48, .inl (fun _ => 0))), (f2, .inr (1, [.ref c2, .ref k2, .int 0])), (c2, .inl (cy 0, 48, .inl (fun _ => 0))), (pla, .inr (2, [.int 5, .int 9, .int 0, .ref pld, .ref psr, .ref ptx, .ref pvl])), (pld, .inl (cy 0, 5, .inl pfl)), (psr, .inl (cy 0, 5, .inl (fun _ => 0))), (ptx, .inl (cy 3, 3, .inr (.inr (.inr (.inr pgt))))), (pf1, .inr (1, [.ref pc1, .ref pk1, .int 0])), (pc1, .inl (cy 0, 48, .inl (fun _ => 0))), (pf2, .inr (1, [.ref pc2, .ref pk2, .int 0])), (pc2, .inl (cy 0, 48, .inl (fun _ => 0)))] H := hP
  have hD : va_D A [(la, .inr (2, [.int 5, .int 9, .int 0, .ref ld, .ref sr, .ref tx, .ref vl])), (ld, .inl (cy 0, 5, .inl xf1)), (sr, .inl (cy 0, 5, .inl xf2)), (tx, .inl (cy 3, 3, .inr (.inr (.inr (.inr gt))))), (f1, .inr (1, [.ref c1, .ref k1, .int 0])), (c1, .inl (cy 0, 48, .inl (fun _ => 0))), (f2, .inr (1, [.ref c2, .ref k2, .int 0])), (c2, .inl (cy 0, 48, .inl (fun _ => 0))), (pla, .inr (2, [.int 5, .int 9, .int 0, .ref pld, .ref psr, .ref ptx, .ref pvl])), (pld, .inl (cy 0, 5, .inl pfl)), (psr, .inl (cy 0, 5, .inl (fun _ => 0))), (ptx, .inl (cy 3, 3, .inr (.inr (.inr (.inr pgt))))), (pf1, .inr (1, [.ref pc1, .ref pk1, .int 0])), (pc1, .inl (cy 0, 48, .inl (fun _ => 0))), (pf2, .inr (1, [.ref pc2, .ref pk2, .int 0])), (pc2, .inl (cy 0, 48, .inl (fun _ => 0)))] := hD
  refine lv_iinc (v := 1) (lv' := [(2, .int 1), (0, .ref la), (1, .ref pla)]) hx hb dX2_takeFrom_74 hl (k := 0) rfl (by decide) (by decide) rfl (fun ls hl => ?_)
  refine lv_goto (tgt := 54) hx hb dX2_takeFrom_77 (by decide) ?_
  refine lv_iload_n hx hb dX2_takeFrom_54 rfl (lv_at hl 0 rfl) ?_
  refine lv_iconst (v := 3) hx hb dX2_takeFrom_55 (by decide) ?_
  refine lv_icmp_ge (tgt := 80) hx hb dX2_takeFrom_56 (by decide) (fun h9 => absurd h9 (by decide)) (fun _ => ?_)
  refine lv_aload_n hx hb dX2_takeFrom_59 rfl (lv_at hl 1 rfl) ?_
  refine va_get (D := G) (ci := 2) (v := .ref tx) (C := RX2) (T := TX2) (N := 7) hx hb hts inB2 hown hE.1 hP 0 rfl rfl 5 (by decide) (hts _ m_175) (fun _ h9 => h9) rfl dX2_takeFrom_60 ?_
  refine lv_iload_n hx hb dX2_takeFrom_63 rfl (lv_at hl 0 rfl) ?_
  refine va_aldq hx hb hE.1 hP 3 3 rfl rfl (vinL (by decide)) dX2_takeFrom_64 ?_
  refine tpv (v := .ref f1) (by show va_rf (gt 1) = _; rw [hg1]; rfl) ?_
  refine lv_aload_n hx hb dX2_takeFrom_65 rfl (lv_at hl 2 rfl) ?_
  refine va_get (D := G) (ci := 2) (v := .ref ptx) (C := RX2) (T := TX2) (N := 7) hx hb hts inB2 hown hE.1 hP 8 rfl rfl 5 (by decide) (hts _ m_175) (fun _ h9 => h9) rfl dX2_takeFrom_66 ?_
  refine lv_iload_n hx hb dX2_takeFrom_69 rfl (lv_at hl 0 rfl) ?_
  refine va_aldq hx hb hE.1 hP 11 3 rfl rfl (vinL (by decide)) dX2_takeFrom_70 ?_
  refine tpv (v := .ref pf1) (by show va_rf (pgt 1) = _; rw [ig1]; rfl) ?_
  refine wVv (B := (fun _ => True)) (wr := [(la, .inr (2, [.int 5, .int 9, .int 0, .ref ld, .ref sr, .ref tx, .ref vl])), (ld, .inl (cy 0, 5, .inl xf1)), (sr, .inl (cy 0, 5, .inl xf2)), (tx, .inl (cy 3, 3, .inr (.inr (.inr (.inr gt))))), (f2, .inr (1, [.ref c2, .ref k2, .int 0])), (c2, .inl (cy 0, 48, .inl (fun _ => 0))), (pla, .inr (2, [.int 5, .int 9, .int 0, .ref pld, .ref psr, .ref ptx, .ref pvl])), (pld, .inl (cy 0, 5, .inl pfl)), (psr, .inl (cy 0, 5, .inl (fun _ => 0))), (ptx, .inl (cy 3, 3, .inr (.inr (.inr (.inr pgt))))), (pf2, .inr (1, [.ref pc2, .ref pk2, .int 0])), (pc2, .inl (cy 0, 48, .inl (fun _ => 0)))]) (rest := []) hx hb hml hown hts hE (c_X1_takeFrom l G cy sk H.size f1 c1 k1 pf1 pc1 pk1 0 0 (fun _ => 0) (fun _ => 0)) kV_X1_takeFrom m_1268 rfl rfl ⟨(Nat.le_of_ble_eq_true rfl), (Nat.le_of_ble_eq_true rfl)⟩ hP hD hS hA 4 rfl rfl rfl [4, 5, 12, 13] [0, 1, 2, 3, 6, 7, 8, 9, 10, 11, 14, 15] rfl rfl rfl rfl (by decide) rfl rfl hl.1 (Nat.le_of_ble_eq_true rfl) dX2_takeFrom_71 ⟨(Nat.le_of_ble_eq_true rfl), (Nat.le_of_ble_eq_true rfl)⟩ (fun H locs haf hS => ?_)
  obtain ⟨-, -, hP, hD⟩ := haf
  have hP : va_P G classes [(la, .inr (2, [.int 5, .int 9, .int 0, .ref ld, .ref sr, .ref tx, .ref vl])), (ld, .inl (cy 0, 5, .inl xf1)), (sr, .inl (cy 0, 5, .inl xf2)), (tx, .inl (cy 3, 3, .inr (.inr (.inr (.inr gt))))), (f2, .inr (1, [.ref c2, .ref k2, .int 0])), (c2, .inl (cy 0, 48, .inl (fun _ => 0))), (pla, .inr (2, [.int 5, .int 9, .int 0, .ref pld, .ref psr, .ref ptx, .ref pvl])), (pld, .inl (cy 0, 5, .inl pfl)), (psr, .inl (cy 0, 5, .inl (fun _ => 0))), (ptx, .inl (cy 3, 3, .inr (.inr (.inr (.inr pgt))))), (pf2, .inr (1, [.ref pc2, .ref pk2, .int 0])), (pc2, .inl (cy 0, 48, .inl (fun _ => 0)))] H := hP
  have hD : va_D A [(la, .inr (2, [.int 5, .int 9, .int 0, .ref ld, .ref sr, .ref tx, .ref vl])), (ld, .inl (cy 0, 5, .inl xf1)), (sr, .inl (cy 0, 5, .inl xf2)), (tx, .inl (cy 3, 3, .inr (.inr (.inr (.inr gt))))), (f2, .inr (1, [.ref c2, .ref k2, .int 0])), (c2, .inl (cy 0, 48, .inl (fun _ => 0))), (pla, .inr (2, [.int 5, .int 9, .int 0, .ref pld, .ref psr, .ref ptx, .ref pvl])), (pld, .inl (cy 0, 5, .inl pfl)), (psr, .inl (cy 0, 5, .inl (fun _ => 0))), (ptx, .inl (cy 3, 3, .inr (.inr (.inr (.inr pgt))))), (pf2, .inr (1, [.ref pc2, .ref pk2, .int 0])), (pc2, .inl (cy 0, 48, .inl (fun _ => 0)))] := hD
  refine lv_iinc (v := 2) (lv' := [(2, .int 2), (0, .ref la), (1, .ref pla)]) hx hb dX2_takeFrom_74 hl (k := 0) rfl (by decide) (by decide) rfl (fun ls hl => ?_)
  refine lv_goto (tgt := 54) hx hb dX2_takeFrom_77 (by decide) ?_
  refine lv_iload_n hx hb dX2_takeFrom_54 rfl (lv_at hl 0 rfl) ?_
  refine lv_iconst (v := 3) hx hb dX2_takeFrom_55 (by decide) ?_
  refine lv_icmp_ge (tgt := 80) hx hb dX2_takeFrom_56 (by decide) (fun h9 => absurd h9 (by decide)) (fun _ => ?_)
  refine lv_aload_n hx hb dX2_takeFrom_59 rfl (lv_at hl 1 rfl) ?_
  refine va_get (D := G) (ci := 2) (v := .ref tx) (C := RX2) (T := TX2) (N := 7) hx hb hts inB2 hown hE.1 hP 0 rfl rfl 5 (by decide) (hts _ m_175) (fun _ h9 => h9) rfl dX2_takeFrom_60 ?_
  refine lv_iload_n hx hb dX2_takeFrom_63 rfl (lv_at hl 0 rfl) ?_
  refine va_aldq hx hb hE.1 hP 3 3 rfl rfl (vinL (by decide)) dX2_takeFrom_64 ?_
  refine tpv (v := .ref f2) (by show va_rf (gt 2) = _; rw [hg2]; rfl) ?_
  refine lv_aload_n hx hb dX2_takeFrom_65 rfl (lv_at hl 2 rfl) ?_
  refine va_get (D := G) (ci := 2) (v := .ref ptx) (C := RX2) (T := TX2) (N := 7) hx hb hts inB2 hown hE.1 hP 6 rfl rfl 5 (by decide) (hts _ m_175) (fun _ h9 => h9) rfl dX2_takeFrom_66 ?_
  refine lv_iload_n hx hb dX2_takeFrom_69 rfl (lv_at hl 0 rfl) ?_
  refine va_aldq hx hb hE.1 hP 9 3 rfl rfl (vinL (by decide)) dX2_takeFrom_70 ?_
  refine tpv (v := .ref pf2) (by show va_rf (pgt 2) = _; rw [ig2]; rfl) ?_
  refine wVv (B := (fun _ => True)) (wr := [(la, .inr (2, [.int 5, .int 9, .int 0, .ref ld, .ref sr, .ref tx, .ref vl])), (ld, .inl (cy 0, 5, .inl xf1)), (sr, .inl (cy 0, 5, .inl xf2)), (tx, .inl (cy 3, 3, .inr (.inr (.inr (.inr gt))))), (pla, .inr (2, [.int 5, .int 9, .int 0, .ref pld, .ref psr, .ref ptx, .ref pvl])), (pld, .inl (cy 0, 5, .inl pfl)), (psr, .inl (cy 0, 5, .inl (fun _ => 0))), (ptx, .inl (cy 3, 3, .inr (.inr (.inr (.inr pgt)))))]) (rest := []) hx hb hml hown hts hE (c_X1_takeFrom l G cy sk H.size f2 c2 k2 pf2 pc2 pk2 0 0 (fun _ => 0) (fun _ => 0)) kV_X1_takeFrom m_1268 rfl rfl ⟨(Nat.le_of_ble_eq_true rfl), (Nat.le_of_ble_eq_true rfl)⟩ hP hD hS hA 4 rfl rfl rfl [4, 5, 10, 11] [0, 1, 2, 3, 6, 7, 8, 9] rfl rfl rfl rfl (by decide) rfl rfl hl.1 (Nat.le_of_ble_eq_true rfl) dX2_takeFrom_71 ⟨(Nat.le_of_ble_eq_true rfl), (Nat.le_of_ble_eq_true rfl)⟩ (fun H locs haf hS => ?_)
  obtain ⟨-, -, hP, hD⟩ := haf
  have hP : va_P G classes [(la, .inr (2, [.int 5, .int 9, .int 0, .ref ld, .ref sr, .ref tx, .ref vl])), (ld, .inl (cy 0, 5, .inl xf1)), (sr, .inl (cy 0, 5, .inl xf2)), (tx, .inl (cy 3, 3, .inr (.inr (.inr (.inr gt))))), (pla, .inr (2, [.int 5, .int 9, .int 0, .ref pld, .ref psr, .ref ptx, .ref pvl])), (pld, .inl (cy 0, 5, .inl pfl)), (psr, .inl (cy 0, 5, .inl (fun _ => 0))), (ptx, .inl (cy 3, 3, .inr (.inr (.inr (.inr pgt)))))] H := hP
  have hD : va_D A [(la, .inr (2, [.int 5, .int 9, .int 0, .ref ld, .ref sr, .ref tx, .ref vl])), (ld, .inl (cy 0, 5, .inl xf1)), (sr, .inl (cy 0, 5, .inl xf2)), (tx, .inl (cy 3, 3, .inr (.inr (.inr (.inr gt))))), (pla, .inr (2, [.int 5, .int 9, .int 0, .ref pld, .ref psr, .ref ptx, .ref pvl])), (pld, .inl (cy 0, 5, .inl pfl)), (psr, .inl (cy 0, 5, .inl (fun _ => 0))), (ptx, .inl (cy 3, 3, .inr (.inr (.inr (.inr pgt)))))] := hD
  refine lv_iinc (v := 3) (lv' := [(2, .int 3), (0, .ref la), (1, .ref pla)]) hx hb dX2_takeFrom_74 hl (k := 0) rfl (by decide) (by decide) rfl (fun ls hl => ?_)
  refine lv_goto (tgt := 54) hx hb dX2_takeFrom_77 (by decide) ?_
  refine lv_iload_n hx hb dX2_takeFrom_54 rfl (lv_at hl 0 rfl) ?_
  refine lv_iconst (v := 3) hx hb dX2_takeFrom_55 (by decide) ?_
  refine lv_icmp_ge (tgt := 80) hx hb dX2_takeFrom_56 (by decide) (fun _ => ?_) (fun h9 => absurd h9 (by decide))
  refine W.widen (k := 0) (n := 0) (by first | exact Nat.le_of_ble_eq_true rfl | omega) (by first | exact Nat.le_of_ble_eq_true rfl | omega) ?_
  exact W.vret hx hb hr (fun t ht hW => ⟨⟨(), rfl, trivial, trivial⟩, hS.F ht⟩) hS.2.2 dX2_takeFrom_80
set_option maxHeartbeats 4000000 in
set_option maxRecDepth 100000 in
theorem c_X3_takeFrom (l : Launch) (G : va_G) (cy : Nat → ClassId) (sk : Nat → Nat) (sz : Nat) (le : Nat) (te : Nat) (ne : Nat) (mi : Nat) (tr : Nat) (be : Nat) (rta : Nat) (rba : Nat) (ple : Nat) (pte : Nat) (pne : Nat) (pmi : Nat) (ptr : Nat) (pbe : Nat) (prta : Nat) (prba : Nat)  : Met l yX3_takeFrom (wsO yX3_takeFrom cX3_takeFrom 2 none) ({ frames := 1, cells := 0, slots := 0, locals := 40 }) (va_Pc [.ref le, .ref ple] (PR G cy sk sz [(le, .inr (3, [.ref te, .ref ne, .ref mi, .int 0, .ref tr, .ref be, .int 0, .int 0, .int 0])), (te, .inl (cy 0, 7, .inl (fun _ => 0))), (ne, .inl (cy 0, 7, .inl (fun _ => 0))), (mi, .inl (cy 0, 7, .inl (fun _ => 0))), (ple, .inr (3, [.ref pte, .ref pne, .ref pmi, .int 0, .ref ptr, .ref pbe, .int 0, .int 0, .int 0])), (pte, .inl (cy 0, 7, .inl (fun _ => 0))), (pne, .inl (cy 0, 7, .inl (fun _ => 0))), (pmi, .inl (cy 0, 7, .inl (fun _ => 0)))])) (va_Qv (fun (_ : Unit) => True) (fun _ _ => True) (va_A [(le, .inr (3, [.ref te, .ref ne, .ref mi, .int 0, .ref tr, .ref be, .int 0, .int 0, .int 0])), (te, .inl (cy 0, 7, .inl (fun _ => 0))), (ne, .inl (cy 0, 7, .inl (fun _ => 0))), (mi, .inl (cy 0, 7, .inl (fun _ => 0))), (ple, .inr (3, [.ref pte, .ref pne, .ref pmi, .int 0, .ref ptr, .ref pbe, .int 0, .int 0, .int 0])), (pte, .inl (cy 0, 7, .inl (fun _ => 0))), (pne, .inl (cy 0, 7, .inl (fun _ => 0))), (pmi, .inl (cy 0, 7, .inl (fun _ => 0)))] sz)) 0 0 (va_A [(le, .inr (3, [.ref te, .ref ne, .ref mi, .int 0, .ref tr, .ref be, .int 0, .int 0, .int 0])), (te, .inl (cy 0, 7, .inl (fun _ => 0))), (ne, .inl (cy 0, 7, .inl (fun _ => 0))), (mi, .inl (cy 0, 7, .inl (fun _ => 0))), (ple, .inr (3, [.ref pte, .ref pne, .ref pmi, .int 0, .ref ptr, .ref pbe, .int 0, .int 0, .int 0])), (pte, .inl (cy 0, 7, .inl (fun _ => 0))), (pne, .inl (cy 0, 7, .inl (fun _ => 0))), (pmi, .inl (cy 0, 7, .inl (fun _ => 0)))] sz) := by
  refine mt (by decide) (Nat.le_of_ble_eq_true rfl) ?_
  intro p e s m below meth c ls hx hb hr hml hts hown hlocks hin hsz hP hE hD hl
  subst hsz
  have hl : lv_has ls 2 [(0, .ref le), (1, .ref ple)] := hl
  have hD := hD.self (sz := s.heap.size)
  generalize hAe : va_A [(le, .inr (3, [.ref te, .ref ne, .ref mi, .int 0, .ref tr, .ref be, .int 0, .int 0, .int 0])), (te, .inl (cy 0, 7, .inl (fun _ => 0))), (ne, .inl (cy 0, 7, .inl (fun _ => 0))), (mi, .inl (cy 0, 7, .inl (fun _ => 0))), (ple, .inr (3, [.ref pte, .ref pne, .ref pmi, .int 0, .ref ptr, .ref pbe, .int 0, .int 0, .int 0])), (pte, .inl (cy 0, 7, .inl (fun _ => 0))), (pne, .inl (cy 0, 7, .inl (fun _ => 0))), (pmi, .inl (cy 0, 7, .inl (fun _ => 0)))] s.heap.size = A at hD ⊢
  have hA : ∀ q : Nat, s.heap.size ≤ q → A q := fun q h => by rw [← hAe]; exact Or.inr h
  have hS : va_S A s.heap s.heap [] := va_S.rf
  refine lv_aload_n hx hb dX3_takeFrom_0 rfl (lv_at hl 1 rfl) ?_
  refine va_get (D := G) (ci := 3) (v := .ref pte) (C := RX3) (T := TX3) (N := 9) hx hb hts inB3 hown hE.1 hP 4 rfl rfl 0 (by decide) (hts _ m_218) (fun _ h9 => h9) rfl dX3_takeFrom_1 ?_
  refine lv_iconst (v := 0) hx hb dX3_takeFrom_4 (by decide) ?_
  refine lv_aload_n hx hb dX3_takeFrom_5 rfl (lv_at hl 0 rfl) ?_
  refine va_get (D := G) (ci := 3) (v := .ref te) (C := RX3) (T := TX3) (N := 9) hx hb hts inB3 hown hE.1 hP 0 rfl rfl 0 (by decide) (hts _ m_218) (fun _ h9 => h9) rfl dX3_takeFrom_6 ?_
  refine lv_iconst (v := 0) hx hb dX3_takeFrom_9 (by decide) ?_
  refine lv_bipush (v := 7) hx hb dX3_takeFrom_10 (by decide) ?_
  refine va_copyi (ty := .int) hx hb (hml.trans hl.1.symm) hown (hts _ m_1273) (hts _ m_830) (hts _ m_829) (hts _ m_98) hE.1 hP hD hS 5 1 0 0 rfl rfl rfl rfl rfl (by decide) (by decide) (by decide) (by decide) (by decide) (fun _ _ => rfl) (Nat.le_of_ble_eq_true rfl) (Nat.le_of_ble_eq_true rfl) dX3_takeFrom_12 (fun H locs hP hD hS => ?_)
  have hP : va_P G classes [(le, .inr (3, [.ref te, .ref ne, .ref mi, .int 0, .ref tr, .ref be, .int 0, .int 0, .int 0])), (te, .inl (cy 0, 7, .inl (va_cpy (fun _ => 0) (fun _ => 0) 0 0 7))), (ne, .inl (cy 0, 7, .inl (fun _ => 0))), (mi, .inl (cy 0, 7, .inl (fun _ => 0))), (ple, .inr (3, [.ref pte, .ref pne, .ref pmi, .int 0, .ref ptr, .ref pbe, .int 0, .int 0, .int 0])), (pte, .inl (cy 0, 7, .inl (fun _ => 0))), (pne, .inl (cy 0, 7, .inl (fun _ => 0))), (pmi, .inl (cy 0, 7, .inl (fun _ => 0)))] H := hP
  have hD : va_D A [(le, .inr (3, [.ref te, .ref ne, .ref mi, .int 0, .ref tr, .ref be, .int 0, .int 0, .int 0])), (te, .inl (cy 0, 7, .inl (va_cpy (fun _ => 0) (fun _ => 0) 0 0 7))), (ne, .inl (cy 0, 7, .inl (fun _ => 0))), (mi, .inl (cy 0, 7, .inl (fun _ => 0))), (ple, .inr (3, [.ref pte, .ref pne, .ref pmi, .int 0, .ref ptr, .ref pbe, .int 0, .int 0, .int 0])), (pte, .inl (cy 0, 7, .inl (fun _ => 0))), (pne, .inl (cy 0, 7, .inl (fun _ => 0))), (pmi, .inl (cy 0, 7, .inl (fun _ => 0)))] := hD
  obtain ⟨xf1, hP, hD⟩ : ∃ xf1, va_P G classes [(le, .inr (3, [.ref te, .ref ne, .ref mi, .int 0, .ref tr, .ref be, .int 0, .int 0, .int 0])), (te, .inl (cy 0, 7, .inl xf1)), (ne, .inl (cy 0, 7, .inl (fun _ => 0))), (mi, .inl (cy 0, 7, .inl (fun _ => 0))), (ple, .inr (3, [.ref pte, .ref pne, .ref pmi, .int 0, .ref ptr, .ref pbe, .int 0, .int 0, .int 0])), (pte, .inl (cy 0, 7, .inl (fun _ => 0))), (pne, .inl (cy 0, 7, .inl (fun _ => 0))), (pmi, .inl (cy 0, 7, .inl (fun _ => 0)))] H ∧ va_D A [(le, .inr (3, [.ref te, .ref ne, .ref mi, .int 0, .ref tr, .ref be, .int 0, .int 0, .int 0])), (te, .inl (cy 0, 7, .inl xf1)), (ne, .inl (cy 0, 7, .inl (fun _ => 0))), (mi, .inl (cy 0, 7, .inl (fun _ => 0))), (ple, .inr (3, [.ref pte, .ref pne, .ref pmi, .int 0, .ref ptr, .ref pbe, .int 0, .int 0, .int 0])), (pte, .inl (cy 0, 7, .inl (fun _ => 0))), (pne, .inl (cy 0, 7, .inl (fun _ => 0))), (pmi, .inl (cy 0, 7, .inl (fun _ => 0)))] := ⟨_, hP, hD⟩
  refine lv_aload_n hx hb dX3_takeFrom_15 rfl (lv_at hl 1 rfl) ?_
  refine va_get (D := G) (ci := 3) (v := .ref pne) (C := RX3) (T := TX3) (N := 9) hx hb hts inB3 hown hE.1 hP 4 rfl rfl 1 (by decide) (hts _ m_219) (fun _ h9 => h9) rfl dX3_takeFrom_16 ?_
  refine lv_iconst (v := 0) hx hb dX3_takeFrom_19 (by decide) ?_
  refine lv_aload_n hx hb dX3_takeFrom_20 rfl (lv_at hl 0 rfl) ?_
  refine va_get (D := G) (ci := 3) (v := .ref ne) (C := RX3) (T := TX3) (N := 9) hx hb hts inB3 hown hE.1 hP 0 rfl rfl 1 (by decide) (hts _ m_219) (fun _ h9 => h9) rfl dX3_takeFrom_21 ?_
  refine lv_iconst (v := 0) hx hb dX3_takeFrom_24 (by decide) ?_
  refine lv_bipush (v := 7) hx hb dX3_takeFrom_25 (by decide) ?_
  refine va_copyi (ty := .int) hx hb (hml.trans hl.1.symm) hown (hts _ m_1273) (hts _ m_830) (hts _ m_829) (hts _ m_98) hE.1 hP hD hS 6 2 0 0 rfl rfl rfl rfl rfl (by decide) (by decide) (by decide) (by decide) (by decide) (fun _ _ => rfl) (Nat.le_of_ble_eq_true rfl) (Nat.le_of_ble_eq_true rfl) dX3_takeFrom_27 (fun H locs hP hD hS => ?_)
  have hP : va_P G classes [(le, .inr (3, [.ref te, .ref ne, .ref mi, .int 0, .ref tr, .ref be, .int 0, .int 0, .int 0])), (te, .inl (cy 0, 7, .inl xf1)), (ne, .inl (cy 0, 7, .inl (va_cpy (fun _ => 0) (fun _ => 0) 0 0 7))), (mi, .inl (cy 0, 7, .inl (fun _ => 0))), (ple, .inr (3, [.ref pte, .ref pne, .ref pmi, .int 0, .ref ptr, .ref pbe, .int 0, .int 0, .int 0])), (pte, .inl (cy 0, 7, .inl (fun _ => 0))), (pne, .inl (cy 0, 7, .inl (fun _ => 0))), (pmi, .inl (cy 0, 7, .inl (fun _ => 0)))] H := hP
  have hD : va_D A [(le, .inr (3, [.ref te, .ref ne, .ref mi, .int 0, .ref tr, .ref be, .int 0, .int 0, .int 0])), (te, .inl (cy 0, 7, .inl xf1)), (ne, .inl (cy 0, 7, .inl (va_cpy (fun _ => 0) (fun _ => 0) 0 0 7))), (mi, .inl (cy 0, 7, .inl (fun _ => 0))), (ple, .inr (3, [.ref pte, .ref pne, .ref pmi, .int 0, .ref ptr, .ref pbe, .int 0, .int 0, .int 0])), (pte, .inl (cy 0, 7, .inl (fun _ => 0))), (pne, .inl (cy 0, 7, .inl (fun _ => 0))), (pmi, .inl (cy 0, 7, .inl (fun _ => 0)))] := hD
  obtain ⟨xf2, hP, hD⟩ : ∃ xf2, va_P G classes [(le, .inr (3, [.ref te, .ref ne, .ref mi, .int 0, .ref tr, .ref be, .int 0, .int 0, .int 0])), (te, .inl (cy 0, 7, .inl xf1)), (ne, .inl (cy 0, 7, .inl xf2)), (mi, .inl (cy 0, 7, .inl (fun _ => 0))), (ple, .inr (3, [.ref pte, .ref pne, .ref pmi, .int 0, .ref ptr, .ref pbe, .int 0, .int 0, .int 0])), (pte, .inl (cy 0, 7, .inl (fun _ => 0))), (pne, .inl (cy 0, 7, .inl (fun _ => 0))), (pmi, .inl (cy 0, 7, .inl (fun _ => 0)))] H ∧ va_D A [(le, .inr (3, [.ref te, .ref ne, .ref mi, .int 0, .ref tr, .ref be, .int 0, .int 0, .int 0])), (te, .inl (cy 0, 7, .inl xf1)), (ne, .inl (cy 0, 7, .inl xf2)), (mi, .inl (cy 0, 7, .inl (fun _ => 0))), (ple, .inr (3, [.ref pte, .ref pne, .ref pmi, .int 0, .ref ptr, .ref pbe, .int 0, .int 0, .int 0])), (pte, .inl (cy 0, 7, .inl (fun _ => 0))), (pne, .inl (cy 0, 7, .inl (fun _ => 0))), (pmi, .inl (cy 0, 7, .inl (fun _ => 0)))] := ⟨_, hP, hD⟩
  refine lv_aload_n hx hb dX3_takeFrom_30 rfl (lv_at hl 1 rfl) ?_
  refine va_get (D := G) (ci := 3) (v := .ref pmi) (C := RX3) (T := TX3) (N := 9) hx hb hts inB3 hown hE.1 hP 4 rfl rfl 2 (by decide) (hts _ m_220) (fun _ h9 => h9) rfl dX3_takeFrom_31 ?_
  refine lv_iconst (v := 0) hx hb dX3_takeFrom_34 (by decide) ?_
  refine lv_aload_n hx hb dX3_takeFrom_35 rfl (lv_at hl 0 rfl) ?_
  refine va_get (D := G) (ci := 3) (v := .ref mi) (C := RX3) (T := TX3) (N := 9) hx hb hts inB3 hown hE.1 hP 0 rfl rfl 2 (by decide) (hts _ m_220) (fun _ h9 => h9) rfl dX3_takeFrom_36 ?_
  refine lv_iconst (v := 0) hx hb dX3_takeFrom_39 (by decide) ?_
  refine lv_bipush (v := 7) hx hb dX3_takeFrom_40 (by decide) ?_
  refine va_copyi (ty := .int) hx hb (hml.trans hl.1.symm) hown (hts _ m_1273) (hts _ m_830) (hts _ m_829) (hts _ m_98) hE.1 hP hD hS 7 3 0 0 rfl rfl rfl rfl rfl (by decide) (by decide) (by decide) (by decide) (by decide) (fun _ _ => rfl) (Nat.le_of_ble_eq_true rfl) (Nat.le_of_ble_eq_true rfl) dX3_takeFrom_42 (fun H locs hP hD hS => ?_)
  have hP : va_P G classes [(le, .inr (3, [.ref te, .ref ne, .ref mi, .int 0, .ref tr, .ref be, .int 0, .int 0, .int 0])), (te, .inl (cy 0, 7, .inl xf1)), (ne, .inl (cy 0, 7, .inl xf2)), (mi, .inl (cy 0, 7, .inl (va_cpy (fun _ => 0) (fun _ => 0) 0 0 7))), (ple, .inr (3, [.ref pte, .ref pne, .ref pmi, .int 0, .ref ptr, .ref pbe, .int 0, .int 0, .int 0])), (pte, .inl (cy 0, 7, .inl (fun _ => 0))), (pne, .inl (cy 0, 7, .inl (fun _ => 0))), (pmi, .inl (cy 0, 7, .inl (fun _ => 0)))] H := hP
  have hD : va_D A [(le, .inr (3, [.ref te, .ref ne, .ref mi, .int 0, .ref tr, .ref be, .int 0, .int 0, .int 0])), (te, .inl (cy 0, 7, .inl xf1)), (ne, .inl (cy 0, 7, .inl xf2)), (mi, .inl (cy 0, 7, .inl (va_cpy (fun _ => 0) (fun _ => 0) 0 0 7))), (ple, .inr (3, [.ref pte, .ref pne, .ref pmi, .int 0, .ref ptr, .ref pbe, .int 0, .int 0, .int 0])), (pte, .inl (cy 0, 7, .inl (fun _ => 0))), (pne, .inl (cy 0, 7, .inl (fun _ => 0))), (pmi, .inl (cy 0, 7, .inl (fun _ => 0)))] := hD
  obtain ⟨xf3, hP, hD⟩ : ∃ xf3, va_P G classes [(le, .inr (3, [.ref te, .ref ne, .ref mi, .int 0, .ref tr, .ref be, .int 0, .int 0, .int 0])), (te, .inl (cy 0, 7, .inl xf1)), (ne, .inl (cy 0, 7, .inl xf2)), (mi, .inl (cy 0, 7, .inl xf3)), (ple, .inr (3, [.ref pte, .ref pne, .ref pmi, .int 0, .ref ptr, .ref pbe, .int 0, .int 0, .int 0])), (pte, .inl (cy 0, 7, .inl (fun _ => 0))), (pne, .inl (cy 0, 7, .inl (fun _ => 0))), (pmi, .inl (cy 0, 7, .inl (fun _ => 0)))] H ∧ va_D A [(le, .inr (3, [.ref te, .ref ne, .ref mi, .int 0, .ref tr, .ref be, .int 0, .int 0, .int 0])), (te, .inl (cy 0, 7, .inl xf1)), (ne, .inl (cy 0, 7, .inl xf2)), (mi, .inl (cy 0, 7, .inl xf3)), (ple, .inr (3, [.ref pte, .ref pne, .ref pmi, .int 0, .ref ptr, .ref pbe, .int 0, .int 0, .int 0])), (pte, .inl (cy 0, 7, .inl (fun _ => 0))), (pne, .inl (cy 0, 7, .inl (fun _ => 0))), (pmi, .inl (cy 0, 7, .inl (fun _ => 0)))] := ⟨_, hP, hD⟩
  refine lv_aload_n hx hb dX3_takeFrom_45 rfl (lv_at hl 0 rfl) ?_
  refine lv_aload_n hx hb dX3_takeFrom_46 rfl (lv_at hl 1 rfl) ?_
  refine va_get (D := G) (ci := 3) (v := .int 0) (C := RX3) (T := TX3) (N := 9) hx hb hts inB3 hown hE.1 hP 4 rfl rfl 3 (by decide) (hts _ m_221) (fun _ h9 => h9) rfl dX3_takeFrom_47 ?_
  refine va_put (D := G) (ci := 3) (v := .int 0) (ty := .int) (C := RX3) (T := TX3) (N := 9) hx hb hts inB3 tyX3 tyX3_ok nmX3 hown hE.1 hP hD hS 0 rfl rfl 3 (by decide) (hts _ m_221) (fun _ h9 => h9) rfl (by decide +kernel) rfl rfl (Nat.le_of_ble_eq_true rfl) dX3_takeFrom_50 (fun H locs hP hD hS => ?_)
  have hP : va_P G classes [(le, .inr (3, [.ref te, .ref ne, .ref mi, .int 0, .ref tr, .ref be, .int 0, .int 0, .int 0])), (te, .inl (cy 0, 7, .inl xf1)), (ne, .inl (cy 0, 7, .inl xf2)), (mi, .inl (cy 0, 7, .inl xf3)), (ple, .inr (3, [.ref pte, .ref pne, .ref pmi, .int 0, .ref ptr, .ref pbe, .int 0, .int 0, .int 0])), (pte, .inl (cy 0, 7, .inl (fun _ => 0))), (pne, .inl (cy 0, 7, .inl (fun _ => 0))), (pmi, .inl (cy 0, 7, .inl (fun _ => 0)))] H := hP
  have hD : va_D A [(le, .inr (3, [.ref te, .ref ne, .ref mi, .int 0, .ref tr, .ref be, .int 0, .int 0, .int 0])), (te, .inl (cy 0, 7, .inl xf1)), (ne, .inl (cy 0, 7, .inl xf2)), (mi, .inl (cy 0, 7, .inl xf3)), (ple, .inr (3, [.ref pte, .ref pne, .ref pmi, .int 0, .ref ptr, .ref pbe, .int 0, .int 0, .int 0])), (pte, .inl (cy 0, 7, .inl (fun _ => 0))), (pne, .inl (cy 0, 7, .inl (fun _ => 0))), (pmi, .inl (cy 0, 7, .inl (fun _ => 0)))] := hD
  refine W.widen (k := 0) (n := 0) (by first | exact Nat.le_of_ble_eq_true rfl | omega) (by first | exact Nat.le_of_ble_eq_true rfl | omega) ?_
  exact W.vret hx hb hr (fun t ht hW => ⟨⟨(), rfl, trivial, trivial⟩, hS.F ht⟩) hS.2.2 dX3_takeFrom_53
set_option maxHeartbeats 4000000 in
set_option maxRecDepth 100000 in
theorem c_X4_next (l : Launch) (G : va_G) (cy : Nat → ClassId) (sk : Nat → Nat) (sz : Nat) (re : Nat) (dr : Nat) (ta : Nat) (nm : Nat) (rta : Nat) (fa : Int32)  : Met l yX4_next (wsO yX4_next cX4_next 1 (some .int)) ({ frames := 0, cells := 0, slots := 0, locals := 0 }) (va_Pc [.ref re] (PR G cy sk sz [(re, .inr (4, [.ref dr, .ref ta, .ref nm, .int 0, .int fa, .int 0, .int 0])), (ta, .inr (5, [.ref rta, .int 0]))])) (vp_Si (fun r => r = (-1))) 0 0 (fun _ => False) := by
  refine mt (by decide) (Nat.le_of_ble_eq_true rfl) ?_
  intro p e s m below meth c ls hx hb hr hml hts hown hlocks hin hsz hP hE hD hl
  subst hsz
  have hl : lv_has ls 1 [(0, .ref re)] := hl
  refine lv_aload_n hx hb dX4_next_0 rfl (lv_at hl 0 rfl) ?_
  refine va_get (D := G) (ci := 4) (v := .int 0) (C := RX4) (T := TX4) (N := 7) hx hb hts inB4 hown hE.1 hP 0 rfl rfl 3 (by decide) (hts _ m_362) (fun _ h9 => h9) rfl dX4_next_1 ?_
  refine lv_aload_n hx hb dX4_next_4 rfl (lv_at hl 0 rfl) ?_
  refine va_get (D := G) (ci := 4) (v := .ref ta) (C := RX4) (T := TX4) (N := 7) hx hb hts inB4 hown hE.1 hP 0 rfl rfl 1 (by decide) (hts _ m_360) (fun _ h9 => h9) rfl dX4_next_5 ?_
  refine va_getN (D := G) (ci := 5) (v := .int 0) (C := RX5) (T := TX5) (N := 2) hx hb hts inB5 hown hE.1 hP 1 rfl rfl 1 (by decide) (nf_RX4_65 hE) (fun _ h9 => h9) rfl dX4_next_8 ?_
  refine lv_icmp_ge (tgt := 43) hx hb dX4_next_11 (by decide) (fun _ => ?_) (fun h9 => absurd h9 (by decide))
  refine lv_aload_n hx hb dX4_next_43 rfl (lv_at hl 0 rfl) ?_
  refine va_get (D := G) (ci := 4) (v := .int 0) (C := RX4) (T := TX4) (N := 7) hx hb hts inB4 hown hE.1 hP 0 rfl rfl 3 (by decide) (hts _ m_362) (fun _ h9 => h9) rfl dX4_next_44 ?_
  refine lv_aload_n hx hb dX4_next_47 rfl (lv_at hl 0 rfl) ?_
  refine va_get (D := G) (ci := 4) (v := .ref ta) (C := RX4) (T := TX4) (N := 7) hx hb hts inB4 hown hE.1 hP 0 rfl rfl 1 (by decide) (hts _ m_360) (fun _ h9 => h9) rfl dX4_next_48 ?_
  refine va_getN (D := G) (ci := 5) (v := .int 0) (C := RX5) (T := TX5) (N := 2) hx hb hts inB5 hown hE.1 hP 1 rfl rfl 1 (by decide) (nf_RX4_65 hE) (fun _ h9 => h9) rfl dX4_next_51 ?_
  refine lv_icmp_ge (tgt := 71) hx hb dX4_next_54 (by decide) (fun _ => ?_) (fun h9 => absurd h9 (by decide))
  refine lv_iconst (v := (-1)) hx hb dX4_next_71 (by decide) ?_
  exact W.iret (v := (-1)) hx hb hr (fun t ht hW => ⟨(-1), rfl, rfl, ht⟩) (fun _ h => by cases h) dX4_next_72
def B_c_X4_fail (G : va_G) (cy : Nat → ClassId) (A : Nat → Prop) (re : Nat) (dr : Nat) (ta : Nat) (nm : Nat) (H : Heap) : Prop := va_P G classes [(re, .inr (4, [.ref dr, .ref ta, .ref nm, .int 0, .int 0, .int 0, .int 0]))] H ∧ va_D A [(re, .inr (4, [.ref dr, .ref ta, .ref nm, .int 0, .int 0, .int 0, .int 0]))]
set_option maxHeartbeats 4000000 in
set_option maxRecDepth 100000 in
theorem c_X4_fail (l : Launch) (G : va_G) (cy : Nat → ClassId) (sk : Nat → Nat) (sz : Nat) (re : Nat) (dr : Nat) (ta : Nat) (nm : Nat)  : Met l yX4_fail (wsO yX4_fail cX4_fail 1 none) ({ frames := 0, cells := 0, slots := 0, locals := 0 }) (va_Pc [.ref re] (PR G cy sk sz [(re, .inr (4, [.ref dr, .ref ta, .ref nm, .int 0, .int (-1), .int 0, .int 0]))])) (va_Qv (fun (_ : Unit) => True) (fun _ t => B_c_X4_fail G cy (va_A [(re, .inr (4, [.ref dr, .ref ta, .ref nm, .int 0, .int (-1), .int 0, .int 0]))] sz) re dr ta nm t.heap) (va_A [(re, .inr (4, [.ref dr, .ref ta, .ref nm, .int 0, .int (-1), .int 0, .int 0]))] sz)) 0 0 (va_A [(re, .inr (4, [.ref dr, .ref ta, .ref nm, .int 0, .int (-1), .int 0, .int 0]))] sz) := by
  refine mt (by decide) (Nat.le_of_ble_eq_true rfl) ?_
  intro p e s m below meth c ls hx hb hr hml hts hown hlocks hin hsz hP hE hD hl
  subst hsz
  have hl : lv_has ls 1 [(0, .ref re)] := hl
  have hD := hD.self (sz := s.heap.size)
  generalize hAe : va_A [(re, .inr (4, [.ref dr, .ref ta, .ref nm, .int 0, .int (-1), .int 0, .int 0]))] s.heap.size = A at hD ⊢
  have hA : ∀ q : Nat, s.heap.size ≤ q → A q := fun q h => by rw [← hAe]; exact Or.inr h
  have hS : va_S A s.heap s.heap [] := va_S.rf
  refine lv_aload_n hx hb dX4_fail_0 rfl (lv_at hl 0 rfl) ?_
  refine va_get (D := G) (ci := 4) (v := .int (-1)) (C := RX4) (T := TX4) (N := 7) hx hb hts inB4 hown hE.1 hP 0 rfl rfl 4 (by decide) (hts _ m_363) (fun _ h9 => h9) rfl dX4_fail_1 ?_
  refine lv_if_ge (tgt := 15) hx hb dX4_fail_4 (by decide) (fun h9 => absurd h9 (by decide)) (fun _ => ?_)
  refine lv_aload_n hx hb dX4_fail_7 rfl (lv_at hl 0 rfl) ?_
  refine lv_aload_n hx hb dX4_fail_8 rfl (lv_at hl 0 rfl) ?_
  refine va_get (D := G) (ci := 4) (v := .int 0) (C := RX4) (T := TX4) (N := 7) hx hb hts inB4 hown hE.1 hP 0 rfl rfl 3 (by decide) (hts _ m_362) (fun _ h9 => h9) rfl dX4_fail_9 ?_
  refine va_put (D := G) (ci := 4) (v := .int 0) (ty := .int) (C := RX4) (T := TX4) (N := 7) hx hb hts inB4 tyX4 tyX4_ok nmX4 hown hE.1 hP hD hS 0 rfl rfl 4 (by decide) (hts _ m_363) (fun _ h9 => h9) rfl (by decide +kernel) rfl rfl (Nat.le_of_ble_eq_true rfl) dX4_fail_12 (fun H locs hP hD hS => ?_)
  have hP : va_P G classes [(re, .inr (4, [.ref dr, .ref ta, .ref nm, .int 0, .int 0, .int 0, .int 0]))] H := hP
  have hD : va_D A [(re, .inr (4, [.ref dr, .ref ta, .ref nm, .int 0, .int 0, .int 0, .int 0]))] := hD
  have hP9 := P_cut (wc := [(re, .inr (4, [.ref dr, .ref ta, .ref nm, .int 0, .int 0, .int 0, .int 0]))]) hP [0] rfl
  have hD9 := hD.sub (ws' := [(re, .inr (4, [.ref dr, .ref ta, .ref nm, .int 0, .int 0, .int 0, .int 0]))]) [0] (by decide) rfl
  refine W.widen (k := 0) (n := 0) (by first | exact Nat.le_of_ble_eq_true rfl | omega) (by first | exact Nat.le_of_ble_eq_true rfl | omega) ?_
  exact W.vret hx hb hr (fun t ht hW => ⟨⟨(), rfl, trivial, by dsimp only; rw [ht]; exact ⟨hP9, hD9⟩⟩, hS.F ht⟩) hS.2.2 dX4_fail_15
def B_c_X4_readName (G : va_G) (cy : Nat → ClassId) (A : Nat → Prop) (re : Nat) (dr : Nat) (ta : Nat) (nm : Nat) (H : Heap) : Prop := va_P G classes [(re, .inr (4, [.ref dr, .ref ta, .ref nm, .int 0, .int 0, .int 0, .int 0]))] H ∧ va_D A [(re, .inr (4, [.ref dr, .ref ta, .ref nm, .int 0, .int 0, .int 0, .int 0]))]
set_option maxHeartbeats 4000000 in
set_option maxRecDepth 100000 in
theorem c_X4_readName (l : Launch) (G : va_G) (cy : Nat → ClassId) (sk : Nat → Nat) (sz : Nat) (re : Nat) (dr : Nat) (ta : Nat) (nm : Nat)  : Met l yX4_readName (wsO yX4_readName cX4_readName 3 none) ({ frames := 1, cells := 0, slots := 0, locals := 20 }) (va_Pc [.ref re, .int (-1)] (PR G cy sk sz [(re, .inr (4, [.ref dr, .ref ta, .ref nm, .int 0, .int (-1), .int 0, .int 0]))])) (va_Qv (fun (_ : Unit) => True) (fun _ t => B_c_X4_readName G cy (va_A [(re, .inr (4, [.ref dr, .ref ta, .ref nm, .int 0, .int (-1), .int 0, .int 0]))] sz) re dr ta nm t.heap) (va_A [(re, .inr (4, [.ref dr, .ref ta, .ref nm, .int 0, .int (-1), .int 0, .int 0]))] sz)) 0 0 (va_A [(re, .inr (4, [.ref dr, .ref ta, .ref nm, .int 0, .int (-1), .int 0, .int 0]))] sz) := by
  refine mt (by decide) (Nat.le_of_ble_eq_true rfl) ?_
  intro p e s m below meth c ls hx hb hr hml hts hown hlocks hin hsz hP hE hD hl
  subst hsz
  have hl : lv_has ls 3 [(0, .ref re), (1, .int (-1))] := hl
  have hD := hD.self (sz := s.heap.size)
  generalize hAe : va_A [(re, .inr (4, [.ref dr, .ref ta, .ref nm, .int 0, .int (-1), .int 0, .int 0]))] s.heap.size = A at hD ⊢
  have hA : ∀ q : Nat, s.heap.size ≤ q → A q := fun q h => by rw [← hAe]; exact Or.inr h
  have hS : va_S A s.heap s.heap [] := va_S.rf
  refine lv_iload_n hx hb dX4_readName_0 rfl (lv_at hl 1 rfl) ?_
  refine lv_if_lt (tgt := 10) hx hb dX4_readName_1 (by decide) (fun _ => ?_) (fun h9 => absurd h9 (by decide))
  refine lv_iconst (v := (-1)) hx hb dX4_readName_10 (by decide) ?_
  refine lv_goto (tgt := 23) hx hb dX4_readName_11 (by decide) ?_
  refine lv_istore_n (lv' := [(2, .int (-1)), (0, .ref re), (1, .int (-1))]) hx hb dX4_readName_23 rfl hl (by decide) rfl (fun ls hl => ?_)
  refine lv_iload_n hx hb dX4_readName_24 rfl (lv_at hl 0 rfl) ?_
  refine lv_if_ge (tgt := 33) hx hb dX4_readName_25 (by decide) (fun h9 => absurd h9 (by decide)) (fun _ => ?_)
  refine lv_aload_n hx hb dX4_readName_28 rfl (lv_at hl 1 rfl) ?_
  refine wVv (B := (B_c_X4_fail G cy (va_A [(re, .inr (4, [.ref dr, .ref ta, .ref nm, .int 0, .int (-1), .int 0, .int 0]))] s.heap.size) re dr ta nm)) (wr := []) (rest := []) hx hb hml hown hts hE (c_X4_fail l G cy sk s.heap.size re dr ta nm) kV_X4_fail m_728 rfl rfl ⟨(Nat.le_of_ble_eq_true rfl), (Nat.le_of_ble_eq_true rfl)⟩ hP hD hS hA 0 rfl rfl rfl [0] [] rfl rfl rfl rfl (by decide) rfl rfl hl.1 (Nat.le_of_ble_eq_true rfl) dX4_readName_29 ⟨(Nat.le_of_ble_eq_true rfl), (Nat.le_of_ble_eq_true rfl)⟩ (fun H locs haf hS => ?_)
  obtain ⟨hP1, hD1⟩ := haf.1
  obtain ⟨hP, hD⟩ := haf.2.1 _ hP1 hD1
  have hP : va_P G classes [(re, .inr (4, [.ref dr, .ref ta, .ref nm, .int 0, .int 0, .int 0, .int 0]))] H := hP
  have hD : va_D A [(re, .inr (4, [.ref dr, .ref ta, .ref nm, .int 0, .int 0, .int 0, .int 0]))] := hD
  have hP9 := P_cut (wc := [(re, .inr (4, [.ref dr, .ref ta, .ref nm, .int 0, .int 0, .int 0, .int 0]))]) hP [0] rfl
  have hD9 := hD.sub (ws' := [(re, .inr (4, [.ref dr, .ref ta, .ref nm, .int 0, .int 0, .int 0, .int 0]))]) [0] (by decide) rfl
  refine W.widen (k := 0) (n := 0) (by first | exact Nat.le_of_ble_eq_true rfl | omega) (by first | exact Nat.le_of_ble_eq_true rfl | omega) ?_
  exact W.vret hx hb hr (fun t ht hW => ⟨⟨(), rfl, trivial, by dsimp only; rw [ht]; exact ⟨hP9, hD9⟩⟩, hS.F ht⟩) hS.2.2 dX4_readName_32
def B_c_X4_readOne (G : va_G) (cy : Nat → ClassId) (A : Nat → Prop) (re : Nat) (dr : Nat) (ta : Nat) (nm : Nat) (rta : Nat) (H : Heap) : Prop := va_P G classes [(re, .inr (4, [.ref dr, .ref ta, .ref nm, .int 0, .int 0, .int 0, .int 0])), (ta, .inr (5, [.ref rta, .int 0]))] H ∧ va_D A [(re, .inr (4, [.ref dr, .ref ta, .ref nm, .int 0, .int 0, .int 0, .int 0])), (ta, .inr (5, [.ref rta, .int 0]))]
set_option maxHeartbeats 4000000 in
set_option maxRecDepth 100000 in
theorem c_X4_readOne (l : Launch) (G : va_G) (cy : Nat → ClassId) (sk : Nat → Nat) (sz : Nat) (re : Nat) (dr : Nat) (ta : Nat) (nm : Nat) (rta : Nat)  : Met l yX4_readOne (wsO yX4_readOne cX4_readOne 2 none) ({ frames := 2, cells := 0, slots := 0, locals := 42 }) (va_Pc [.ref re] (PR G cy sk sz [(re, .inr (4, [.ref dr, .ref ta, .ref nm, .int 0, .int (-1), .int 0, .int 0])), (ta, .inr (5, [.ref rta, .int 0]))])) (va_Qv (fun (_ : Unit) => True) (fun _ t => B_c_X4_readOne G cy (va_A [(re, .inr (4, [.ref dr, .ref ta, .ref nm, .int 0, .int (-1), .int 0, .int 0])), (ta, .inr (5, [.ref rta, .int 0]))] sz) re dr ta nm rta t.heap) (va_A [(re, .inr (4, [.ref dr, .ref ta, .ref nm, .int 0, .int (-1), .int 0, .int 0])), (ta, .inr (5, [.ref rta, .int 0]))] sz)) 0 0 (va_A [(re, .inr (4, [.ref dr, .ref ta, .ref nm, .int 0, .int (-1), .int 0, .int 0])), (ta, .inr (5, [.ref rta, .int 0]))] sz) := by
  refine mt (by decide) (Nat.le_of_ble_eq_true rfl) ?_
  intro p e s m below meth c ls hx hb hr hml hts hown hlocks hin hsz hP hE hD hl
  subst hsz
  have hl : lv_has ls 2 [(0, .ref re)] := hl
  have hD := hD.self (sz := s.heap.size)
  generalize hAe : va_A [(re, .inr (4, [.ref dr, .ref ta, .ref nm, .int 0, .int (-1), .int 0, .int 0])), (ta, .inr (5, [.ref rta, .int 0]))] s.heap.size = A at hD ⊢
  have hA : ∀ q : Nat, s.heap.size ≤ q → A q := fun q h => by rw [← hAe]; exact Or.inr h
  have hS : va_S A s.heap s.heap [] := va_S.rf
  refine lv_aload_n hx hb dX4_readOne_0 rfl (lv_at hl 0 rfl) ?_
  refine va_get (D := G) (ci := 4) (v := .int (-1)) (C := RX4) (T := TX4) (N := 7) hx hb hts inB4 hown hE.1 hP 0 rfl rfl 4 (by decide) (hts _ m_363) (fun _ h9 => h9) rfl dX4_readOne_1 ?_
  refine lv_if_lt (tgt := 8) hx hb dX4_readOne_4 (by decide) (fun _ => ?_) (fun h9 => absurd h9 (by decide))
  refine lv_aload_n hx hb dX4_readOne_8 rfl (lv_at hl 0 rfl) ?_
  refine rV (rest := []) hx hb hml hown hts hE (c_X4_next l G cy sk s.heap.size re dr ta nm rta (-1)) kV_X4_next m_708 rfl rfl ⟨(Nat.le_of_ble_eq_true rfl), (Nat.le_of_ble_eq_true rfl)⟩ hP hD 0 rfl rfl rfl [0, 1] rfl rfl rfl rfl hl.1 (Nat.le_of_ble_eq_true rfl) dX4_readOne_9 ⟨(Nat.le_of_ble_eq_true rfl), (Nat.le_of_ble_eq_true rfl)⟩ (fun r_1 hr_ => ?_)
  subst hr_
  refine lv_istore_n (lv' := [(1, .int (-1)), (0, .ref re)]) hx hb dX4_readOne_12 rfl hl (by decide) rfl (fun ls hl => ?_)
  refine lv_iload_n hx hb dX4_readOne_13 rfl (lv_at hl 0 rfl) ?_
  refine lv_bipush (v := 48) hx hb dX4_readOne_14 (by decide) ?_
  refine lv_icmp_lt (tgt := 32) hx hb dX4_readOne_16 (by decide) (fun _ => ?_) (fun h9 => absurd h9 (by decide))
  refine lv_iload_n hx hb dX4_readOne_32 rfl (lv_at hl 0 rfl) ?_
  refine lv_bipush (v := 45) hx hb dX4_readOne_33 (by decide) ?_
  refine lv_icmp_eq (tgt := 50) hx hb dX4_readOne_35 (by decide) (fun h9 => absurd h9 (by decide)) (fun _ => ?_)
  refine lv_iload_n hx hb dX4_readOne_38 rfl (lv_at hl 0 rfl) ?_
  refine lv_bipush (v := 40) hx hb dX4_readOne_39 (by decide) ?_
  refine lv_icmp_eq (tgt := 50) hx hb dX4_readOne_41 (by decide) (fun h9 => absurd h9 (by decide)) (fun _ => ?_)
  refine lv_iload_n hx hb dX4_readOne_44 rfl (lv_at hl 0 rfl) ?_
  refine lv_bipush (v := 91) hx hb dX4_readOne_45 (by decide) ?_
  refine lv_icmp_ne (tgt := 58) hx hb dX4_readOne_47 (by decide) (fun _ => ?_) (fun h9 => absurd h9 (by decide))
  refine lv_aload_n hx hb dX4_readOne_58 rfl (lv_at hl 1 rfl) ?_
  refine lv_iload_n hx hb dX4_readOne_59 rfl (lv_at hl 0 rfl) ?_
  refine wVv (B := (B_c_X4_readName G cy (va_A [(re, .inr (4, [.ref dr, .ref ta, .ref nm, .int 0, .int (-1), .int 0, .int 0]))] s.heap.size) re dr ta nm)) (wr := [(ta, .inr (5, [.ref rta, .int 0]))]) (rest := []) hx hb hml hown hts hE (c_X4_readName l G cy sk s.heap.size re dr ta nm) kV_X4_readName m_736 rfl rfl ⟨(Nat.le_of_ble_eq_true rfl), (Nat.le_of_ble_eq_true rfl)⟩ hP hD hS hA 0 rfl rfl rfl [0] [1] rfl rfl rfl rfl (by decide) rfl rfl hl.1 (Nat.le_of_ble_eq_true rfl) dX4_readOne_60 ⟨(Nat.le_of_ble_eq_true rfl), (Nat.le_of_ble_eq_true rfl)⟩ (fun H locs haf hS => ?_)
  obtain ⟨hP1, hD1⟩ := haf.1
  obtain ⟨hP, hD⟩ := haf.2.1 _ hP1 hD1
  have hP : va_P G classes [(ta, .inr (5, [.ref rta, .int 0])), (re, .inr (4, [.ref dr, .ref ta, .ref nm, .int 0, .int 0, .int 0, .int 0]))] H := hP
  have hD : va_D A [(ta, .inr (5, [.ref rta, .int 0])), (re, .inr (4, [.ref dr, .ref ta, .ref nm, .int 0, .int 0, .int 0, .int 0]))] := hD
  have hP9 := P_cut (wc := [(re, .inr (4, [.ref dr, .ref ta, .ref nm, .int 0, .int 0, .int 0, .int 0])), (ta, .inr (5, [.ref rta, .int 0]))]) hP [1, 0] rfl
  have hD9 := hD.sub (ws' := [(re, .inr (4, [.ref dr, .ref ta, .ref nm, .int 0, .int 0, .int 0, .int 0])), (ta, .inr (5, [.ref rta, .int 0]))]) [1, 0] (by decide) rfl
  refine W.widen (k := 0) (n := 0) (by first | exact Nat.le_of_ble_eq_true rfl | omega) (by first | exact Nat.le_of_ble_eq_true rfl | omega) ?_
  exact W.vret hx hb hr (fun t ht hW => ⟨⟨(), rfl, trivial, by dsimp only; rw [ht]; exact ⟨hP9, hD9⟩⟩, hS.F ht⟩) hS.2.2 dX4_readOne_63
def B_c_X4_readTerm (G : va_G) (cy : Nat → ClassId) (A : Nat → Prop) (re : Nat) (dr : Nat) (ta : Nat) (nm : Nat) (rta : Nat) (H : Heap) : Prop := va_P G classes [(re, .inr (4, [.ref dr, .ref ta, .ref nm, .int 0, .int 0, .int 0, .int 0])), (ta, .inr (5, [.ref rta, .int 0]))] H ∧ va_D A [(re, .inr (4, [.ref dr, .ref ta, .ref nm, .int 0, .int 0, .int 0, .int 0])), (ta, .inr (5, [.ref rta, .int 0]))]
set_option maxHeartbeats 4000000 in
set_option maxRecDepth 100000 in
theorem c_X4_readTerm (l : Launch) (G : va_G) (cy : Nat → ClassId) (sk : Nat → Nat) (sz : Nat) (re : Nat) (dr : Nat) (ta : Nat) (nm : Nat) (rta : Nat)  : Met l yX4_readTerm (wsO yX4_readTerm cX4_readTerm 3 none) ({ frames := 3, cells := 0, slots := 0, locals := 63 }) (va_Pc [.ref re] (PR G cy sk sz [(re, .inr (4, [.ref dr, .ref ta, .ref nm, .int 0, .int (-1), .int 0, .int 0])), (ta, .inr (5, [.ref rta, .int 0]))])) (va_Qv (fun (_ : Unit) => True) (fun _ t => B_c_X4_readTerm G cy (va_A [(re, .inr (4, [.ref dr, .ref ta, .ref nm, .int 0, .int (-1), .int 0, .int 0])), (ta, .inr (5, [.ref rta, .int 0]))] sz) re dr ta nm rta t.heap) (va_A [(re, .inr (4, [.ref dr, .ref ta, .ref nm, .int 0, .int (-1), .int 0, .int 0])), (ta, .inr (5, [.ref rta, .int 0]))] sz)) 0 0 (va_A [(re, .inr (4, [.ref dr, .ref ta, .ref nm, .int 0, .int (-1), .int 0, .int 0])), (ta, .inr (5, [.ref rta, .int 0]))] sz) := by
  refine mt (by decide) (Nat.le_of_ble_eq_true rfl) ?_
  intro p e s m below meth c ls hx hb hr hml hts hown hlocks hin hsz hP hE hD hl
  subst hsz
  have hl : lv_has ls 3 [(0, .ref re)] := hl
  have hD := hD.self (sz := s.heap.size)
  generalize hAe : va_A [(re, .inr (4, [.ref dr, .ref ta, .ref nm, .int 0, .int (-1), .int 0, .int 0])), (ta, .inr (5, [.ref rta, .int 0]))] s.heap.size = A at hD ⊢
  have hA : ∀ q : Nat, s.heap.size ≤ q → A q := fun q h => by rw [← hAe]; exact Or.inr h
  have hS : va_S A s.heap s.heap [] := va_S.rf
  refine lv_aload_n hx hb dX4_readTerm_0 rfl (lv_at hl 0 rfl) ?_
  refine wVv (B := (B_c_X4_readOne G cy (va_A [(re, .inr (4, [.ref dr, .ref ta, .ref nm, .int 0, .int (-1), .int 0, .int 0])), (ta, .inr (5, [.ref rta, .int 0]))] s.heap.size) re dr ta nm rta)) (wr := []) (rest := []) hx hb hml hown hts hE (c_X4_readOne l G cy sk s.heap.size re dr ta nm rta) kV_X4_readOne m_704 rfl rfl ⟨(Nat.le_of_ble_eq_true rfl), (Nat.le_of_ble_eq_true rfl)⟩ hP hD hS hA 0 rfl rfl rfl [0, 1] [] rfl rfl rfl rfl (by decide) rfl rfl hl.1 (Nat.le_of_ble_eq_true rfl) dX4_readTerm_1 ⟨(Nat.le_of_ble_eq_true rfl), (Nat.le_of_ble_eq_true rfl)⟩ (fun H locs haf hS => ?_)
  obtain ⟨hP1, hD1⟩ := haf.1
  obtain ⟨hP, hD⟩ := haf.2.1 _ hP1 hD1
  have hP : va_P G classes [(re, .inr (4, [.ref dr, .ref ta, .ref nm, .int 0, .int 0, .int 0, .int 0])), (ta, .inr (5, [.ref rta, .int 0]))] H := hP
  have hD : va_D A [(re, .inr (4, [.ref dr, .ref ta, .ref nm, .int 0, .int 0, .int 0, .int 0])), (ta, .inr (5, [.ref rta, .int 0]))] := hD
  refine lv_iconst (v := 0) hx hb dX4_readTerm_4 (by decide) ?_
  refine lv_istore_n (lv' := [(1, .int 0), (0, .ref re)]) hx hb dX4_readTerm_5 rfl hl (by decide) rfl (fun ls hl => ?_)
  refine lv_iload_n hx hb dX4_readTerm_6 rfl (lv_at hl 0 rfl) ?_
  refine lv_bipush (v := 48) hx hb dX4_readTerm_7 (by decide) ?_
  refine lv_icmp_ge (tgt := 75) hx hb dX4_readTerm_9 (by decide) (fun h9 => absurd h9 (by decide)) (fun _ => ?_)
  refine lv_aload_n hx hb dX4_readTerm_12 rfl (lv_at hl 1 rfl) ?_
  refine va_get (D := G) (ci := 4) (v := .int 0) (C := RX4) (T := TX4) (N := 7) hx hb hts inB4 hown hE.1 hP 0 rfl rfl 4 (by decide) (hts _ m_363) (fun _ h9 => h9) rfl dX4_readTerm_13 ?_
  refine lv_if_ge (tgt := 75) hx hb dX4_readTerm_16 (by decide) (fun _ => ?_) (fun h9 => absurd h9 (by decide))
  have hP9 := P_cut (wc := [(re, .inr (4, [.ref dr, .ref ta, .ref nm, .int 0, .int 0, .int 0, .int 0])), (ta, .inr (5, [.ref rta, .int 0]))]) hP [0, 1] rfl
  have hD9 := hD.sub (ws' := [(re, .inr (4, [.ref dr, .ref ta, .ref nm, .int 0, .int 0, .int 0, .int 0])), (ta, .inr (5, [.ref rta, .int 0]))]) [0, 1] (by decide) rfl
  refine W.widen (k := 0) (n := 0) (by first | exact Nat.le_of_ble_eq_true rfl | omega) (by first | exact Nat.le_of_ble_eq_true rfl | omega) ?_
  exact W.vret hx hb hr (fun t ht hW => ⟨⟨(), rfl, trivial, by dsimp only; rw [ht]; exact ⟨hP9, hD9⟩⟩, hS.F ht⟩) hS.2.2 dX4_readTerm_75
