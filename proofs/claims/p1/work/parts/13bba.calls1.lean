theorem kf_c_X11_error_0 (k : Int32) (ans : Int32) (hk : inR k 1 6) (ha : (-1000000) - k = ans) (h9 : k < 0) : False := by simp only [inR, Int32.le_iff_toInt_le, Int32.lt_iff_toInt_lt] at *; simp at *; omega
theorem kf_c_X11_error_1 (k : Int32) (ans : Int32) (hk : inR k 1 6) (ha : (-1000000) - k = ans) (h9 : 7 ≤ k) : False := by simp only [inR, Int32.le_iff_toInt_le, Int32.lt_iff_toInt_lt] at *; simp at *; omega
set_option maxHeartbeats 4000000 in
set_option maxRecDepth 100000 in
theorem c_X11_error (l : Launch) (G : va_G) (cy : Nat → ClassId) (sk : Nat → Nat) (sz : Nat) (x : Nat) (lv : Nat) (kp : Nat) (tr_ : Nat) (sh : Nat) (er : Nat) (re : Nat) (fi : Nat) (vo : Nat) (fe : Nat → Int32) (k : Int32) (ans : Int32) (im : Int32) (hk : inR k 1 6) (ha : (-1000000) - k = ans) : Met l yX11_error (wsO yX11_error cX11_error 2 (some .int)) ({ frames := 0, cells := 0, slots := 0, locals := 0 }) (va_Pc [.ref x, .int k] (PR G cy sk sz [(x, .inr (11, [.ref lv, .ref kp, .ref tr_, .ref sh, .ref er, .ref re, .ref fi, .ref vo, .int im])), (er, .inl (cy 0, 7, .inl fe))])) (va_Qi (fun r (_ : Unit) => r = ans) (fun _ _ => True) (va_A [(x, .inr (11, [.ref lv, .ref kp, .ref tr_, .ref sh, .ref er, .ref re, .ref fi, .ref vo, .int im])), (er, .inl (cy 0, 7, .inl fe))] sz)) 0 0 (va_A [(x, .inr (11, [.ref lv, .ref kp, .ref tr_, .ref sh, .ref er, .ref re, .ref fi, .ref vo, .int im])), (er, .inl (cy 0, 7, .inl fe))] sz) := by
  refine mt (by decide) (Nat.le_of_ble_eq_true rfl) ?_
  intro p e s m below meth c ls hx hb hr hml hts hown hlocks hin hsz hP hE hD hl
  subst hsz
  have hl : lv_has ls 2 [(0, .ref x), (1, .int k)] := hl
  have hD := hD.self (sz := s.heap.size)
  generalize hAe : va_A [(x, .inr (11, [.ref lv, .ref kp, .ref tr_, .ref sh, .ref er, .ref re, .ref fi, .ref vo, .int im])), (er, .inl (cy 0, 7, .inl fe))] s.heap.size = A at hD ⊢
  have hA : ∀ q : Nat, s.heap.size ≤ q → A q := fun q h => by rw [← hAe]; exact Or.inr h
  have hS : va_S A s.heap s.heap [] := va_S.rf
  refine lv_iload_n hx hb dX11_error_0 rfl (lv_at hl 1 rfl) ?_
  refine lv_if_lt (tgt := 23) hx hb dX11_error_1 (by decide) (fun h9 => (kf_c_X11_error_0 k ans hk ha h9).elim) (fun _ => ?_)
  refine lv_iload_n hx hb dX11_error_4 rfl (lv_at hl 1 rfl) ?_
  refine lv_aload_n hx hb dX11_error_5 rfl (lv_at hl 0 rfl) ?_
  refine va_get (D := G) (ci := 11) (v := .ref er) (C := RX11) (T := TX11) (N := 9) hx hb hts inB11 hown hE.1 hP 0 rfl rfl 4 (by decide) (hts _ m_463) (fun _ h9 => h9) rfl dX11_error_6 ?_
  refine va_alen (v := 7) hx hb hE.1 hP 1 0 rfl rfl rfl dX11_error_9 ?_
  refine lv_icmp_ge (tgt := 23) hx hb dX11_error_10 (by decide) (fun h9 => (kf_c_X11_error_1 k ans hk ha h9).elim) (fun _ => ?_)
  refine lv_aload_n hx hb dX11_error_13 rfl (lv_at hl 0 rfl) ?_
  refine va_get (D := G) (ci := 11) (v := .ref er) (C := RX11) (T := TX11) (N := 9) hx hb hts inB11 hown hE.1 hP 0 rfl rfl 4 (by decide) (hts _ m_463) (fun _ h9 => h9) rfl dX11_error_14 ?_
  refine lv_iload_n hx hb dX11_error_17 rfl (lv_at hl 1 rfl) ?_
  refine lv_dup2_11 hx hb dX11_error_18 rfl rfl ?_
  refine va_iald hx hb hE.1 hP 1 0 rfl rfl (vinB hk (by decide) (by decide)) dX11_error_19 ?_
  refine lv_topi (fun y1 ey1 => ?_)
  refine lv_iconst (v := 1) hx hb dX11_error_20 (by decide) ?_
  refine lv_iadd hx hb dX11_error_21 ?_
  refine va_iast hx hb hE.1 hP hD hS 1 0 rfl rfl (vinB hk (by decide) (by decide)) dX11_error_22 (fun H locs hP hD hS => ?_)
  have hP : va_P G classes [(x, .inr (11, [.ref lv, .ref kp, .ref tr_, .ref sh, .ref er, .ref re, .ref fi, .ref vo, .int im])), (er, .inl (cy 0, 7, .inl (upd fe (k).toNatClampNeg (y1 + 1))))] H := hP
  have hD : va_D A [(x, .inr (11, [.ref lv, .ref kp, .ref tr_, .ref sh, .ref er, .ref re, .ref fi, .ref vo, .int im])), (er, .inl (cy 0, 7, .inl (upd fe (k).toNatClampNeg (y1 + 1))))] := hD
  refine lv_ldcw (v := (-1000000)) hx hb hown (hts _ m_504) dX11_error_23 ?_
  refine lv_iload_n hx hb dX11_error_26 rfl (lv_at hl 1 rfl) ?_
  refine lv_isub hx hb dX11_error_27 ?_
  refine tp (v := ans) ha ?_
  refine W.widen (k := 0) (n := 0) (by first | exact Nat.le_of_ble_eq_true rfl | omega) (by first | exact Nat.le_of_ble_eq_true rfl | omega) ?_
  exact W.iret (v := ans) hx hb hr (fun t ht hW => ⟨⟨ans, (), rfl, rfl, trivial⟩, hS.F ht⟩) hS.2.2 dX11_error_28
theorem lf_c_X11_thing_0 (foc : Nat → Int32) (ak : Int32) (ac : Int32) (hoc : ∀ j, j < 192 → foc j = (-1)) (h_2 : inR ak 0 4) (h_4 : inR ac 0 191) : (0 : Int32) = (F_thing ak ac) := by first | (simp only [F_thing, *, and_true, true_and, and_false, false_and, if_true, if_false]; done) | (simp [F_thing, *]; done) | (unfold F_thing; simp_all; done)
theorem lf_c_X11_thing_1 (foc : Nat → Int32) (ak : Int32) (ac : Int32) (hoc : ∀ j, j < 192 → foc j = (-1)) (h_2 : inR ak 0 4) (h_4 : ¬ inR ac 0 191) : ((-1000001) : Int32) = (F_thing ak ac) := by first | (simp only [F_thing, *, and_true, true_and, and_false, false_and, if_true, if_false]; done) | (simp [F_thing, *]; done) | (unfold F_thing; simp_all; done)
theorem lf_c_X11_thing_2 (foc : Nat → Int32) (ak : Int32) (ac : Int32) (hoc : ∀ j, j < 192 → foc j = (-1)) (h_2 : ¬ inR ak 0 4) : ((-1000001) : Int32) = (F_thing ak ac) := by first | (simp only [F_thing, *, and_true, true_and, and_false, false_and, if_true, if_false]; done) | (simp [F_thing, *]; done) | (unfold F_thing; simp_all; done)
set_option maxHeartbeats 4000000 in
set_option maxRecDepth 100000 in
theorem c_X11_thing (l : Launch) (G : va_G) (cy : Nat → ClassId) (sk : Nat → Nat) (sz : Nat) (x : Nat) (lv : Nat) (kp : Nat) (tr_ : Nat) (sh : Nat) (er : Nat) (re : Nat) (fi : Nat) (vo : Nat) (fe : Nat → Int32) (lv : Nat) (st : Nat) (la : Nat) (le : Nat) (ta : Nat) (wa : Nat) (wk : Nat) (oc : Nat) (ki : Nat) (ce : Nat) (si : Nat) (sp : Nat) (foc : Nat → Int32) (ak : Int32) (ac : Int32) (hoc : ∀ j, j < 192 → foc j = (-1)) : Met l yX11_thing (wsO yX11_thing cX11_thing 3 (some .int)) ({ frames := 3, cells := 0, slots := 0, locals := 65 }) (va_Pc [.ref x, .int ak, .int ac] (PR G cy sk sz [(x, .inr (11, [.ref lv, .ref kp, .ref tr_, .ref sh, .ref er, .ref re, .ref fi, .ref vo, .int 0])), (er, .inl (cy 0, 7, .inl fe)), (lv, .inr (10, [.ref st, .ref la, .ref le, .ref ta, .ref wa, .ref wk, .int 0, .int 0])), (st, .inr (7, [.ref oc, .ref ki, .ref ce, .ref si, .ref sp, .int 0])), (oc, .inl (cy 0, 192, .inl foc)), (ki, .inl (cy 0, 40, .inl (fun _ => 0))), (ce, .inl (cy 0, 40, .inl (fun _ => 0))), (si, .inl (cy 0, 40, .inl (fun _ => 0))), (sp, .inl (cy 0, 40, .inl (fun _ => 0)))])) (va_Qi (fun r (_ : Unit) => r = (F_thing ak ac)) (fun _ _ => True) (va_A [(x, .inr (11, [.ref lv, .ref kp, .ref tr_, .ref sh, .ref er, .ref re, .ref fi, .ref vo, .int 0])), (er, .inl (cy 0, 7, .inl fe)), (lv, .inr (10, [.ref st, .ref la, .ref le, .ref ta, .ref wa, .ref wk, .int 0, .int 0])), (st, .inr (7, [.ref oc, .ref ki, .ref ce, .ref si, .ref sp, .int 0])), (oc, .inl (cy 0, 192, .inl foc)), (ki, .inl (cy 0, 40, .inl (fun _ => 0))), (ce, .inl (cy 0, 40, .inl (fun _ => 0))), (si, .inl (cy 0, 40, .inl (fun _ => 0))), (sp, .inl (cy 0, 40, .inl (fun _ => 0)))] sz)) 0 0 (va_A [(x, .inr (11, [.ref lv, .ref kp, .ref tr_, .ref sh, .ref er, .ref re, .ref fi, .ref vo, .int 0])), (er, .inl (cy 0, 7, .inl fe)), (lv, .inr (10, [.ref st, .ref la, .ref le, .ref ta, .ref wa, .ref wk, .int 0, .int 0])), (st, .inr (7, [.ref oc, .ref ki, .ref ce, .ref si, .ref sp, .int 0])), (oc, .inl (cy 0, 192, .inl foc)), (ki, .inl (cy 0, 40, .inl (fun _ => 0))), (ce, .inl (cy 0, 40, .inl (fun _ => 0))), (si, .inl (cy 0, 40, .inl (fun _ => 0))), (sp, .inl (cy 0, 40, .inl (fun _ => 0)))] sz) := by
  refine mt (by decide) (Nat.le_of_ble_eq_true rfl) ?_
  intro p e s m below meth c ls hx hb hr hml hts hown hlocks hin hsz hP hE hD hl
  subst hsz
  have hl : lv_has ls 3 [(0, .ref x), (1, .int ak), (2, .int ac)] := hl
  have hD := hD.self (sz := s.heap.size)
  generalize hAe : va_A [(x, .inr (11, [.ref lv, .ref kp, .ref tr_, .ref sh, .ref er, .ref re, .ref fi, .ref vo, .int 0])), (er, .inl (cy 0, 7, .inl fe)), (lv, .inr (10, [.ref st, .ref la, .ref le, .ref ta, .ref wa, .ref wk, .int 0, .int 0])), (st, .inr (7, [.ref oc, .ref ki, .ref ce, .ref si, .ref sp, .int 0])), (oc, .inl (cy 0, 192, .inl foc)), (ki, .inl (cy 0, 40, .inl (fun _ => 0))), (ce, .inl (cy 0, 40, .inl (fun _ => 0))), (si, .inl (cy 0, 40, .inl (fun _ => 0))), (sp, .inl (cy 0, 40, .inl (fun _ => 0)))] s.heap.size = A at hD ⊢
  have hA : ∀ q : Nat, s.heap.size ≤ q → A q := fun q h => by rw [← hAe]; exact Or.inr h
  have hS : va_S A s.heap s.heap [] := va_S.rf
  refine lv_iload_n hx hb dX11_thing_0 rfl (lv_at hl 1 rfl) ?_
  refine rS (rest := []) hx hb hml hown hts hE (c_X11_isThingKind l G cy sk s.heap.size ak) kS_X11_isThingKind m_491 rfl rfl ⟨(Nat.le_of_ble_eq_true rfl), (Nat.le_of_ble_eq_true rfl)⟩ hP hD [] rfl rfl rfl rfl hl.1 (Nat.le_of_ble_eq_true rfl) dX11_thing_1 ⟨(Nat.le_of_ble_eq_true rfl), (Nat.le_of_ble_eq_true rfl)⟩ (fun r_1 hr_ => ?_)
  rcases hr_ with ⟨rfl, h_2⟩ | ⟨rfl, h_2⟩
  · refine lv_if_eq (tgt := 14) hx hb dX11_thing_4 (by decide) (fun h9 => absurd h9 (by decide)) (fun _ => ?_)
    refine lv_iload_n hx hb dX11_thing_7 rfl (lv_at hl 2 rfl) ?_
    refine rS (rest := []) hx hb hml hown hts hE (c_X7_isCell l G cy sk s.heap.size ac) kS_X7_isCell m_497 rfl rfl ⟨(Nat.le_of_ble_eq_true rfl), (Nat.le_of_ble_eq_true rfl)⟩ hP hD [] rfl rfl rfl rfl hl.1 (Nat.le_of_ble_eq_true rfl) dX11_thing_8 ⟨(Nat.le_of_ble_eq_true rfl), (Nat.le_of_ble_eq_true rfl)⟩ (fun r_3 hr_ => ?_)
    rcases hr_ with ⟨rfl, h_4⟩ | ⟨rfl, h_4⟩
    · refine lv_if_ne (tgt := 20) hx hb dX11_thing_11 (by decide) (fun _ => ?_) (fun h9 => absurd h9 (by decide))
      refine lv_aload_n hx hb dX11_thing_20 rfl (lv_at hl 0 rfl) ?_
      refine va_get (D := G) (ci := 11) (v := .ref lv) (C := RX11) (T := TX11) (N := 9) hx hb hts inB11 hown hE.1 hP 0 rfl rfl 0 (by decide) (hts _ m_459) (fun _ h9 => h9) rfl dX11_thing_21 ?_
      refine va_getN (D := G) (ci := 10) (v := .ref st) (C := RX10) (T := TX10) (N := 8) hx hb hts inB10 hown hE.1 hP 2 rfl rfl 0 (by decide) (nf_RX11_71 hE) (fun _ h9 => h9) rfl dX11_thing_24 ?_
      refine lv_iload_n hx hb dX11_thing_27 rfl (lv_at hl 2 rfl) ?_
      refine rV (rest := []) hx hb hml hown hts hE (c_X7_isFree l G cy sk s.heap.size st oc ki ce si sp foc ac hoc h_4) kV_X7_isFree m_505 rfl rfl ⟨(Nat.le_of_ble_eq_true rfl), (Nat.le_of_ble_eq_true rfl)⟩ hP hD 3 rfl rfl rfl [3, 4] rfl rfl rfl rfl hl.1 (Nat.le_of_ble_eq_true rfl) dX11_thing_28 ⟨(Nat.le_of_ble_eq_true rfl), (Nat.le_of_ble_eq_true rfl)⟩ (fun r_5 hr_ => ?_)
      subst hr_
      refine lv_if_ne (tgt := 40) hx hb dX11_thing_31 (by decide) (fun _ => ?_) (fun h9 => absurd h9 (by decide))
      refine lv_aload_n hx hb dX11_thing_40 rfl (lv_at hl 0 rfl) ?_
      refine va_get (D := G) (ci := 11) (v := .ref lv) (C := RX11) (T := TX11) (N := 9) hx hb hts inB11 hown hE.1 hP 0 rfl rfl 0 (by decide) (hts _ m_459) (fun _ h9 => h9) rfl dX11_thing_41 ?_
      refine va_getN (D := G) (ci := 10) (v := .ref st) (C := RX10) (T := TX10) (N := 8) hx hb hts inB10 hown hE.1 hP 2 rfl rfl 0 (by decide) (nf_RX11_71 hE) (fun _ h9 => h9) rfl dX11_thing_44 ?_
      refine rV (rest := []) hx hb hml hown hts hE (c_X7_hasRoom l G cy sk s.heap.size st oc ki ce si sp) kV_X7_hasRoom m_510 rfl rfl ⟨(Nat.le_of_ble_eq_true rfl), (Nat.le_of_ble_eq_true rfl)⟩ hP hD 3 rfl rfl rfl [3] rfl rfl rfl rfl hl.1 (Nat.le_of_ble_eq_true rfl) dX11_thing_47 ⟨(Nat.le_of_ble_eq_true rfl), (Nat.le_of_ble_eq_true rfl)⟩ (fun r_6 hr_ => ?_)
      subst hr_
      refine lv_if_ne (tgt := 59) hx hb dX11_thing_50 (by decide) (fun _ => ?_) (fun h9 => absurd h9 (by decide))
      refine lv_aload_n hx hb dX11_thing_59 rfl (lv_at hl 0 rfl) ?_
      refine va_get (D := G) (ci := 11) (v := .ref lv) (C := RX11) (T := TX11) (N := 9) hx hb hts inB11 hown hE.1 hP 0 rfl rfl 0 (by decide) (hts _ m_459) (fun _ h9 => h9) rfl dX11_thing_60 ?_
      refine va_getN (D := G) (ci := 10) (v := .ref st) (C := RX10) (T := TX10) (N := 8) hx hb hts inB10 hown hE.1 hP 2 rfl rfl 0 (by decide) (nf_RX11_71 hE) (fun _ h9 => h9) rfl dX11_thing_63 ?_
      refine lv_iload_n hx hb dX11_thing_66 rfl (lv_at hl 1 rfl) ?_
      refine lv_iload_n hx hb dX11_thing_67 rfl (lv_at hl 2 rfl) ?_
      refine wV (B := (fun _ => True)) (wr := [(x, .inr (11, [.ref lv, .ref kp, .ref tr_, .ref sh, .ref er, .ref re, .ref fi, .ref vo, .int 0])), (er, .inl (cy 0, 7, .inl fe)), (lv, .inr (10, [.ref st, .ref la, .ref le, .ref ta, .ref wa, .ref wk, .int 0, .int 0]))]) (rest := []) hx hb hml hown hts hE (c_X7_addThing l G cy sk s.heap.size st oc ki ce si sp foc (fun _ => 0) (fun _ => 0) (fun _ => 0) (fun _ => 0) ak ac) kV_X7_addThing m_514 rfl rfl ⟨(Nat.le_of_ble_eq_true rfl), (Nat.le_of_ble_eq_true rfl)⟩ hP hD hS hA 3 rfl rfl rfl [3, 4, 5, 6, 7, 8] [0, 1, 2] rfl rfl rfl rfl (by decide) rfl rfl hl.1 (Nat.le_of_ble_eq_true rfl) dX11_thing_68 ⟨(Nat.le_of_ble_eq_true rfl), (Nat.le_of_ble_eq_true rfl)⟩ (fun r_7 H locs hr_ haf hS => ?_)
      obtain ⟨-, -, hP, hD⟩ := haf
      have hP : va_P G classes [(x, .inr (11, [.ref lv, .ref kp, .ref tr_, .ref sh, .ref er, .ref re, .ref fi, .ref vo, .int 0])), (er, .inl (cy 0, 7, .inl fe)), (lv, .inr (10, [.ref st, .ref la, .ref le, .ref ta, .ref wa, .ref wk, .int 0, .int 0]))] H := hP
      have hD : va_D A [(x, .inr (11, [.ref lv, .ref kp, .ref tr_, .ref sh, .ref er, .ref re, .ref fi, .ref vo, .int 0])), (er, .inl (cy 0, 7, .inl fe)), (lv, .inr (10, [.ref st, .ref la, .ref le, .ref ta, .ref wa, .ref wk, .int 0, .int 0]))] := hD
      subst hr_
      refine W.widen (k := 0) (n := 0) (by first | exact Nat.le_of_ble_eq_true rfl | omega) (by first | exact Nat.le_of_ble_eq_true rfl | omega) ?_
      exact W.iret (v := 0) hx hb hr (fun t ht hW => ⟨⟨0, (), rfl, (lf_c_X11_thing_0 foc ak ac hoc h_2 h_4), trivial⟩, hS.F ht⟩) hS.2.2 dX11_thing_71
    · refine lv_if_ne (tgt := 20) hx hb dX11_thing_11 (by decide) (fun h9 => absurd h9 (by decide)) (fun _ => ?_)
      refine lv_aload_n hx hb dX11_thing_14 rfl (lv_at hl 0 rfl) ?_
      refine lv_iconst (v := 1) hx hb dX11_thing_15 (by decide) ?_
      refine wV (B := (fun _ => True)) (wr := [(lv, .inr (10, [.ref st, .ref la, .ref le, .ref ta, .ref wa, .ref wk, .int 0, .int 0])), (st, .inr (7, [.ref oc, .ref ki, .ref ce, .ref si, .ref sp, .int 0])), (oc, .inl (cy 0, 192, .inl foc)), (ki, .inl (cy 0, 40, .inl (fun _ => 0))), (ce, .inl (cy 0, 40, .inl (fun _ => 0))), (si, .inl (cy 0, 40, .inl (fun _ => 0))), (sp, .inl (cy 0, 40, .inl (fun _ => 0)))]) (rest := []) hx hb hml hown hts hE (c_X11_error l G cy sk s.heap.size x lv kp tr_ sh er re fi vo fe 1 (-1000001) 0 (by first | decide | (unfold inR; decide)) (by decide)) kV_X11_error m_500 rfl rfl ⟨(Nat.le_of_ble_eq_true rfl), (Nat.le_of_ble_eq_true rfl)⟩ hP hD hS hA 0 rfl rfl rfl [0, 1] [2, 3, 4, 5, 6, 7, 8] rfl rfl rfl rfl (by decide) rfl rfl hl.1 (Nat.le_of_ble_eq_true rfl) dX11_thing_16 ⟨(Nat.le_of_ble_eq_true rfl), (Nat.le_of_ble_eq_true rfl)⟩ (fun r_8 H locs hr_ haf hS => ?_)
      obtain ⟨-, -, hP, hD⟩ := haf
      have hP : va_P G classes [(lv, .inr (10, [.ref st, .ref la, .ref le, .ref ta, .ref wa, .ref wk, .int 0, .int 0])), (st, .inr (7, [.ref oc, .ref ki, .ref ce, .ref si, .ref sp, .int 0])), (oc, .inl (cy 0, 192, .inl foc)), (ki, .inl (cy 0, 40, .inl (fun _ => 0))), (ce, .inl (cy 0, 40, .inl (fun _ => 0))), (si, .inl (cy 0, 40, .inl (fun _ => 0))), (sp, .inl (cy 0, 40, .inl (fun _ => 0)))] H := hP
      have hD : va_D A [(lv, .inr (10, [.ref st, .ref la, .ref le, .ref ta, .ref wa, .ref wk, .int 0, .int 0])), (st, .inr (7, [.ref oc, .ref ki, .ref ce, .ref si, .ref sp, .int 0])), (oc, .inl (cy 0, 192, .inl foc)), (ki, .inl (cy 0, 40, .inl (fun _ => 0))), (ce, .inl (cy 0, 40, .inl (fun _ => 0))), (si, .inl (cy 0, 40, .inl (fun _ => 0))), (sp, .inl (cy 0, 40, .inl (fun _ => 0)))] := hD
      subst hr_
      refine W.widen (k := 0) (n := 0) (by first | exact Nat.le_of_ble_eq_true rfl | omega) (by first | exact Nat.le_of_ble_eq_true rfl | omega) ?_
      exact W.iret (v := (-1000001)) hx hb hr (fun t ht hW => ⟨⟨(-1000001), (), rfl, (lf_c_X11_thing_1 foc ak ac hoc h_2 h_4), trivial⟩, hS.F ht⟩) hS.2.2 dX11_thing_19
  · refine lv_if_eq (tgt := 14) hx hb dX11_thing_4 (by decide) (fun _ => ?_) (fun h9 => absurd h9 (by decide))
    refine lv_aload_n hx hb dX11_thing_14 rfl (lv_at hl 0 rfl) ?_
    refine lv_iconst (v := 1) hx hb dX11_thing_15 (by decide) ?_
    refine wV (B := (fun _ => True)) (wr := [(lv, .inr (10, [.ref st, .ref la, .ref le, .ref ta, .ref wa, .ref wk, .int 0, .int 0])), (st, .inr (7, [.ref oc, .ref ki, .ref ce, .ref si, .ref sp, .int 0])), (oc, .inl (cy 0, 192, .inl foc)), (ki, .inl (cy 0, 40, .inl (fun _ => 0))), (ce, .inl (cy 0, 40, .inl (fun _ => 0))), (si, .inl (cy 0, 40, .inl (fun _ => 0))), (sp, .inl (cy 0, 40, .inl (fun _ => 0)))]) (rest := []) hx hb hml hown hts hE (c_X11_error l G cy sk s.heap.size x lv kp tr_ sh er re fi vo fe 1 (-1000001) 0 (by first | decide | (unfold inR; decide)) (by decide)) kV_X11_error m_500 rfl rfl ⟨(Nat.le_of_ble_eq_true rfl), (Nat.le_of_ble_eq_true rfl)⟩ hP hD hS hA 0 rfl rfl rfl [0, 1] [2, 3, 4, 5, 6, 7, 8] rfl rfl rfl rfl (by decide) rfl rfl hl.1 (Nat.le_of_ble_eq_true rfl) dX11_thing_16 ⟨(Nat.le_of_ble_eq_true rfl), (Nat.le_of_ble_eq_true rfl)⟩ (fun r_9 H locs hr_ haf hS => ?_)
    obtain ⟨-, -, hP, hD⟩ := haf
    have hP : va_P G classes [(lv, .inr (10, [.ref st, .ref la, .ref le, .ref ta, .ref wa, .ref wk, .int 0, .int 0])), (st, .inr (7, [.ref oc, .ref ki, .ref ce, .ref si, .ref sp, .int 0])), (oc, .inl (cy 0, 192, .inl foc)), (ki, .inl (cy 0, 40, .inl (fun _ => 0))), (ce, .inl (cy 0, 40, .inl (fun _ => 0))), (si, .inl (cy 0, 40, .inl (fun _ => 0))), (sp, .inl (cy 0, 40, .inl (fun _ => 0)))] H := hP
    have hD : va_D A [(lv, .inr (10, [.ref st, .ref la, .ref le, .ref ta, .ref wa, .ref wk, .int 0, .int 0])), (st, .inr (7, [.ref oc, .ref ki, .ref ce, .ref si, .ref sp, .int 0])), (oc, .inl (cy 0, 192, .inl foc)), (ki, .inl (cy 0, 40, .inl (fun _ => 0))), (ce, .inl (cy 0, 40, .inl (fun _ => 0))), (si, .inl (cy 0, 40, .inl (fun _ => 0))), (sp, .inl (cy 0, 40, .inl (fun _ => 0)))] := hD
    subst hr_
    refine W.widen (k := 0) (n := 0) (by first | exact Nat.le_of_ble_eq_true rfl | omega) (by first | exact Nat.le_of_ble_eq_true rfl | omega) ?_
    exact W.iret (v := (-1000001)) hx hb hr (fun t ht hW => ⟨⟨(-1000001), (), rfl, (lf_c_X11_thing_2 foc ak ac hoc h_2), trivial⟩, hS.F ht⟩) hS.2.2 dX11_thing_19
set_option maxHeartbeats 4000000 in
set_option maxRecDepth 100000 in
theorem c_X11_thingIs (l : Launch) (G : va_G) (cy : Nat → ClassId) (sk : Nat → Nat) (sz : Nat) (x : Nat) (lv : Nat) (kp : Nat) (tr_ : Nat) (sh : Nat) (er : Nat) (re : Nat) (fi : Nat) (vo : Nat) (fe : Nat → Int32) (st : Nat) (la : Nat) (le : Nat) (ta : Nat) (wa : Nat) (wk : Nat) (oc : Nat) (ki : Nat) (ce : Nat) (si : Nat) (sp : Nat) (a1 : Int32) (a2 : Int32)  : Met l yX11_thingIs (wsO yX11_thingIs cX11_thingIs 3 (some .int)) ({ frames := 1, cells := 0, slots := 0, locals := 21 }) (va_Pc [.ref x, .int a1, .int a2] (PR G cy sk sz [(x, .inr (11, [.ref lv, .ref kp, .ref tr_, .ref sh, .ref er, .ref re, .ref fi, .ref vo, .int 0])), (er, .inl (cy 0, 7, .inl fe)), (lv, .inr (10, [.ref st, .ref la, .ref le, .ref ta, .ref wa, .ref wk, .int 0, .int 0])), (st, .inr (7, [.ref oc, .ref ki, .ref ce, .ref si, .ref sp, .int 0]))])) (va_Qi (fun r (_ : Unit) => r = (-1000001)) (fun _ _ => True) (va_A [(x, .inr (11, [.ref lv, .ref kp, .ref tr_, .ref sh, .ref er, .ref re, .ref fi, .ref vo, .int 0])), (er, .inl (cy 0, 7, .inl fe)), (lv, .inr (10, [.ref st, .ref la, .ref le, .ref ta, .ref wa, .ref wk, .int 0, .int 0])), (st, .inr (7, [.ref oc, .ref ki, .ref ce, .ref si, .ref sp, .int 0]))] sz)) 0 0 (va_A [(x, .inr (11, [.ref lv, .ref kp, .ref tr_, .ref sh, .ref er, .ref re, .ref fi, .ref vo, .int 0])), (er, .inl (cy 0, 7, .inl fe)), (lv, .inr (10, [.ref st, .ref la, .ref le, .ref ta, .ref wa, .ref wk, .int 0, .int 0])), (st, .inr (7, [.ref oc, .ref ki, .ref ce, .ref si, .ref sp, .int 0]))] sz) := by
  refine mt (by decide) (Nat.le_of_ble_eq_true rfl) ?_
  intro p e s m below meth c ls hx hb hr hml hts hown hlocks hin hsz hP hE hD hl
  subst hsz
  have hl : lv_has ls 3 [(0, .ref x), (1, .int a1), (2, .int a2)] := hl
  have hD := hD.self (sz := s.heap.size)
  generalize hAe : va_A [(x, .inr (11, [.ref lv, .ref kp, .ref tr_, .ref sh, .ref er, .ref re, .ref fi, .ref vo, .int 0])), (er, .inl (cy 0, 7, .inl fe)), (lv, .inr (10, [.ref st, .ref la, .ref le, .ref ta, .ref wa, .ref wk, .int 0, .int 0])), (st, .inr (7, [.ref oc, .ref ki, .ref ce, .ref si, .ref sp, .int 0]))] s.heap.size = A at hD ⊢
  have hA : ∀ q : Nat, s.heap.size ≤ q → A q := fun q h => by rw [← hAe]; exact Or.inr h
  have hS : va_S A s.heap s.heap [] := va_S.rf
  refine lv_aload_n hx hb dX11_thingIs_0 rfl (lv_at hl 0 rfl) ?_
  refine va_get (D := G) (ci := 11) (v := .ref lv) (C := RX11) (T := TX11) (N := 9) hx hb hts inB11 hown hE.1 hP 0 rfl rfl 0 (by decide) (hts _ m_459) (fun _ h9 => h9) rfl dX11_thingIs_1 ?_
  refine va_getN (D := G) (ci := 10) (v := .ref st) (C := RX10) (T := TX10) (N := 8) hx hb hts inB10 hown hE.1 hP 2 rfl rfl 0 (by decide) (nf_RX11_71 hE) (fun _ h9 => h9) rfl dX11_thingIs_4 ?_
  refine lv_iload_n hx hb dX11_thingIs_7 rfl (lv_at hl 1 rfl) ?_
  refine rV (rest := []) hx hb hml hown hts hE (c_X7_hasThing l G cy sk s.heap.size st oc ki ce si sp a1) kV_X7_hasThing m_526 rfl rfl ⟨(Nat.le_of_ble_eq_true rfl), (Nat.le_of_ble_eq_true rfl)⟩ hP hD 3 rfl rfl rfl [3] rfl rfl rfl rfl hl.1 (Nat.le_of_ble_eq_true rfl) dX11_thingIs_8 ⟨(Nat.le_of_ble_eq_true rfl), (Nat.le_of_ble_eq_true rfl)⟩ (fun r_1 hr_ => ?_)
  subst hr_
  refine lv_if_eq (tgt := 23) hx hb dX11_thingIs_11 (by decide) (fun _ => ?_) (fun h9 => absurd h9 (by decide))
  refine lv_aload_n hx hb dX11_thingIs_23 rfl (lv_at hl 0 rfl) ?_
  refine lv_iconst (v := 1) hx hb dX11_thingIs_24 (by decide) ?_
  refine wV (B := (fun _ => True)) (wr := [(lv, .inr (10, [.ref st, .ref la, .ref le, .ref ta, .ref wa, .ref wk, .int 0, .int 0])), (st, .inr (7, [.ref oc, .ref ki, .ref ce, .ref si, .ref sp, .int 0]))]) (rest := []) hx hb hml hown hts hE (c_X11_error l G cy sk s.heap.size x lv kp tr_ sh er re fi vo fe 1 (-1000001) 0 (by first | decide | (unfold inR; decide)) (by decide)) kV_X11_error m_500 rfl rfl ⟨(Nat.le_of_ble_eq_true rfl), (Nat.le_of_ble_eq_true rfl)⟩ hP hD hS hA 0 rfl rfl rfl [0, 1] [2, 3] rfl rfl rfl rfl (by decide) rfl rfl hl.1 (Nat.le_of_ble_eq_true rfl) dX11_thingIs_25 ⟨(Nat.le_of_ble_eq_true rfl), (Nat.le_of_ble_eq_true rfl)⟩ (fun r_2 H locs hr_ haf hS => ?_)
  obtain ⟨-, -, hP, hD⟩ := haf
  have hP : va_P G classes [(lv, .inr (10, [.ref st, .ref la, .ref le, .ref ta, .ref wa, .ref wk, .int 0, .int 0])), (st, .inr (7, [.ref oc, .ref ki, .ref ce, .ref si, .ref sp, .int 0]))] H := hP
  have hD : va_D A [(lv, .inr (10, [.ref st, .ref la, .ref le, .ref ta, .ref wa, .ref wk, .int 0, .int 0])), (st, .inr (7, [.ref oc, .ref ki, .ref ce, .ref si, .ref sp, .int 0]))] := hD
  subst hr_
  refine W.widen (k := 0) (n := 0) (by first | exact Nat.le_of_ble_eq_true rfl | omega) (by first | exact Nat.le_of_ble_eq_true rfl | omega) ?_
  exact W.iret (v := (-1000001)) hx hb hr (fun t ht hW => ⟨⟨(-1000001), (), rfl, rfl, trivial⟩, hS.F ht⟩) hS.2.2 dX11_thingIs_28
set_option maxHeartbeats 4000000 in
set_option maxRecDepth 100000 in
theorem c_X11_moves (l : Launch) (G : va_G) (cy : Nat → ClassId) (sk : Nat → Nat) (sz : Nat) (x : Nat) (lv : Nat) (kp : Nat) (tr_ : Nat) (sh : Nat) (er : Nat) (re : Nat) (fi : Nat) (vo : Nat) (fe : Nat → Int32) (st : Nat) (la : Nat) (le : Nat) (ta : Nat) (wa : Nat) (wk : Nat) (oc : Nat) (ki : Nat) (ce : Nat) (si : Nat) (sp : Nat) (a1 : Int32) (a2 : Int32) (a3 : Int32)  : Met l yX11_moves (wsO yX11_moves cX11_moves 5 (some .int)) ({ frames := 1, cells := 0, slots := 0, locals := 21 }) (va_Pc [.ref x, .int a1, .int a2, .int a3] (PR G cy sk sz [(x, .inr (11, [.ref lv, .ref kp, .ref tr_, .ref sh, .ref er, .ref re, .ref fi, .ref vo, .int 0])), (er, .inl (cy 0, 7, .inl fe)), (lv, .inr (10, [.ref st, .ref la, .ref le, .ref ta, .ref wa, .ref wk, .int 0, .int 0])), (st, .inr (7, [.ref oc, .ref ki, .ref ce, .ref si, .ref sp, .int 0]))])) (va_Qi (fun r (_ : Unit) => r = (-1000001)) (fun _ _ => True) (va_A [(x, .inr (11, [.ref lv, .ref kp, .ref tr_, .ref sh, .ref er, .ref re, .ref fi, .ref vo, .int 0])), (er, .inl (cy 0, 7, .inl fe)), (lv, .inr (10, [.ref st, .ref la, .ref le, .ref ta, .ref wa, .ref wk, .int 0, .int 0])), (st, .inr (7, [.ref oc, .ref ki, .ref ce, .ref si, .ref sp, .int 0]))] sz)) 0 0 (va_A [(x, .inr (11, [.ref lv, .ref kp, .ref tr_, .ref sh, .ref er, .ref re, .ref fi, .ref vo, .int 0])), (er, .inl (cy 0, 7, .inl fe)), (lv, .inr (10, [.ref st, .ref la, .ref le, .ref ta, .ref wa, .ref wk, .int 0, .int 0])), (st, .inr (7, [.ref oc, .ref ki, .ref ce, .ref si, .ref sp, .int 0]))] sz) := by
  refine mt (by decide) (Nat.le_of_ble_eq_true rfl) ?_
  intro p e s m below meth c ls hx hb hr hml hts hown hlocks hin hsz hP hE hD hl
  subst hsz
  have hl : lv_has ls 5 [(0, .ref x), (1, .int a1), (2, .int a2), (3, .int a3)] := hl
  have hD := hD.self (sz := s.heap.size)
  generalize hAe : va_A [(x, .inr (11, [.ref lv, .ref kp, .ref tr_, .ref sh, .ref er, .ref re, .ref fi, .ref vo, .int 0])), (er, .inl (cy 0, 7, .inl fe)), (lv, .inr (10, [.ref st, .ref la, .ref le, .ref ta, .ref wa, .ref wk, .int 0, .int 0])), (st, .inr (7, [.ref oc, .ref ki, .ref ce, .ref si, .ref sp, .int 0]))] s.heap.size = A at hD ⊢
  have hA : ∀ q : Nat, s.heap.size ≤ q → A q := fun q h => by rw [← hAe]; exact Or.inr h
  have hS : va_S A s.heap s.heap [] := va_S.rf
  refine lv_aload_n hx hb dX11_moves_0 rfl (lv_at hl 0 rfl) ?_
  refine va_get (D := G) (ci := 11) (v := .ref lv) (C := RX11) (T := TX11) (N := 9) hx hb hts inB11 hown hE.1 hP 0 rfl rfl 0 (by decide) (hts _ m_459) (fun _ h9 => h9) rfl dX11_moves_1 ?_
  refine va_getN (D := G) (ci := 10) (v := .ref st) (C := RX10) (T := TX10) (N := 8) hx hb hts inB10 hown hE.1 hP 2 rfl rfl 0 (by decide) (nf_RX11_71 hE) (fun _ h9 => h9) rfl dX11_moves_4 ?_
  refine lv_astore (lv' := [(4, .ref st), (0, .ref x), (1, .int a1), (2, .int a2), (3, .int a3)]) hx hb dX11_moves_7 hl (by decide) rfl (fun ls hl => ?_)
  refine lv_aload hx hb dX11_moves_9 (lv_at hl 0 rfl) ?_
  refine lv_iload_n hx hb dX11_moves_11 rfl (lv_at hl 2 rfl) ?_
  refine rV (rest := []) hx hb hml hown hts hE (c_X7_hasThing l G cy sk s.heap.size st oc ki ce si sp a1) kV_X7_hasThing m_526 rfl rfl ⟨(Nat.le_of_ble_eq_true rfl), (Nat.le_of_ble_eq_true rfl)⟩ hP hD 3 rfl rfl rfl [3] rfl rfl rfl rfl hl.1 (Nat.le_of_ble_eq_true rfl) dX11_moves_12 ⟨(Nat.le_of_ble_eq_true rfl), (Nat.le_of_ble_eq_true rfl)⟩ (fun r_1 hr_ => ?_)
  subst hr_
  refine lv_if_eq (tgt := 35) hx hb dX11_moves_15 (by decide) (fun _ => ?_) (fun h9 => absurd h9 (by decide))
  refine lv_aload_n hx hb dX11_moves_35 rfl (lv_at hl 1 rfl) ?_
  refine lv_iconst (v := 1) hx hb dX11_moves_36 (by decide) ?_
  refine wV (B := (fun _ => True)) (wr := [(lv, .inr (10, [.ref st, .ref la, .ref le, .ref ta, .ref wa, .ref wk, .int 0, .int 0])), (st, .inr (7, [.ref oc, .ref ki, .ref ce, .ref si, .ref sp, .int 0]))]) (rest := []) hx hb hml hown hts hE (c_X11_error l G cy sk s.heap.size x lv kp tr_ sh er re fi vo fe 1 (-1000001) 0 (by first | decide | (unfold inR; decide)) (by decide)) kV_X11_error m_500 rfl rfl ⟨(Nat.le_of_ble_eq_true rfl), (Nat.le_of_ble_eq_true rfl)⟩ hP hD hS hA 0 rfl rfl rfl [0, 1] [2, 3] rfl rfl rfl rfl (by decide) rfl rfl hl.1 (Nat.le_of_ble_eq_true rfl) dX11_moves_37 ⟨(Nat.le_of_ble_eq_true rfl), (Nat.le_of_ble_eq_true rfl)⟩ (fun r_2 H locs hr_ haf hS => ?_)
  obtain ⟨-, -, hP, hD⟩ := haf
  have hP : va_P G classes [(lv, .inr (10, [.ref st, .ref la, .ref le, .ref ta, .ref wa, .ref wk, .int 0, .int 0])), (st, .inr (7, [.ref oc, .ref ki, .ref ce, .ref si, .ref sp, .int 0]))] H := hP
  have hD : va_D A [(lv, .inr (10, [.ref st, .ref la, .ref le, .ref ta, .ref wa, .ref wk, .int 0, .int 0])), (st, .inr (7, [.ref oc, .ref ki, .ref ce, .ref si, .ref sp, .int 0]))] := hD
  subst hr_
  refine W.widen (k := 0) (n := 0) (by first | exact Nat.le_of_ble_eq_true rfl | omega) (by first | exact Nat.le_of_ble_eq_true rfl | omega) ?_
  exact W.iret (v := (-1000001)) hx hb hr (fun t ht hW => ⟨⟨(-1000001), (), rfl, rfl, trivial⟩, hS.F ht⟩) hS.2.2 dX11_moves_40
set_option maxHeartbeats 4000000 in
set_option maxRecDepth 100000 in
theorem c_X11_away (l : Launch) (G : va_G) (cy : Nat → ClassId) (sk : Nat → Nat) (sz : Nat) (x : Nat) (lv : Nat) (kp : Nat) (tr_ : Nat) (sh : Nat) (er : Nat) (re : Nat) (fi : Nat) (vo : Nat) (fe : Nat → Int32) (st : Nat) (la : Nat) (le : Nat) (ta : Nat) (wa : Nat) (wk : Nat) (oc : Nat) (ki : Nat) (ce : Nat) (si : Nat) (sp : Nat) (a1 : Int32)  : Met l yX11_away (wsO yX11_away cX11_away 2 (some .int)) ({ frames := 1, cells := 0, slots := 0, locals := 21 }) (va_Pc [.ref x, .int a1] (PR G cy sk sz [(x, .inr (11, [.ref lv, .ref kp, .ref tr_, .ref sh, .ref er, .ref re, .ref fi, .ref vo, .int 0])), (er, .inl (cy 0, 7, .inl fe)), (lv, .inr (10, [.ref st, .ref la, .ref le, .ref ta, .ref wa, .ref wk, .int 0, .int 0])), (st, .inr (7, [.ref oc, .ref ki, .ref ce, .ref si, .ref sp, .int 0]))])) (va_Qi (fun r (_ : Unit) => r = (-1000001)) (fun _ _ => True) (va_A [(x, .inr (11, [.ref lv, .ref kp, .ref tr_, .ref sh, .ref er, .ref re, .ref fi, .ref vo, .int 0])), (er, .inl (cy 0, 7, .inl fe)), (lv, .inr (10, [.ref st, .ref la, .ref le, .ref ta, .ref wa, .ref wk, .int 0, .int 0])), (st, .inr (7, [.ref oc, .ref ki, .ref ce, .ref si, .ref sp, .int 0]))] sz)) 0 0 (va_A [(x, .inr (11, [.ref lv, .ref kp, .ref tr_, .ref sh, .ref er, .ref re, .ref fi, .ref vo, .int 0])), (er, .inl (cy 0, 7, .inl fe)), (lv, .inr (10, [.ref st, .ref la, .ref le, .ref ta, .ref wa, .ref wk, .int 0, .int 0])), (st, .inr (7, [.ref oc, .ref ki, .ref ce, .ref si, .ref sp, .int 0]))] sz) := by
  refine mt (by decide) (Nat.le_of_ble_eq_true rfl) ?_
  intro p e s m below meth c ls hx hb hr hml hts hown hlocks hin hsz hP hE hD hl
  subst hsz
  have hl : lv_has ls 2 [(0, .ref x), (1, .int a1)] := hl
  have hD := hD.self (sz := s.heap.size)
  generalize hAe : va_A [(x, .inr (11, [.ref lv, .ref kp, .ref tr_, .ref sh, .ref er, .ref re, .ref fi, .ref vo, .int 0])), (er, .inl (cy 0, 7, .inl fe)), (lv, .inr (10, [.ref st, .ref la, .ref le, .ref ta, .ref wa, .ref wk, .int 0, .int 0])), (st, .inr (7, [.ref oc, .ref ki, .ref ce, .ref si, .ref sp, .int 0]))] s.heap.size = A at hD ⊢
  have hA : ∀ q : Nat, s.heap.size ≤ q → A q := fun q h => by rw [← hAe]; exact Or.inr h
  have hS : va_S A s.heap s.heap [] := va_S.rf
  refine lv_aload_n hx hb dX11_away_0 rfl (lv_at hl 0 rfl) ?_
  refine va_get (D := G) (ci := 11) (v := .ref lv) (C := RX11) (T := TX11) (N := 9) hx hb hts inB11 hown hE.1 hP 0 rfl rfl 0 (by decide) (hts _ m_459) (fun _ h9 => h9) rfl dX11_away_1 ?_
  refine va_getN (D := G) (ci := 10) (v := .ref st) (C := RX10) (T := TX10) (N := 8) hx hb hts inB10 hown hE.1 hP 2 rfl rfl 0 (by decide) (nf_RX11_71 hE) (fun _ h9 => h9) rfl dX11_away_4 ?_
  refine lv_iload_n hx hb dX11_away_7 rfl (lv_at hl 1 rfl) ?_
  refine rV (rest := []) hx hb hml hown hts hE (c_X7_hasThing l G cy sk s.heap.size st oc ki ce si sp a1) kV_X7_hasThing m_526 rfl rfl ⟨(Nat.le_of_ble_eq_true rfl), (Nat.le_of_ble_eq_true rfl)⟩ hP hD 3 rfl rfl rfl [3] rfl rfl rfl rfl hl.1 (Nat.le_of_ble_eq_true rfl) dX11_away_8 ⟨(Nat.le_of_ble_eq_true rfl), (Nat.le_of_ble_eq_true rfl)⟩ (fun r_1 hr_ => ?_)
  subst hr_
  refine lv_if_ne (tgt := 20) hx hb dX11_away_11 (by decide) (fun h9 => absurd h9 (by decide)) (fun _ => ?_)
  refine lv_aload_n hx hb dX11_away_14 rfl (lv_at hl 0 rfl) ?_
  refine lv_iconst (v := 1) hx hb dX11_away_15 (by decide) ?_
  refine wV (B := (fun _ => True)) (wr := [(lv, .inr (10, [.ref st, .ref la, .ref le, .ref ta, .ref wa, .ref wk, .int 0, .int 0])), (st, .inr (7, [.ref oc, .ref ki, .ref ce, .ref si, .ref sp, .int 0]))]) (rest := []) hx hb hml hown hts hE (c_X11_error l G cy sk s.heap.size x lv kp tr_ sh er re fi vo fe 1 (-1000001) 0 (by first | decide | (unfold inR; decide)) (by decide)) kV_X11_error m_500 rfl rfl ⟨(Nat.le_of_ble_eq_true rfl), (Nat.le_of_ble_eq_true rfl)⟩ hP hD hS hA 0 rfl rfl rfl [0, 1] [2, 3] rfl rfl rfl rfl (by decide) rfl rfl hl.1 (Nat.le_of_ble_eq_true rfl) dX11_away_16 ⟨(Nat.le_of_ble_eq_true rfl), (Nat.le_of_ble_eq_true rfl)⟩ (fun r_2 H locs hr_ haf hS => ?_)
  obtain ⟨-, -, hP, hD⟩ := haf
  have hP : va_P G classes [(lv, .inr (10, [.ref st, .ref la, .ref le, .ref ta, .ref wa, .ref wk, .int 0, .int 0])), (st, .inr (7, [.ref oc, .ref ki, .ref ce, .ref si, .ref sp, .int 0]))] H := hP
  have hD : va_D A [(lv, .inr (10, [.ref st, .ref la, .ref le, .ref ta, .ref wa, .ref wk, .int 0, .int 0])), (st, .inr (7, [.ref oc, .ref ki, .ref ce, .ref si, .ref sp, .int 0]))] := hD
  subst hr_
  refine W.widen (k := 0) (n := 0) (by first | exact Nat.le_of_ble_eq_true rfl | omega) (by first | exact Nat.le_of_ble_eq_true rfl | omega) ?_
  exact W.iret (v := (-1000001)) hx hb hr (fun t ht hW => ⟨⟨(-1000001), (), rfl, rfl, trivial⟩, hS.F ht⟩) hS.2.2 dX11_away_19
theorem lf_c_X11_kind_0 (fl : Nat → Int32) (ak : Int32) (aw : Int32) (av : Int32) (hfl : ∀ j, j < 5 → fl j = 50) (h_2 : inR ak 0 4) (h_4 : inR aw 0 1) (c_5 : ¬ aw = 0) (h_7 : inR av 0 9) : ((if aw = 0 then 50 else 0) : Int32) = (F_kind ak aw av) := by first | (simp only [F_kind, *, and_true, true_and, and_false, false_and, if_true, if_false]; done) | (simp [F_kind, *]; done) | (unfold F_kind; simp_all; done)
theorem lf_c_X11_kind_1 (fl : Nat → Int32) (ak : Int32) (aw : Int32) (av : Int32) (hfl : ∀ j, j < 5 → fl j = 50) (h_2 : inR ak 0 4) (h_4 : inR aw 0 1) (c_5 : ¬ aw = 0) (h_7 : ¬ inR av 0 9) : ((-1000001) : Int32) = (F_kind ak aw av) := by first | (simp only [F_kind, *, and_true, true_and, and_false, false_and, if_true, if_false]; done) | (simp [F_kind, *]; done) | (unfold F_kind; simp_all; done)
theorem lf_c_X11_kind_2 (fl : Nat → Int32) (ak : Int32) (aw : Int32) (av : Int32) (hfl : ∀ j, j < 5 → fl j = 50) (h_2 : inR ak 0 4) (h_4 : inR aw 0 1) (c_5 : aw = 0) (h_11 : inR av 0 99) : ((if aw = 0 then 50 else 0) : Int32) = (F_kind ak aw av) := by first | (simp only [F_kind, *, and_true, true_and, and_false, false_and, if_true, if_false]; done) | (simp [F_kind, *]; done) | (unfold F_kind; simp_all; done)
theorem lf_c_X11_kind_3 (fl : Nat → Int32) (ak : Int32) (aw : Int32) (av : Int32) (hfl : ∀ j, j < 5 → fl j = 50) (h_2 : inR ak 0 4) (h_4 : inR aw 0 1) (c_5 : aw = 0) (h_11 : ¬ inR av 0 99) : ((-1000001) : Int32) = (F_kind ak aw av) := by first | (simp only [F_kind, *, and_true, true_and, and_false, false_and, if_true, if_false]; done) | (simp [F_kind, *]; done) | (unfold F_kind; simp_all; done)
theorem lf_c_X11_kind_4 (fl : Nat → Int32) (ak : Int32) (aw : Int32) (av : Int32) (hfl : ∀ j, j < 5 → fl j = 50) (h_2 : inR ak 0 4) (h_4 : ¬ inR aw 0 1) : ((-1000001) : Int32) = (F_kind ak aw av) := by first | (simp only [F_kind, *, and_true, true_and, and_false, false_and, if_true, if_false]; done) | (simp [F_kind, *]; done) | (unfold F_kind; simp_all; done)
theorem lf_c_X11_kind_5 (fl : Nat → Int32) (ak : Int32) (aw : Int32) (av : Int32) (hfl : ∀ j, j < 5 → fl j = 50) (h_2 : ¬ inR ak 0 4) : ((-1000001) : Int32) = (F_kind ak aw av) := by first | (simp only [F_kind, *, and_true, true_and, and_false, false_and, if_true, if_false]; done) | (simp [F_kind, *]; done) | (unfold F_kind; simp_all; done)
set_option maxHeartbeats 4000000 in
set_option maxRecDepth 100000 in
theorem c_X11_kind (l : Launch) (G : va_G) (cy : Nat → ClassId) (sk : Nat → Nat) (sz : Nat) (x : Nat) (lv : Nat) (kp : Nat) (tr_ : Nat) (sh : Nat) (er : Nat) (re : Nat) (fi : Nat) (vo : Nat) (fe : Nat → Int32) (lv : Nat) (st : Nat) (la : Nat) (le : Nat) (ta : Nat) (wa : Nat) (wk : Nat) (ld : Nat) (sr : Nat) (tx : Nat) (vl : Nat) (fl : Nat → Int32) (ak : Int32) (aw : Int32) (av : Int32) (hfl : ∀ j, j < 5 → fl j = 50) : Met l yX11_kind (wsO yX11_kind cX11_kind 4 (some .int)) ({ frames := 2, cells := 0, slots := 0, locals := 42 }) (va_Pc [.ref x, .int ak, .int aw, .int av] (PR G cy sk sz [(x, .inr (11, [.ref lv, .ref kp, .ref tr_, .ref sh, .ref er, .ref re, .ref fi, .ref vo, .int 0])), (er, .inl (cy 0, 7, .inl fe)), (lv, .inr (10, [.ref st, .ref la, .ref le, .ref ta, .ref wa, .ref wk, .int 0, .int 0])), (la, .inr (2, [.int 5, .int 9, .int 0, .ref ld, .ref sr, .ref tx, .ref vl])), (ld, .inl (cy 0, 5, .inl fl)), (sr, .inl (cy 0, 5, .inl (fun _ => 0)))])) (va_Qi (fun r (_ : Unit) => r = (F_kind ak aw av)) (fun _ _ => True) (va_A [(x, .inr (11, [.ref lv, .ref kp, .ref tr_, .ref sh, .ref er, .ref re, .ref fi, .ref vo, .int 0])), (er, .inl (cy 0, 7, .inl fe)), (lv, .inr (10, [.ref st, .ref la, .ref le, .ref ta, .ref wa, .ref wk, .int 0, .int 0])), (la, .inr (2, [.int 5, .int 9, .int 0, .ref ld, .ref sr, .ref tx, .ref vl])), (ld, .inl (cy 0, 5, .inl fl)), (sr, .inl (cy 0, 5, .inl (fun _ => 0)))] sz)) 0 0 (va_A [(x, .inr (11, [.ref lv, .ref kp, .ref tr_, .ref sh, .ref er, .ref re, .ref fi, .ref vo, .int 0])), (er, .inl (cy 0, 7, .inl fe)), (lv, .inr (10, [.ref st, .ref la, .ref le, .ref ta, .ref wa, .ref wk, .int 0, .int 0])), (la, .inr (2, [.int 5, .int 9, .int 0, .ref ld, .ref sr, .ref tx, .ref vl])), (ld, .inl (cy 0, 5, .inl fl)), (sr, .inl (cy 0, 5, .inl (fun _ => 0)))] sz) := by
  refine mt (by decide) (Nat.le_of_ble_eq_true rfl) ?_
  intro p e s m below meth c ls hx hb hr hml hts hown hlocks hin hsz hP hE hD hl
  subst hsz
  have hl : lv_has ls 4 [(0, .ref x), (1, .int ak), (2, .int aw), (3, .int av)] := hl
  have hD := hD.self (sz := s.heap.size)
  generalize hAe : va_A [(x, .inr (11, [.ref lv, .ref kp, .ref tr_, .ref sh, .ref er, .ref re, .ref fi, .ref vo, .int 0])), (er, .inl (cy 0, 7, .inl fe)), (lv, .inr (10, [.ref st, .ref la, .ref le, .ref ta, .ref wa, .ref wk, .int 0, .int 0])), (la, .inr (2, [.int 5, .int 9, .int 0, .ref ld, .ref sr, .ref tx, .ref vl])), (ld, .inl (cy 0, 5, .inl fl)), (sr, .inl (cy 0, 5, .inl (fun _ => 0)))] s.heap.size = A at hD ⊢
  have hA : ∀ q : Nat, s.heap.size ≤ q → A q := fun q h => by rw [← hAe]; exact Or.inr h
  have hS : va_S A s.heap s.heap [] := va_S.rf
  refine lv_iload_n hx hb dX11_kind_0 rfl (lv_at hl 1 rfl) ?_
  refine rS (rest := []) hx hb hml hown hts hE (c_X11_isThingKind l G cy sk s.heap.size ak) kS_X11_isThingKind m_491 rfl rfl ⟨(Nat.le_of_ble_eq_true rfl), (Nat.le_of_ble_eq_true rfl)⟩ hP hD [] rfl rfl rfl rfl hl.1 (Nat.le_of_ble_eq_true rfl) dX11_kind_1 ⟨(Nat.le_of_ble_eq_true rfl), (Nat.le_of_ble_eq_true rfl)⟩ (fun r_1 hr_ => ?_)
  rcases hr_ with ⟨rfl, h_2⟩ | ⟨rfl, h_2⟩
  · refine lv_if_eq (tgt := 35) hx hb dX11_kind_4 (by decide) (fun h9 => absurd h9 (by decide)) (fun _ => ?_)
    refine lv_iload_n hx hb dX11_kind_7 rfl (lv_at hl 2 rfl) ?_
    refine lv_iconst (v := 0) hx hb dX11_kind_8 (by decide) ?_
    refine lv_iconst (v := 1) hx hb dX11_kind_9 (by decide) ?_
    refine rS (rest := []) hx hb hml hown hts hE (c_X11_within l G cy sk s.heap.size aw 0 1) kS_X11_within m_494 rfl rfl ⟨(Nat.le_of_ble_eq_true rfl), (Nat.le_of_ble_eq_true rfl)⟩ hP hD [] rfl rfl rfl rfl hl.1 (Nat.le_of_ble_eq_true rfl) dX11_kind_10 ⟨(Nat.le_of_ble_eq_true rfl), (Nat.le_of_ble_eq_true rfl)⟩ (fun r_3 hr_ => ?_)
    rcases hr_ with ⟨rfl, h_4⟩ | ⟨rfl, h_4⟩
    · refine lv_if_eq (tgt := 35) hx hb dX11_kind_13 (by decide) (fun h9 => absurd h9 (by decide)) (fun _ => ?_)
      refine lv_iload_n hx hb dX11_kind_16 rfl (lv_at hl 3 rfl) ?_
      refine lv_iconst (v := 0) hx hb dX11_kind_17 (by decide) ?_
      refine lv_iload_n hx hb dX11_kind_18 rfl (lv_at hl 2 rfl) ?_
      refine lv_if_ne (tgt := 27) hx hb dX11_kind_19 (by decide) (fun c_5 => ?_) (fun c_5 => ?_)
      · refine lv_bipush (v := 9) hx hb dX11_kind_27 (by decide) ?_
        refine rS (rest := []) hx hb hml hown hts hE (c_X11_within l G cy sk s.heap.size av 0 9) kS_X11_within m_494 rfl rfl ⟨(Nat.le_of_ble_eq_true rfl), (Nat.le_of_ble_eq_true rfl)⟩ hP hD [] rfl rfl rfl rfl hl.1 (Nat.le_of_ble_eq_true rfl) dX11_kind_29 ⟨(Nat.le_of_ble_eq_true rfl), (Nat.le_of_ble_eq_true rfl)⟩ (fun r_6 hr_ => ?_)
        rcases hr_ with ⟨rfl, h_7⟩ | ⟨rfl, h_7⟩
        · refine lv_if_ne (tgt := 41) hx hb dX11_kind_32 (by decide) (fun _ => ?_) (fun h9 => absurd h9 (by decide))
          refine lv_aload_n hx hb dX11_kind_41 rfl (lv_at hl 0 rfl) ?_
          refine va_get (D := G) (ci := 11) (v := .ref lv) (C := RX11) (T := TX11) (N := 9) hx hb hts inB11 hown hE.1 hP 0 rfl rfl 0 (by decide) (hts _ m_459) (fun _ h9 => h9) rfl dX11_kind_42 ?_
          refine va_getN (D := G) (ci := 10) (v := .ref la) (C := RX10) (T := TX10) (N := 8) hx hb hts inB10 hown hE.1 hP 2 rfl rfl 1 (by decide) (nf_RX11_114 hE) (fun _ h9 => h9) rfl dX11_kind_45 ?_
          refine lv_iload_n hx hb dX11_kind_48 rfl (lv_at hl 1 rfl) ?_
          refine lv_iload_n hx hb dX11_kind_49 rfl (lv_at hl 2 rfl) ?_
          refine lv_iload_n hx hb dX11_kind_50 rfl (lv_at hl 3 rfl) ?_
          refine wV (B := (fun _ => True)) (wr := [(x, .inr (11, [.ref lv, .ref kp, .ref tr_, .ref sh, .ref er, .ref re, .ref fi, .ref vo, .int 0])), (er, .inl (cy 0, 7, .inl fe)), (lv, .inr (10, [.ref st, .ref la, .ref le, .ref ta, .ref wa, .ref wk, .int 0, .int 0]))]) (rest := []) hx hb hml hown hts hE (c_X2_changeKind l G cy sk s.heap.size la ld sr tx vl fl ak aw av hfl h_2) kV_X2_changeKind m_554 rfl rfl ⟨(Nat.le_of_ble_eq_true rfl), (Nat.le_of_ble_eq_true rfl)⟩ hP hD hS hA 3 rfl rfl rfl [3, 4, 5] [0, 1, 2] rfl rfl rfl rfl (by decide) rfl rfl hl.1 (Nat.le_of_ble_eq_true rfl) dX11_kind_51 ⟨(Nat.le_of_ble_eq_true rfl), (Nat.le_of_ble_eq_true rfl)⟩ (fun r_8 H locs hr_ haf hS => ?_)
          obtain ⟨-, -, hP, hD⟩ := haf
          have hP : va_P G classes [(x, .inr (11, [.ref lv, .ref kp, .ref tr_, .ref sh, .ref er, .ref re, .ref fi, .ref vo, .int 0])), (er, .inl (cy 0, 7, .inl fe)), (lv, .inr (10, [.ref st, .ref la, .ref le, .ref ta, .ref wa, .ref wk, .int 0, .int 0]))] H := hP
          have hD : va_D A [(x, .inr (11, [.ref lv, .ref kp, .ref tr_, .ref sh, .ref er, .ref re, .ref fi, .ref vo, .int 0])), (er, .inl (cy 0, 7, .inl fe)), (lv, .inr (10, [.ref st, .ref la, .ref le, .ref ta, .ref wa, .ref wk, .int 0, .int 0]))] := hD
          subst hr_
          refine W.widen (k := 0) (n := 0) (by first | exact Nat.le_of_ble_eq_true rfl | omega) (by first | exact Nat.le_of_ble_eq_true rfl | omega) ?_
          exact W.iret (v := (if aw = 0 then 50 else 0)) hx hb hr (fun t ht hW => ⟨⟨(if aw = 0 then 50 else 0), (), rfl, (lf_c_X11_kind_0 fl ak aw av hfl h_2 h_4 c_5 h_7), trivial⟩, hS.F ht⟩) hS.2.2 dX11_kind_54
        · refine lv_if_ne (tgt := 41) hx hb dX11_kind_32 (by decide) (fun h9 => absurd h9 (by decide)) (fun _ => ?_)
          refine lv_aload_n hx hb dX11_kind_35 rfl (lv_at hl 0 rfl) ?_
          refine lv_iconst (v := 1) hx hb dX11_kind_36 (by decide) ?_
          refine wV (B := (fun _ => True)) (wr := [(lv, .inr (10, [.ref st, .ref la, .ref le, .ref ta, .ref wa, .ref wk, .int 0, .int 0])), (la, .inr (2, [.int 5, .int 9, .int 0, .ref ld, .ref sr, .ref tx, .ref vl])), (ld, .inl (cy 0, 5, .inl fl)), (sr, .inl (cy 0, 5, .inl (fun _ => 0)))]) (rest := []) hx hb hml hown hts hE (c_X11_error l G cy sk s.heap.size x lv kp tr_ sh er re fi vo fe 1 (-1000001) 0 (by first | decide | (unfold inR; decide)) (by decide)) kV_X11_error m_500 rfl rfl ⟨(Nat.le_of_ble_eq_true rfl), (Nat.le_of_ble_eq_true rfl)⟩ hP hD hS hA 0 rfl rfl rfl [0, 1] [2, 3, 4, 5] rfl rfl rfl rfl (by decide) rfl rfl hl.1 (Nat.le_of_ble_eq_true rfl) dX11_kind_37 ⟨(Nat.le_of_ble_eq_true rfl), (Nat.le_of_ble_eq_true rfl)⟩ (fun r_9 H locs hr_ haf hS => ?_)
          obtain ⟨-, -, hP, hD⟩ := haf
          have hP : va_P G classes [(lv, .inr (10, [.ref st, .ref la, .ref le, .ref ta, .ref wa, .ref wk, .int 0, .int 0])), (la, .inr (2, [.int 5, .int 9, .int 0, .ref ld, .ref sr, .ref tx, .ref vl])), (ld, .inl (cy 0, 5, .inl fl)), (sr, .inl (cy 0, 5, .inl (fun _ => 0)))] H := hP
          have hD : va_D A [(lv, .inr (10, [.ref st, .ref la, .ref le, .ref ta, .ref wa, .ref wk, .int 0, .int 0])), (la, .inr (2, [.int 5, .int 9, .int 0, .ref ld, .ref sr, .ref tx, .ref vl])), (ld, .inl (cy 0, 5, .inl fl)), (sr, .inl (cy 0, 5, .inl (fun _ => 0)))] := hD
          subst hr_
          refine W.widen (k := 0) (n := 0) (by first | exact Nat.le_of_ble_eq_true rfl | omega) (by first | exact Nat.le_of_ble_eq_true rfl | omega) ?_
          exact W.iret (v := (-1000001)) hx hb hr (fun t ht hW => ⟨⟨(-1000001), (), rfl, (lf_c_X11_kind_1 fl ak aw av hfl h_2 h_4 c_5 h_7), trivial⟩, hS.F ht⟩) hS.2.2 dX11_kind_40
      · refine lv_bipush (v := 99) hx hb dX11_kind_22 (by decide) ?_
        refine lv_goto (tgt := 29) hx hb dX11_kind_24 (by decide) ?_
        refine rS (rest := []) hx hb hml hown hts hE (c_X11_within l G cy sk s.heap.size av 0 99) kS_X11_within m_494 rfl rfl ⟨(Nat.le_of_ble_eq_true rfl), (Nat.le_of_ble_eq_true rfl)⟩ hP hD [] rfl rfl rfl rfl hl.1 (Nat.le_of_ble_eq_true rfl) dX11_kind_29 ⟨(Nat.le_of_ble_eq_true rfl), (Nat.le_of_ble_eq_true rfl)⟩ (fun r_10 hr_ => ?_)
        rcases hr_ with ⟨rfl, h_11⟩ | ⟨rfl, h_11⟩
        · refine lv_if_ne (tgt := 41) hx hb dX11_kind_32 (by decide) (fun _ => ?_) (fun h9 => absurd h9 (by decide))
          refine lv_aload_n hx hb dX11_kind_41 rfl (lv_at hl 0 rfl) ?_
          refine va_get (D := G) (ci := 11) (v := .ref lv) (C := RX11) (T := TX11) (N := 9) hx hb hts inB11 hown hE.1 hP 0 rfl rfl 0 (by decide) (hts _ m_459) (fun _ h9 => h9) rfl dX11_kind_42 ?_
          refine va_getN (D := G) (ci := 10) (v := .ref la) (C := RX10) (T := TX10) (N := 8) hx hb hts inB10 hown hE.1 hP 2 rfl rfl 1 (by decide) (nf_RX11_114 hE) (fun _ h9 => h9) rfl dX11_kind_45 ?_
          refine lv_iload_n hx hb dX11_kind_48 rfl (lv_at hl 1 rfl) ?_
          refine lv_iload_n hx hb dX11_kind_49 rfl (lv_at hl 2 rfl) ?_
          refine lv_iload_n hx hb dX11_kind_50 rfl (lv_at hl 3 rfl) ?_
          refine wV (B := (fun _ => True)) (wr := [(x, .inr (11, [.ref lv, .ref kp, .ref tr_, .ref sh, .ref er, .ref re, .ref fi, .ref vo, .int 0])), (er, .inl (cy 0, 7, .inl fe)), (lv, .inr (10, [.ref st, .ref la, .ref le, .ref ta, .ref wa, .ref wk, .int 0, .int 0]))]) (rest := []) hx hb hml hown hts hE (c_X2_changeKind l G cy sk s.heap.size la ld sr tx vl fl ak aw av hfl h_2) kV_X2_changeKind m_554 rfl rfl ⟨(Nat.le_of_ble_eq_true rfl), (Nat.le_of_ble_eq_true rfl)⟩ hP hD hS hA 3 rfl rfl rfl [3, 4, 5] [0, 1, 2] rfl rfl rfl rfl (by decide) rfl rfl hl.1 (Nat.le_of_ble_eq_true rfl) dX11_kind_51 ⟨(Nat.le_of_ble_eq_true rfl), (Nat.le_of_ble_eq_true rfl)⟩ (fun r_12 H locs hr_ haf hS => ?_)
          obtain ⟨-, -, hP, hD⟩ := haf
          have hP : va_P G classes [(x, .inr (11, [.ref lv, .ref kp, .ref tr_, .ref sh, .ref er, .ref re, .ref fi, .ref vo, .int 0])), (er, .inl (cy 0, 7, .inl fe)), (lv, .inr (10, [.ref st, .ref la, .ref le, .ref ta, .ref wa, .ref wk, .int 0, .int 0]))] H := hP
          have hD : va_D A [(x, .inr (11, [.ref lv, .ref kp, .ref tr_, .ref sh, .ref er, .ref re, .ref fi, .ref vo, .int 0])), (er, .inl (cy 0, 7, .inl fe)), (lv, .inr (10, [.ref st, .ref la, .ref le, .ref ta, .ref wa, .ref wk, .int 0, .int 0]))] := hD
          subst hr_
          refine W.widen (k := 0) (n := 0) (by first | exact Nat.le_of_ble_eq_true rfl | omega) (by first | exact Nat.le_of_ble_eq_true rfl | omega) ?_
          exact W.iret (v := (if aw = 0 then 50 else 0)) hx hb hr (fun t ht hW => ⟨⟨(if aw = 0 then 50 else 0), (), rfl, (lf_c_X11_kind_2 fl ak aw av hfl h_2 h_4 c_5 h_11), trivial⟩, hS.F ht⟩) hS.2.2 dX11_kind_54
        · refine lv_if_ne (tgt := 41) hx hb dX11_kind_32 (by decide) (fun h9 => absurd h9 (by decide)) (fun _ => ?_)
          refine lv_aload_n hx hb dX11_kind_35 rfl (lv_at hl 0 rfl) ?_
          refine lv_iconst (v := 1) hx hb dX11_kind_36 (by decide) ?_
          refine wV (B := (fun _ => True)) (wr := [(lv, .inr (10, [.ref st, .ref la, .ref le, .ref ta, .ref wa, .ref wk, .int 0, .int 0])), (la, .inr (2, [.int 5, .int 9, .int 0, .ref ld, .ref sr, .ref tx, .ref vl])), (ld, .inl (cy 0, 5, .inl fl)), (sr, .inl (cy 0, 5, .inl (fun _ => 0)))]) (rest := []) hx hb hml hown hts hE (c_X11_error l G cy sk s.heap.size x lv kp tr_ sh er re fi vo fe 1 (-1000001) 0 (by first | decide | (unfold inR; decide)) (by decide)) kV_X11_error m_500 rfl rfl ⟨(Nat.le_of_ble_eq_true rfl), (Nat.le_of_ble_eq_true rfl)⟩ hP hD hS hA 0 rfl rfl rfl [0, 1] [2, 3, 4, 5] rfl rfl rfl rfl (by decide) rfl rfl hl.1 (Nat.le_of_ble_eq_true rfl) dX11_kind_37 ⟨(Nat.le_of_ble_eq_true rfl), (Nat.le_of_ble_eq_true rfl)⟩ (fun r_13 H locs hr_ haf hS => ?_)
          obtain ⟨-, -, hP, hD⟩ := haf
          have hP : va_P G classes [(lv, .inr (10, [.ref st, .ref la, .ref le, .ref ta, .ref wa, .ref wk, .int 0, .int 0])), (la, .inr (2, [.int 5, .int 9, .int 0, .ref ld, .ref sr, .ref tx, .ref vl])), (ld, .inl (cy 0, 5, .inl fl)), (sr, .inl (cy 0, 5, .inl (fun _ => 0)))] H := hP
          have hD : va_D A [(lv, .inr (10, [.ref st, .ref la, .ref le, .ref ta, .ref wa, .ref wk, .int 0, .int 0])), (la, .inr (2, [.int 5, .int 9, .int 0, .ref ld, .ref sr, .ref tx, .ref vl])), (ld, .inl (cy 0, 5, .inl fl)), (sr, .inl (cy 0, 5, .inl (fun _ => 0)))] := hD
          subst hr_
          refine W.widen (k := 0) (n := 0) (by first | exact Nat.le_of_ble_eq_true rfl | omega) (by first | exact Nat.le_of_ble_eq_true rfl | omega) ?_
          exact W.iret (v := (-1000001)) hx hb hr (fun t ht hW => ⟨⟨(-1000001), (), rfl, (lf_c_X11_kind_3 fl ak aw av hfl h_2 h_4 c_5 h_11), trivial⟩, hS.F ht⟩) hS.2.2 dX11_kind_40
    · refine lv_if_eq (tgt := 35) hx hb dX11_kind_13 (by decide) (fun _ => ?_) (fun h9 => absurd h9 (by decide))
      refine lv_aload_n hx hb dX11_kind_35 rfl (lv_at hl 0 rfl) ?_
      refine lv_iconst (v := 1) hx hb dX11_kind_36 (by decide) ?_
      refine wV (B := (fun _ => True)) (wr := [(lv, .inr (10, [.ref st, .ref la, .ref le, .ref ta, .ref wa, .ref wk, .int 0, .int 0])), (la, .inr (2, [.int 5, .int 9, .int 0, .ref ld, .ref sr, .ref tx, .ref vl])), (ld, .inl (cy 0, 5, .inl fl)), (sr, .inl (cy 0, 5, .inl (fun _ => 0)))]) (rest := []) hx hb hml hown hts hE (c_X11_error l G cy sk s.heap.size x lv kp tr_ sh er re fi vo fe 1 (-1000001) 0 (by first | decide | (unfold inR; decide)) (by decide)) kV_X11_error m_500 rfl rfl ⟨(Nat.le_of_ble_eq_true rfl), (Nat.le_of_ble_eq_true rfl)⟩ hP hD hS hA 0 rfl rfl rfl [0, 1] [2, 3, 4, 5] rfl rfl rfl rfl (by decide) rfl rfl hl.1 (Nat.le_of_ble_eq_true rfl) dX11_kind_37 ⟨(Nat.le_of_ble_eq_true rfl), (Nat.le_of_ble_eq_true rfl)⟩ (fun r_14 H locs hr_ haf hS => ?_)
      obtain ⟨-, -, hP, hD⟩ := haf
      have hP : va_P G classes [(lv, .inr (10, [.ref st, .ref la, .ref le, .ref ta, .ref wa, .ref wk, .int 0, .int 0])), (la, .inr (2, [.int 5, .int 9, .int 0, .ref ld, .ref sr, .ref tx, .ref vl])), (ld, .inl (cy 0, 5, .inl fl)), (sr, .inl (cy 0, 5, .inl (fun _ => 0)))] H := hP
      have hD : va_D A [(lv, .inr (10, [.ref st, .ref la, .ref le, .ref ta, .ref wa, .ref wk, .int 0, .int 0])), (la, .inr (2, [.int 5, .int 9, .int 0, .ref ld, .ref sr, .ref tx, .ref vl])), (ld, .inl (cy 0, 5, .inl fl)), (sr, .inl (cy 0, 5, .inl (fun _ => 0)))] := hD
      subst hr_
      refine W.widen (k := 0) (n := 0) (by first | exact Nat.le_of_ble_eq_true rfl | omega) (by first | exact Nat.le_of_ble_eq_true rfl | omega) ?_
      exact W.iret (v := (-1000001)) hx hb hr (fun t ht hW => ⟨⟨(-1000001), (), rfl, (lf_c_X11_kind_4 fl ak aw av hfl h_2 h_4), trivial⟩, hS.F ht⟩) hS.2.2 dX11_kind_40
  · refine lv_if_eq (tgt := 35) hx hb dX11_kind_4 (by decide) (fun _ => ?_) (fun h9 => absurd h9 (by decide))
    refine lv_aload_n hx hb dX11_kind_35 rfl (lv_at hl 0 rfl) ?_
    refine lv_iconst (v := 1) hx hb dX11_kind_36 (by decide) ?_
    refine wV (B := (fun _ => True)) (wr := [(lv, .inr (10, [.ref st, .ref la, .ref le, .ref ta, .ref wa, .ref wk, .int 0, .int 0])), (la, .inr (2, [.int 5, .int 9, .int 0, .ref ld, .ref sr, .ref tx, .ref vl])), (ld, .inl (cy 0, 5, .inl fl)), (sr, .inl (cy 0, 5, .inl (fun _ => 0)))]) (rest := []) hx hb hml hown hts hE (c_X11_error l G cy sk s.heap.size x lv kp tr_ sh er re fi vo fe 1 (-1000001) 0 (by first | decide | (unfold inR; decide)) (by decide)) kV_X11_error m_500 rfl rfl ⟨(Nat.le_of_ble_eq_true rfl), (Nat.le_of_ble_eq_true rfl)⟩ hP hD hS hA 0 rfl rfl rfl [0, 1] [2, 3, 4, 5] rfl rfl rfl rfl (by decide) rfl rfl hl.1 (Nat.le_of_ble_eq_true rfl) dX11_kind_37 ⟨(Nat.le_of_ble_eq_true rfl), (Nat.le_of_ble_eq_true rfl)⟩ (fun r_15 H locs hr_ haf hS => ?_)
    obtain ⟨-, -, hP, hD⟩ := haf
    have hP : va_P G classes [(lv, .inr (10, [.ref st, .ref la, .ref le, .ref ta, .ref wa, .ref wk, .int 0, .int 0])), (la, .inr (2, [.int 5, .int 9, .int 0, .ref ld, .ref sr, .ref tx, .ref vl])), (ld, .inl (cy 0, 5, .inl fl)), (sr, .inl (cy 0, 5, .inl (fun _ => 0)))] H := hP
    have hD : va_D A [(lv, .inr (10, [.ref st, .ref la, .ref le, .ref ta, .ref wa, .ref wk, .int 0, .int 0])), (la, .inr (2, [.int 5, .int 9, .int 0, .ref ld, .ref sr, .ref tx, .ref vl])), (ld, .inl (cy 0, 5, .inl fl)), (sr, .inl (cy 0, 5, .inl (fun _ => 0)))] := hD
    subst hr_
    refine W.widen (k := 0) (n := 0) (by first | exact Nat.le_of_ble_eq_true rfl | omega) (by first | exact Nat.le_of_ble_eq_true rfl | omega) ?_
    exact W.iret (v := (-1000001)) hx hb hr (fun t ht hW => ⟨⟨(-1000001), (), rfl, (lf_c_X11_kind_5 fl ak aw av hfl h_2), trivial⟩, hS.F ht⟩) hS.2.2 dX11_kind_40
theorem lf_c_X11_at_0 (foc : Nat → Int32) (ac : Int32) (hoc : ∀ j, j < 192 → foc j = (-1)) (h_2 : inR ac 0 191) : ((-1) : Int32) = (F_at ac) := by first | (simp only [F_at, *, and_true, true_and, and_false, false_and, if_true, if_false]; done) | (simp [F_at, *]; done) | (unfold F_at; simp_all; done)
theorem lf_c_X11_at_1 (foc : Nat → Int32) (ac : Int32) (hoc : ∀ j, j < 192 → foc j = (-1)) (h_2 : ¬ inR ac 0 191) : ((-1000001) : Int32) = (F_at ac) := by first | (simp only [F_at, *, and_true, true_and, and_false, false_and, if_true, if_false]; done) | (simp [F_at, *]; done) | (unfold F_at; simp_all; done)
set_option maxHeartbeats 4000000 in
set_option maxRecDepth 100000 in
theorem c_X11_at (l : Launch) (G : va_G) (cy : Nat → ClassId) (sk : Nat → Nat) (sz : Nat) (x : Nat) (lv : Nat) (kp : Nat) (tr_ : Nat) (sh : Nat) (er : Nat) (re : Nat) (fi : Nat) (vo : Nat) (fe : Nat → Int32) (lv : Nat) (st : Nat) (la : Nat) (le : Nat) (ta : Nat) (wa : Nat) (wk : Nat) (oc : Nat) (ki : Nat) (ce : Nat) (si : Nat) (sp : Nat) (foc : Nat → Int32) (ac : Int32) (hoc : ∀ j, j < 192 → foc j = (-1)) : Met l yX11_at (wsO yX11_at cX11_at 2 (some .int)) ({ frames := 1, cells := 0, slots := 0, locals := 21 }) (va_Pc [.ref x, .int ac] (PR G cy sk sz [(x, .inr (11, [.ref lv, .ref kp, .ref tr_, .ref sh, .ref er, .ref re, .ref fi, .ref vo, .int 0])), (er, .inl (cy 0, 7, .inl fe)), (lv, .inr (10, [.ref st, .ref la, .ref le, .ref ta, .ref wa, .ref wk, .int 0, .int 0])), (st, .inr (7, [.ref oc, .ref ki, .ref ce, .ref si, .ref sp, .int 0])), (oc, .inl (cy 0, 192, .inl foc))])) (va_Qi (fun r (_ : Unit) => r = (F_at ac)) (fun _ _ => True) (va_A [(x, .inr (11, [.ref lv, .ref kp, .ref tr_, .ref sh, .ref er, .ref re, .ref fi, .ref vo, .int 0])), (er, .inl (cy 0, 7, .inl fe)), (lv, .inr (10, [.ref st, .ref la, .ref le, .ref ta, .ref wa, .ref wk, .int 0, .int 0])), (st, .inr (7, [.ref oc, .ref ki, .ref ce, .ref si, .ref sp, .int 0])), (oc, .inl (cy 0, 192, .inl foc))] sz)) 0 0 (va_A [(x, .inr (11, [.ref lv, .ref kp, .ref tr_, .ref sh, .ref er, .ref re, .ref fi, .ref vo, .int 0])), (er, .inl (cy 0, 7, .inl fe)), (lv, .inr (10, [.ref st, .ref la, .ref le, .ref ta, .ref wa, .ref wk, .int 0, .int 0])), (st, .inr (7, [.ref oc, .ref ki, .ref ce, .ref si, .ref sp, .int 0])), (oc, .inl (cy 0, 192, .inl foc))] sz) := by
  refine mt (by decide) (Nat.le_of_ble_eq_true rfl) ?_
  intro p e s m below meth c ls hx hb hr hml hts hown hlocks hin hsz hP hE hD hl
  subst hsz
  have hl : lv_has ls 2 [(0, .ref x), (1, .int ac)] := hl
  have hD := hD.self (sz := s.heap.size)
  generalize hAe : va_A [(x, .inr (11, [.ref lv, .ref kp, .ref tr_, .ref sh, .ref er, .ref re, .ref fi, .ref vo, .int 0])), (er, .inl (cy 0, 7, .inl fe)), (lv, .inr (10, [.ref st, .ref la, .ref le, .ref ta, .ref wa, .ref wk, .int 0, .int 0])), (st, .inr (7, [.ref oc, .ref ki, .ref ce, .ref si, .ref sp, .int 0])), (oc, .inl (cy 0, 192, .inl foc))] s.heap.size = A at hD ⊢
  have hA : ∀ q : Nat, s.heap.size ≤ q → A q := fun q h => by rw [← hAe]; exact Or.inr h
  have hS : va_S A s.heap s.heap [] := va_S.rf
  refine lv_iload_n hx hb dX11_at_0 rfl (lv_at hl 1 rfl) ?_
  refine rS (rest := []) hx hb hml hown hts hE (c_X7_isCell l G cy sk s.heap.size ac) kS_X7_isCell m_497 rfl rfl ⟨(Nat.le_of_ble_eq_true rfl), (Nat.le_of_ble_eq_true rfl)⟩ hP hD [] rfl rfl rfl rfl hl.1 (Nat.le_of_ble_eq_true rfl) dX11_at_1 ⟨(Nat.le_of_ble_eq_true rfl), (Nat.le_of_ble_eq_true rfl)⟩ (fun r_1 hr_ => ?_)
  rcases hr_ with ⟨rfl, h_2⟩ | ⟨rfl, h_2⟩
  · refine lv_if_ne (tgt := 13) hx hb dX11_at_4 (by decide) (fun _ => ?_) (fun h9 => absurd h9 (by decide))
    refine lv_aload_n hx hb dX11_at_13 rfl (lv_at hl 0 rfl) ?_
    refine va_get (D := G) (ci := 11) (v := .ref lv) (C := RX11) (T := TX11) (N := 9) hx hb hts inB11 hown hE.1 hP 0 rfl rfl 0 (by decide) (hts _ m_459) (fun _ h9 => h9) rfl dX11_at_14 ?_
    refine va_getN (D := G) (ci := 10) (v := .ref st) (C := RX10) (T := TX10) (N := 8) hx hb hts inB10 hown hE.1 hP 2 rfl rfl 0 (by decide) (nf_RX11_71 hE) (fun _ h9 => h9) rfl dX11_at_17 ?_
    refine va_getN (D := G) (ci := 7) (v := .ref oc) (C := RX7) (T := TX7) (N := 6) hx hb hts inB7 hown hE.1 hP 3 rfl rfl 0 (by decide) (nf_RX11_124 hE) (fun _ h9 => h9) rfl dX11_at_20 ?_
    refine lv_iload_n hx hb dX11_at_23 rfl (lv_at hl 1 rfl) ?_
    refine va_iald hx hb hE.1 hP 4 0 rfl rfl (vinB h_2 (by decide) (by decide)) dX11_at_24 ?_
    refine tp (v := (-1)) (hoc _ (vinB_nat h_2 (by decide) (by decide))) ?_
    refine W.widen (k := 0) (n := 0) (by first | exact Nat.le_of_ble_eq_true rfl | omega) (by first | exact Nat.le_of_ble_eq_true rfl | omega) ?_
    exact W.iret (v := (-1)) hx hb hr (fun t ht hW => ⟨⟨(-1), (), rfl, (lf_c_X11_at_0 foc ac hoc h_2), trivial⟩, hS.F ht⟩) hS.2.2 dX11_at_25
  · refine lv_if_ne (tgt := 13) hx hb dX11_at_4 (by decide) (fun h9 => absurd h9 (by decide)) (fun _ => ?_)
    refine lv_aload_n hx hb dX11_at_7 rfl (lv_at hl 0 rfl) ?_
    refine lv_iconst (v := 1) hx hb dX11_at_8 (by decide) ?_
    refine wV (B := (fun _ => True)) (wr := [(lv, .inr (10, [.ref st, .ref la, .ref le, .ref ta, .ref wa, .ref wk, .int 0, .int 0])), (st, .inr (7, [.ref oc, .ref ki, .ref ce, .ref si, .ref sp, .int 0])), (oc, .inl (cy 0, 192, .inl foc))]) (rest := []) hx hb hml hown hts hE (c_X11_error l G cy sk s.heap.size x lv kp tr_ sh er re fi vo fe 1 (-1000001) 0 (by first | decide | (unfold inR; decide)) (by decide)) kV_X11_error m_500 rfl rfl ⟨(Nat.le_of_ble_eq_true rfl), (Nat.le_of_ble_eq_true rfl)⟩ hP hD hS hA 0 rfl rfl rfl [0, 1] [2, 3, 4] rfl rfl rfl rfl (by decide) rfl rfl hl.1 (Nat.le_of_ble_eq_true rfl) dX11_at_9 ⟨(Nat.le_of_ble_eq_true rfl), (Nat.le_of_ble_eq_true rfl)⟩ (fun r_3 H locs hr_ haf hS => ?_)
    obtain ⟨-, -, hP, hD⟩ := haf
    have hP : va_P G classes [(lv, .inr (10, [.ref st, .ref la, .ref le, .ref ta, .ref wa, .ref wk, .int 0, .int 0])), (st, .inr (7, [.ref oc, .ref ki, .ref ce, .ref si, .ref sp, .int 0])), (oc, .inl (cy 0, 192, .inl foc))] H := hP
    have hD : va_D A [(lv, .inr (10, [.ref st, .ref la, .ref le, .ref ta, .ref wa, .ref wk, .int 0, .int 0])), (st, .inr (7, [.ref oc, .ref ki, .ref ce, .ref si, .ref sp, .int 0])), (oc, .inl (cy 0, 192, .inl foc))] := hD
    subst hr_
    refine W.widen (k := 0) (n := 0) (by first | exact Nat.le_of_ble_eq_true rfl | omega) (by first | exact Nat.le_of_ble_eq_true rfl | omega) ?_
    exact W.iret (v := (-1000001)) hx hb hr (fun t ht hW => ⟨⟨(-1000001), (), rfl, (lf_c_X11_at_1 foc ac hoc h_2), trivial⟩, hS.F ht⟩) hS.2.2 dX11_at_12
theorem lf_c_X11_lays_0 (s0 : Nat) (s1 : Nat) (s2 : Nat) (s3 : Nat) (gs : Nat → Option Nat) (ay : Int32) (hs0 : gs 0 = some s0) (hs1 : gs 1 = some s1) (hs2 : gs 2 = some s2) (hs3 : gs 3 = some s3) (h_2 : inR 0 0 3) (h_4 : inR ay 0 11) : ((-1000002) : Int32) = (F_lays 0 ay) := by first | (simp only [F_lays, *, and_true, true_and, and_false, false_and, if_true, if_false]; done) | (simp [F_lays, *]; done) | (unfold F_lays; simp_all; done)
theorem lf_c_X11_lays_1 (s0 : Nat) (s1 : Nat) (s2 : Nat) (s3 : Nat) (gs : Nat → Option Nat) (ay : Int32) (hs0 : gs 0 = some s0) (hs1 : gs 1 = some s1) (hs2 : gs 2 = some s2) (hs3 : gs 3 = some s3) (h_2 : inR 1 0 3) (h_4 : inR ay 0 11) : ((-1000002) : Int32) = (F_lays 1 ay) := by first | (simp only [F_lays, *, and_true, true_and, and_false, false_and, if_true, if_false]; done) | (simp [F_lays, *]; done) | (unfold F_lays; simp_all; done)
theorem lf_c_X11_lays_2 (s0 : Nat) (s1 : Nat) (s2 : Nat) (s3 : Nat) (gs : Nat → Option Nat) (ay : Int32) (hs0 : gs 0 = some s0) (hs1 : gs 1 = some s1) (hs2 : gs 2 = some s2) (hs3 : gs 3 = some s3) (h_2 : inR 2 0 3) (h_4 : inR ay 0 11) : ((-1000002) : Int32) = (F_lays 2 ay) := by first | (simp only [F_lays, *, and_true, true_and, and_false, false_and, if_true, if_false]; done) | (simp [F_lays, *]; done) | (unfold F_lays; simp_all; done)
theorem lf_c_X11_lays_3 (s0 : Nat) (s1 : Nat) (s2 : Nat) (s3 : Nat) (gs : Nat → Option Nat) (ay : Int32) (hs0 : gs 0 = some s0) (hs1 : gs 1 = some s1) (hs2 : gs 2 = some s2) (hs3 : gs 3 = some s3) (h_2 : inR 3 0 3) (h_4 : inR ay 0 11) : ((-1000002) : Int32) = (F_lays 3 ay) := by first | (simp only [F_lays, *, and_true, true_and, and_false, false_and, if_true, if_false]; done) | (simp [F_lays, *]; done) | (unfold F_lays; simp_all; done)
theorem lf_c_X11_lays_4 (s0 : Nat) (s1 : Nat) (s2 : Nat) (s3 : Nat) (gs : Nat → Option Nat) (ah : Int32) (ay : Int32) (hs0 : gs 0 = some s0) (hs1 : gs 1 = some s1) (hs2 : gs 2 = some s2) (hs3 : gs 3 = some s3) (h_2 : inR ah 0 3) (h_4 : ¬ inR ay 0 11) : ((-1000001) : Int32) = (F_lays ah ay) := by first | (simp only [F_lays, *, and_true, true_and, and_false, false_and, if_true, if_false]; done) | (simp [F_lays, *]; done) | (unfold F_lays; simp_all; done)
theorem lf_c_X11_lays_5 (s0 : Nat) (s1 : Nat) (s2 : Nat) (s3 : Nat) (gs : Nat → Option Nat) (ah : Int32) (ay : Int32) (hs0 : gs 0 = some s0) (hs1 : gs 1 = some s1) (hs2 : gs 2 = some s2) (hs3 : gs 3 = some s3) (h_2 : ¬ inR ah 0 3) : ((-1000001) : Int32) = (F_lays ah ay) := by first | (simp only [F_lays, *, and_true, true_and, and_false, false_and, if_true, if_false]; done) | (simp [F_lays, *]; done) | (unfold F_lays; simp_all; done)
set_option maxHeartbeats 4000000 in
set_option maxRecDepth 100000 in
theorem c_X11_lays (l : Launch) (G : va_G) (cy : Nat → ClassId) (sk : Nat → Nat) (sz : Nat) (x : Nat) (lv : Nat) (kp : Nat) (tr_ : Nat) (sh : Nat) (er : Nat) (re : Nat) (fi : Nat) (vo : Nat) (fe : Nat → Int32) (s0 : Nat) (s1 : Nat) (s2 : Nat) (s3 : Nat) (u0 : Nat) (u1 : Nat) (u2 : Nat) (u3 : Nat) (gs : Nat → Option Nat) (ah : Int32) (ay : Int32) (hs0 : gs 0 = some s0) (hs1 : gs 1 = some s1) (hs2 : gs 2 = some s2) (hs3 : gs 3 = some s3) : Met l yX11_lays (wsO yX11_lays cX11_lays 8 (some .int)) ({ frames := 2, cells := 0, slots := 0, locals := 42 }) (va_Pc [.ref x, .int ah, .int ay] (PR G cy sk sz [(x, .inr (11, [.ref lv, .ref kp, .ref tr_, .ref sh, .ref er, .ref re, .ref fi, .ref vo, .int 0])), (er, .inl (cy 0, 7, .inl fe)), (sh, .inl (cy 5, 4, .inr (.inr (.inr (.inr gs))))), (s0, .inr (6, [.int 0, .int 0, .ref u0])), (s1, .inr (6, [.int 0, .int 0, .ref u1])), (s2, .inr (6, [.int 0, .int 0, .ref u2])), (s3, .inr (6, [.int 0, .int 0, .ref u3]))])) (va_Qi (fun r (_ : Unit) => r = (F_lays ah ay)) (fun _ _ => True) (va_A [(x, .inr (11, [.ref lv, .ref kp, .ref tr_, .ref sh, .ref er, .ref re, .ref fi, .ref vo, .int 0])), (er, .inl (cy 0, 7, .inl fe)), (sh, .inl (cy 5, 4, .inr (.inr (.inr (.inr gs))))), (s0, .inr (6, [.int 0, .int 0, .ref u0])), (s1, .inr (6, [.int 0, .int 0, .ref u1])), (s2, .inr (6, [.int 0, .int 0, .ref u2])), (s3, .inr (6, [.int 0, .int 0, .ref u3]))] sz)) 0 0 (va_A [(x, .inr (11, [.ref lv, .ref kp, .ref tr_, .ref sh, .ref er, .ref re, .ref fi, .ref vo, .int 0])), (er, .inl (cy 0, 7, .inl fe)), (sh, .inl (cy 5, 4, .inr (.inr (.inr (.inr gs))))), (s0, .inr (6, [.int 0, .int 0, .ref u0])), (s1, .inr (6, [.int 0, .int 0, .ref u1])), (s2, .inr (6, [.int 0, .int 0, .ref u2])), (s3, .inr (6, [.int 0, .int 0, .ref u3]))] sz) := by
  refine mt (by decide) (Nat.le_of_ble_eq_true rfl) ?_
  intro p e s m below meth c ls hx hb hr hml hts hown hlocks hin hsz hP hE hD hl
  subst hsz
  have hl : lv_has ls 8 [(0, .ref x), (1, .int ah), (2, .int ay)] := hl
  have hD := hD.self (sz := s.heap.size)
  generalize hAe : va_A [(x, .inr (11, [.ref lv, .ref kp, .ref tr_, .ref sh, .ref er, .ref re, .ref fi, .ref vo, .int 0])), (er, .inl (cy 0, 7, .inl fe)), (sh, .inl (cy 5, 4, .inr (.inr (.inr (.inr gs))))), (s0, .inr (6, [.int 0, .int 0, .ref u0])), (s1, .inr (6, [.int 0, .int 0, .ref u1])), (s2, .inr (6, [.int 0, .int 0, .ref u2])), (s3, .inr (6, [.int 0, .int 0, .ref u3]))] s.heap.size = A at hD ⊢
  have hA : ∀ q : Nat, s.heap.size ≤ q → A q := fun q h => by rw [← hAe]; exact Or.inr h
  have hS : va_S A s.heap s.heap [] := va_S.rf
  refine lv_iload_n hx hb dX11_lays_0 rfl (lv_at hl 1 rfl) ?_
  refine rS (rest := []) hx hb hml hown hts hE (c_X11_isSheet l G cy sk s.heap.size ah) kS_X11_isSheet m_566 rfl rfl ⟨(Nat.le_of_ble_eq_true rfl), (Nat.le_of_ble_eq_true rfl)⟩ hP hD [] rfl rfl rfl rfl hl.1 (Nat.le_of_ble_eq_true rfl) dX11_lays_1 ⟨(Nat.le_of_ble_eq_true rfl), (Nat.le_of_ble_eq_true rfl)⟩ (fun r_1 hr_ => ?_)
  rcases hr_ with ⟨rfl, h_2⟩ | ⟨rfl, h_2⟩
  · refine lv_if_eq (tgt := 17) hx hb dX11_lays_4 (by decide) (fun h9 => absurd h9 (by decide)) (fun _ => ?_)
    refine lv_iload_n hx hb dX11_lays_7 rfl (lv_at hl 2 rfl) ?_
    refine lv_iconst (v := 0) hx hb dX11_lays_8 (by decide) ?_
    refine lv_bipush (v := 11) hx hb dX11_lays_9 (by decide) ?_
    refine rS (rest := []) hx hb hml hown hts hE (c_X11_within l G cy sk s.heap.size ay 0 11) kS_X11_within m_494 rfl rfl ⟨(Nat.le_of_ble_eq_true rfl), (Nat.le_of_ble_eq_true rfl)⟩ hP hD [] rfl rfl rfl rfl hl.1 (Nat.le_of_ble_eq_true rfl) dX11_lays_11 ⟨(Nat.le_of_ble_eq_true rfl), (Nat.le_of_ble_eq_true rfl)⟩ (fun r_3 hr_ => ?_)
    rcases hr_ with ⟨rfl, h_4⟩ | ⟨rfl, h_4⟩
    · refine lv_if_ne (tgt := 23) hx hb dX11_lays_14 (by decide) (fun _ => ?_) (fun h9 => absurd h9 (by decide))
      refine lv_aload_n hx hb dX11_lays_23 rfl (lv_at hl 0 rfl) ?_
      refine va_get (D := G) (ci := 11) (v := .ref sh) (C := RX11) (T := TX11) (N := 9) hx hb hts inB11 hown hE.1 hP 0 rfl rfl 3 (by decide) (hts _ m_462) (fun _ h9 => h9) rfl dX11_lays_24 ?_
      refine lv_iload_n hx hb dX11_lays_27 rfl (lv_at hl 1 rfl) ?_
      refine va_aldq hx hb hE.1 hP 2 5 rfl rfl (vinB h_2 (by decide) (by decide)) dX11_lays_28 ?_
      rcases in4 h_2 with rfl | rfl | rfl | rfl
      · refine tpv (v := .ref s0) (by show va_rf (gs 0) = _; rw [hs0]; rfl) ?_
        refine lv_astore_n (lv' := [(3, .ref s0), (0, .ref x), (1, .int 0), (2, .int ay)]) hx hb dX11_lays_29 rfl hl (by decide) rfl (fun ls hl => ?_)
        refine lv_aload_n hx hb dX11_lays_30 rfl (lv_at hl 0 rfl) ?_
        refine rV (rest := []) hx hb hml hown hts hE (c_X6_isMissing l G cy sk s.heap.size s0 u0) kV_X6_isMissing m_569 rfl rfl ⟨(Nat.le_of_ble_eq_true rfl), (Nat.le_of_ble_eq_true rfl)⟩ hP hD 3 rfl rfl rfl [3] rfl rfl rfl rfl hl.1 (Nat.le_of_ble_eq_true rfl) dX11_lays_31 ⟨(Nat.le_of_ble_eq_true rfl), (Nat.le_of_ble_eq_true rfl)⟩ (fun r_5 hr_ => ?_)
        subst hr_
        refine lv_if_eq (tgt := 43) hx hb dX11_lays_34 (by decide) (fun h9 => absurd h9 (by decide)) (fun _ => ?_)
        refine lv_aload_n hx hb dX11_lays_37 rfl (lv_at hl 1 rfl) ?_
        refine lv_iconst (v := 2) hx hb dX11_lays_38 (by decide) ?_
        refine wV (B := (fun _ => True)) (wr := [(sh, .inl (cy 5, 4, .inr (.inr (.inr (.inr gs))))), (s0, .inr (6, [.int 0, .int 0, .ref u0])), (s1, .inr (6, [.int 0, .int 0, .ref u1])), (s2, .inr (6, [.int 0, .int 0, .ref u2])), (s3, .inr (6, [.int 0, .int 0, .ref u3]))]) (rest := []) hx hb hml hown hts hE (c_X11_error l G cy sk s.heap.size x lv kp tr_ sh er re fi vo fe 2 (-1000002) 0 (by first | decide | (unfold inR; decide)) (by decide)) kV_X11_error m_500 rfl rfl ⟨(Nat.le_of_ble_eq_true rfl), (Nat.le_of_ble_eq_true rfl)⟩ hP hD hS hA 0 rfl rfl rfl [0, 1] [2, 3, 4, 5, 6] rfl rfl rfl rfl (by decide) rfl rfl hl.1 (Nat.le_of_ble_eq_true rfl) dX11_lays_39 ⟨(Nat.le_of_ble_eq_true rfl), (Nat.le_of_ble_eq_true rfl)⟩ (fun r_6 H locs hr_ haf hS => ?_)
        obtain ⟨-, -, hP, hD⟩ := haf
        have hP : va_P G classes [(sh, .inl (cy 5, 4, .inr (.inr (.inr (.inr gs))))), (s0, .inr (6, [.int 0, .int 0, .ref u0])), (s1, .inr (6, [.int 0, .int 0, .ref u1])), (s2, .inr (6, [.int 0, .int 0, .ref u2])), (s3, .inr (6, [.int 0, .int 0, .ref u3]))] H := hP
        have hD : va_D A [(sh, .inl (cy 5, 4, .inr (.inr (.inr (.inr gs))))), (s0, .inr (6, [.int 0, .int 0, .ref u0])), (s1, .inr (6, [.int 0, .int 0, .ref u1])), (s2, .inr (6, [.int 0, .int 0, .ref u2])), (s3, .inr (6, [.int 0, .int 0, .ref u3]))] := hD
        subst hr_
        refine W.widen (k := 0) (n := 0) (by first | exact Nat.le_of_ble_eq_true rfl | omega) (by first | exact Nat.le_of_ble_eq_true rfl | omega) ?_
        exact W.iret (v := (-1000002)) hx hb hr (fun t ht hW => ⟨⟨(-1000002), (), rfl, (lf_c_X11_lays_0 s0 s1 s2 s3 gs ay hs0 hs1 hs2 hs3 h_2 h_4), trivial⟩, hS.F ht⟩) hS.2.2 dX11_lays_42
      · refine tpv (v := .ref s1) (by show va_rf (gs 1) = _; rw [hs1]; rfl) ?_
        refine lv_astore_n (lv' := [(3, .ref s1), (0, .ref x), (1, .int 1), (2, .int ay)]) hx hb dX11_lays_29 rfl hl (by decide) rfl (fun ls hl => ?_)
        refine lv_aload_n hx hb dX11_lays_30 rfl (lv_at hl 0 rfl) ?_
        refine rV (rest := []) hx hb hml hown hts hE (c_X6_isMissing l G cy sk s.heap.size s1 u1) kV_X6_isMissing m_569 rfl rfl ⟨(Nat.le_of_ble_eq_true rfl), (Nat.le_of_ble_eq_true rfl)⟩ hP hD 4 rfl rfl rfl [4] rfl rfl rfl rfl hl.1 (Nat.le_of_ble_eq_true rfl) dX11_lays_31 ⟨(Nat.le_of_ble_eq_true rfl), (Nat.le_of_ble_eq_true rfl)⟩ (fun r_7 hr_ => ?_)
        subst hr_
        refine lv_if_eq (tgt := 43) hx hb dX11_lays_34 (by decide) (fun h9 => absurd h9 (by decide)) (fun _ => ?_)
        refine lv_aload_n hx hb dX11_lays_37 rfl (lv_at hl 1 rfl) ?_
        refine lv_iconst (v := 2) hx hb dX11_lays_38 (by decide) ?_
        refine wV (B := (fun _ => True)) (wr := [(sh, .inl (cy 5, 4, .inr (.inr (.inr (.inr gs))))), (s0, .inr (6, [.int 0, .int 0, .ref u0])), (s1, .inr (6, [.int 0, .int 0, .ref u1])), (s2, .inr (6, [.int 0, .int 0, .ref u2])), (s3, .inr (6, [.int 0, .int 0, .ref u3]))]) (rest := []) hx hb hml hown hts hE (c_X11_error l G cy sk s.heap.size x lv kp tr_ sh er re fi vo fe 2 (-1000002) 0 (by first | decide | (unfold inR; decide)) (by decide)) kV_X11_error m_500 rfl rfl ⟨(Nat.le_of_ble_eq_true rfl), (Nat.le_of_ble_eq_true rfl)⟩ hP hD hS hA 0 rfl rfl rfl [0, 1] [2, 3, 4, 5, 6] rfl rfl rfl rfl (by decide) rfl rfl hl.1 (Nat.le_of_ble_eq_true rfl) dX11_lays_39 ⟨(Nat.le_of_ble_eq_true rfl), (Nat.le_of_ble_eq_true rfl)⟩ (fun r_8 H locs hr_ haf hS => ?_)
        obtain ⟨-, -, hP, hD⟩ := haf
        have hP : va_P G classes [(sh, .inl (cy 5, 4, .inr (.inr (.inr (.inr gs))))), (s0, .inr (6, [.int 0, .int 0, .ref u0])), (s1, .inr (6, [.int 0, .int 0, .ref u1])), (s2, .inr (6, [.int 0, .int 0, .ref u2])), (s3, .inr (6, [.int 0, .int 0, .ref u3]))] H := hP
        have hD : va_D A [(sh, .inl (cy 5, 4, .inr (.inr (.inr (.inr gs))))), (s0, .inr (6, [.int 0, .int 0, .ref u0])), (s1, .inr (6, [.int 0, .int 0, .ref u1])), (s2, .inr (6, [.int 0, .int 0, .ref u2])), (s3, .inr (6, [.int 0, .int 0, .ref u3]))] := hD
        subst hr_
        refine W.widen (k := 0) (n := 0) (by first | exact Nat.le_of_ble_eq_true rfl | omega) (by first | exact Nat.le_of_ble_eq_true rfl | omega) ?_
        exact W.iret (v := (-1000002)) hx hb hr (fun t ht hW => ⟨⟨(-1000002), (), rfl, (lf_c_X11_lays_1 s0 s1 s2 s3 gs ay hs0 hs1 hs2 hs3 h_2 h_4), trivial⟩, hS.F ht⟩) hS.2.2 dX11_lays_42
      · refine tpv (v := .ref s2) (by show va_rf (gs 2) = _; rw [hs2]; rfl) ?_
        refine lv_astore_n (lv' := [(3, .ref s2), (0, .ref x), (1, .int 2), (2, .int ay)]) hx hb dX11_lays_29 rfl hl (by decide) rfl (fun ls hl => ?_)
        refine lv_aload_n hx hb dX11_lays_30 rfl (lv_at hl 0 rfl) ?_
        refine rV (rest := []) hx hb hml hown hts hE (c_X6_isMissing l G cy sk s.heap.size s2 u2) kV_X6_isMissing m_569 rfl rfl ⟨(Nat.le_of_ble_eq_true rfl), (Nat.le_of_ble_eq_true rfl)⟩ hP hD 5 rfl rfl rfl [5] rfl rfl rfl rfl hl.1 (Nat.le_of_ble_eq_true rfl) dX11_lays_31 ⟨(Nat.le_of_ble_eq_true rfl), (Nat.le_of_ble_eq_true rfl)⟩ (fun r_9 hr_ => ?_)
        subst hr_
        refine lv_if_eq (tgt := 43) hx hb dX11_lays_34 (by decide) (fun h9 => absurd h9 (by decide)) (fun _ => ?_)
        refine lv_aload_n hx hb dX11_lays_37 rfl (lv_at hl 1 rfl) ?_
        refine lv_iconst (v := 2) hx hb dX11_lays_38 (by decide) ?_
        refine wV (B := (fun _ => True)) (wr := [(sh, .inl (cy 5, 4, .inr (.inr (.inr (.inr gs))))), (s0, .inr (6, [.int 0, .int 0, .ref u0])), (s1, .inr (6, [.int 0, .int 0, .ref u1])), (s2, .inr (6, [.int 0, .int 0, .ref u2])), (s3, .inr (6, [.int 0, .int 0, .ref u3]))]) (rest := []) hx hb hml hown hts hE (c_X11_error l G cy sk s.heap.size x lv kp tr_ sh er re fi vo fe 2 (-1000002) 0 (by first | decide | (unfold inR; decide)) (by decide)) kV_X11_error m_500 rfl rfl ⟨(Nat.le_of_ble_eq_true rfl), (Nat.le_of_ble_eq_true rfl)⟩ hP hD hS hA 0 rfl rfl rfl [0, 1] [2, 3, 4, 5, 6] rfl rfl rfl rfl (by decide) rfl rfl hl.1 (Nat.le_of_ble_eq_true rfl) dX11_lays_39 ⟨(Nat.le_of_ble_eq_true rfl), (Nat.le_of_ble_eq_true rfl)⟩ (fun r_10 H locs hr_ haf hS => ?_)
        obtain ⟨-, -, hP, hD⟩ := haf
        have hP : va_P G classes [(sh, .inl (cy 5, 4, .inr (.inr (.inr (.inr gs))))), (s0, .inr (6, [.int 0, .int 0, .ref u0])), (s1, .inr (6, [.int 0, .int 0, .ref u1])), (s2, .inr (6, [.int 0, .int 0, .ref u2])), (s3, .inr (6, [.int 0, .int 0, .ref u3]))] H := hP
        have hD : va_D A [(sh, .inl (cy 5, 4, .inr (.inr (.inr (.inr gs))))), (s0, .inr (6, [.int 0, .int 0, .ref u0])), (s1, .inr (6, [.int 0, .int 0, .ref u1])), (s2, .inr (6, [.int 0, .int 0, .ref u2])), (s3, .inr (6, [.int 0, .int 0, .ref u3]))] := hD
        subst hr_
        refine W.widen (k := 0) (n := 0) (by first | exact Nat.le_of_ble_eq_true rfl | omega) (by first | exact Nat.le_of_ble_eq_true rfl | omega) ?_
        exact W.iret (v := (-1000002)) hx hb hr (fun t ht hW => ⟨⟨(-1000002), (), rfl, (lf_c_X11_lays_2 s0 s1 s2 s3 gs ay hs0 hs1 hs2 hs3 h_2 h_4), trivial⟩, hS.F ht⟩) hS.2.2 dX11_lays_42
      · refine tpv (v := .ref s3) (by show va_rf (gs 3) = _; rw [hs3]; rfl) ?_
        refine lv_astore_n (lv' := [(3, .ref s3), (0, .ref x), (1, .int 3), (2, .int ay)]) hx hb dX11_lays_29 rfl hl (by decide) rfl (fun ls hl => ?_)
        refine lv_aload_n hx hb dX11_lays_30 rfl (lv_at hl 0 rfl) ?_
        refine rV (rest := []) hx hb hml hown hts hE (c_X6_isMissing l G cy sk s.heap.size s3 u3) kV_X6_isMissing m_569 rfl rfl ⟨(Nat.le_of_ble_eq_true rfl), (Nat.le_of_ble_eq_true rfl)⟩ hP hD 6 rfl rfl rfl [6] rfl rfl rfl rfl hl.1 (Nat.le_of_ble_eq_true rfl) dX11_lays_31 ⟨(Nat.le_of_ble_eq_true rfl), (Nat.le_of_ble_eq_true rfl)⟩ (fun r_11 hr_ => ?_)
        subst hr_
        refine lv_if_eq (tgt := 43) hx hb dX11_lays_34 (by decide) (fun h9 => absurd h9 (by decide)) (fun _ => ?_)
        refine lv_aload_n hx hb dX11_lays_37 rfl (lv_at hl 1 rfl) ?_
        refine lv_iconst (v := 2) hx hb dX11_lays_38 (by decide) ?_
        refine wV (B := (fun _ => True)) (wr := [(sh, .inl (cy 5, 4, .inr (.inr (.inr (.inr gs))))), (s0, .inr (6, [.int 0, .int 0, .ref u0])), (s1, .inr (6, [.int 0, .int 0, .ref u1])), (s2, .inr (6, [.int 0, .int 0, .ref u2])), (s3, .inr (6, [.int 0, .int 0, .ref u3]))]) (rest := []) hx hb hml hown hts hE (c_X11_error l G cy sk s.heap.size x lv kp tr_ sh er re fi vo fe 2 (-1000002) 0 (by first | decide | (unfold inR; decide)) (by decide)) kV_X11_error m_500 rfl rfl ⟨(Nat.le_of_ble_eq_true rfl), (Nat.le_of_ble_eq_true rfl)⟩ hP hD hS hA 0 rfl rfl rfl [0, 1] [2, 3, 4, 5, 6] rfl rfl rfl rfl (by decide) rfl rfl hl.1 (Nat.le_of_ble_eq_true rfl) dX11_lays_39 ⟨(Nat.le_of_ble_eq_true rfl), (Nat.le_of_ble_eq_true rfl)⟩ (fun r_12 H locs hr_ haf hS => ?_)
        obtain ⟨-, -, hP, hD⟩ := haf
        have hP : va_P G classes [(sh, .inl (cy 5, 4, .inr (.inr (.inr (.inr gs))))), (s0, .inr (6, [.int 0, .int 0, .ref u0])), (s1, .inr (6, [.int 0, .int 0, .ref u1])), (s2, .inr (6, [.int 0, .int 0, .ref u2])), (s3, .inr (6, [.int 0, .int 0, .ref u3]))] H := hP
        have hD : va_D A [(sh, .inl (cy 5, 4, .inr (.inr (.inr (.inr gs))))), (s0, .inr (6, [.int 0, .int 0, .ref u0])), (s1, .inr (6, [.int 0, .int 0, .ref u1])), (s2, .inr (6, [.int 0, .int 0, .ref u2])), (s3, .inr (6, [.int 0, .int 0, .ref u3]))] := hD
        subst hr_
        refine W.widen (k := 0) (n := 0) (by first | exact Nat.le_of_ble_eq_true rfl | omega) (by first | exact Nat.le_of_ble_eq_true rfl | omega) ?_
        exact W.iret (v := (-1000002)) hx hb hr (fun t ht hW => ⟨⟨(-1000002), (), rfl, (lf_c_X11_lays_3 s0 s1 s2 s3 gs ay hs0 hs1 hs2 hs3 h_2 h_4), trivial⟩, hS.F ht⟩) hS.2.2 dX11_lays_42
    · refine lv_if_ne (tgt := 23) hx hb dX11_lays_14 (by decide) (fun h9 => absurd h9 (by decide)) (fun _ => ?_)
      refine lv_aload_n hx hb dX11_lays_17 rfl (lv_at hl 0 rfl) ?_
      refine lv_iconst (v := 1) hx hb dX11_lays_18 (by decide) ?_
      refine wV (B := (fun _ => True)) (wr := [(sh, .inl (cy 5, 4, .inr (.inr (.inr (.inr gs))))), (s0, .inr (6, [.int 0, .int 0, .ref u0])), (s1, .inr (6, [.int 0, .int 0, .ref u1])), (s2, .inr (6, [.int 0, .int 0, .ref u2])), (s3, .inr (6, [.int 0, .int 0, .ref u3]))]) (rest := []) hx hb hml hown hts hE (c_X11_error l G cy sk s.heap.size x lv kp tr_ sh er re fi vo fe 1 (-1000001) 0 (by first | decide | (unfold inR; decide)) (by decide)) kV_X11_error m_500 rfl rfl ⟨(Nat.le_of_ble_eq_true rfl), (Nat.le_of_ble_eq_true rfl)⟩ hP hD hS hA 0 rfl rfl rfl [0, 1] [2, 3, 4, 5, 6] rfl rfl rfl rfl (by decide) rfl rfl hl.1 (Nat.le_of_ble_eq_true rfl) dX11_lays_19 ⟨(Nat.le_of_ble_eq_true rfl), (Nat.le_of_ble_eq_true rfl)⟩ (fun r_13 H locs hr_ haf hS => ?_)
      obtain ⟨-, -, hP, hD⟩ := haf
      have hP : va_P G classes [(sh, .inl (cy 5, 4, .inr (.inr (.inr (.inr gs))))), (s0, .inr (6, [.int 0, .int 0, .ref u0])), (s1, .inr (6, [.int 0, .int 0, .ref u1])), (s2, .inr (6, [.int 0, .int 0, .ref u2])), (s3, .inr (6, [.int 0, .int 0, .ref u3]))] H := hP
      have hD : va_D A [(sh, .inl (cy 5, 4, .inr (.inr (.inr (.inr gs))))), (s0, .inr (6, [.int 0, .int 0, .ref u0])), (s1, .inr (6, [.int 0, .int 0, .ref u1])), (s2, .inr (6, [.int 0, .int 0, .ref u2])), (s3, .inr (6, [.int 0, .int 0, .ref u3]))] := hD
      subst hr_
      refine W.widen (k := 0) (n := 0) (by first | exact Nat.le_of_ble_eq_true rfl | omega) (by first | exact Nat.le_of_ble_eq_true rfl | omega) ?_
      exact W.iret (v := (-1000001)) hx hb hr (fun t ht hW => ⟨⟨(-1000001), (), rfl, (lf_c_X11_lays_4 s0 s1 s2 s3 gs ah ay hs0 hs1 hs2 hs3 h_2 h_4), trivial⟩, hS.F ht⟩) hS.2.2 dX11_lays_22
  · refine lv_if_eq (tgt := 17) hx hb dX11_lays_4 (by decide) (fun _ => ?_) (fun h9 => absurd h9 (by decide))
    refine lv_aload_n hx hb dX11_lays_17 rfl (lv_at hl 0 rfl) ?_
    refine lv_iconst (v := 1) hx hb dX11_lays_18 (by decide) ?_
    refine wV (B := (fun _ => True)) (wr := [(sh, .inl (cy 5, 4, .inr (.inr (.inr (.inr gs))))), (s0, .inr (6, [.int 0, .int 0, .ref u0])), (s1, .inr (6, [.int 0, .int 0, .ref u1])), (s2, .inr (6, [.int 0, .int 0, .ref u2])), (s3, .inr (6, [.int 0, .int 0, .ref u3]))]) (rest := []) hx hb hml hown hts hE (c_X11_error l G cy sk s.heap.size x lv kp tr_ sh er re fi vo fe 1 (-1000001) 0 (by first | decide | (unfold inR; decide)) (by decide)) kV_X11_error m_500 rfl rfl ⟨(Nat.le_of_ble_eq_true rfl), (Nat.le_of_ble_eq_true rfl)⟩ hP hD hS hA 0 rfl rfl rfl [0, 1] [2, 3, 4, 5, 6] rfl rfl rfl rfl (by decide) rfl rfl hl.1 (Nat.le_of_ble_eq_true rfl) dX11_lays_19 ⟨(Nat.le_of_ble_eq_true rfl), (Nat.le_of_ble_eq_true rfl)⟩ (fun r_14 H locs hr_ haf hS => ?_)
    obtain ⟨-, -, hP, hD⟩ := haf
    have hP : va_P G classes [(sh, .inl (cy 5, 4, .inr (.inr (.inr (.inr gs))))), (s0, .inr (6, [.int 0, .int 0, .ref u0])), (s1, .inr (6, [.int 0, .int 0, .ref u1])), (s2, .inr (6, [.int 0, .int 0, .ref u2])), (s3, .inr (6, [.int 0, .int 0, .ref u3]))] H := hP
    have hD : va_D A [(sh, .inl (cy 5, 4, .inr (.inr (.inr (.inr gs))))), (s0, .inr (6, [.int 0, .int 0, .ref u0])), (s1, .inr (6, [.int 0, .int 0, .ref u1])), (s2, .inr (6, [.int 0, .int 0, .ref u2])), (s3, .inr (6, [.int 0, .int 0, .ref u3]))] := hD
    subst hr_
    refine W.widen (k := 0) (n := 0) (by first | exact Nat.le_of_ble_eq_true rfl | omega) (by first | exact Nat.le_of_ble_eq_true rfl | omega) ?_
    exact W.iret (v := (-1000001)) hx hb hr (fun t ht hW => ⟨⟨(-1000001), (), rfl, (lf_c_X11_lays_5 s0 s1 s2 s3 gs ah ay hs0 hs1 hs2 hs3 h_2), trivial⟩, hS.F ht⟩) hS.2.2 dX11_lays_22
