set_option maxHeartbeats 4000000 in
set_option maxRecDepth 100000 in
theorem c_X11_check (l : Launch) (G : va_G) (cy : Nat → ClassId) (sk : Nat → Nat) (sz : Nat) (x : Nat) (lv : Nat) (kp : Nat) (tr_ : Nat) (sh : Nat) (er : Nat) (re : Nat) (fi : Nat) (vo : Nat) (fe : Nat → Int32) (lv : Nat) (st : Nat) (la : Nat) (le : Nat) (ta : Nat) (wa : Nat) (wk : Nat) (rwa : Nat) (av : Int32)  : Met l yX11_check (wsO yX11_check cX11_check 3 (some .int)) ({ frames := 1, cells := 0, slots := 0, locals := 21 }) (va_Pc [.ref x, .int av] (PR G cy sk sz [(x, .inr (11, [.ref lv, .ref kp, .ref tr_, .ref sh, .ref er, .ref re, .ref fi, .ref vo, .int 0])), (er, .inl (cy 0, 7, .inl fe)), (lv, .inr (10, [.ref st, .ref la, .ref le, .ref ta, .ref wa, .ref wk, .int 0, .int 0])), (wa, .inr (5, [.ref rwa, .int 0]))])) (va_Qi (fun r (_ : Unit) => r = (-1000001)) (fun _ _ => True) (va_A [(x, .inr (11, [.ref lv, .ref kp, .ref tr_, .ref sh, .ref er, .ref re, .ref fi, .ref vo, .int 0])), (er, .inl (cy 0, 7, .inl fe)), (lv, .inr (10, [.ref st, .ref la, .ref le, .ref ta, .ref wa, .ref wk, .int 0, .int 0])), (wa, .inr (5, [.ref rwa, .int 0]))] sz)) 0 0 (va_A [(x, .inr (11, [.ref lv, .ref kp, .ref tr_, .ref sh, .ref er, .ref re, .ref fi, .ref vo, .int 0])), (er, .inl (cy 0, 7, .inl fe)), (lv, .inr (10, [.ref st, .ref la, .ref le, .ref ta, .ref wa, .ref wk, .int 0, .int 0])), (wa, .inr (5, [.ref rwa, .int 0]))] sz) := by
  refine mt (by decide) (Nat.le_of_ble_eq_true rfl) ?_
  intro p e s m below meth c ls hx hb hr hml hts hown hlocks hin hsz hP hE hD hl
  subst hsz
  have hl : lv_has ls 3 [(0, .ref x), (1, .int av)] := hl
  have hD := hD.self (sz := s.heap.size)
  generalize hAe : va_A [(x, .inr (11, [.ref lv, .ref kp, .ref tr_, .ref sh, .ref er, .ref re, .ref fi, .ref vo, .int 0])), (er, .inl (cy 0, 7, .inl fe)), (lv, .inr (10, [.ref st, .ref la, .ref le, .ref ta, .ref wa, .ref wk, .int 0, .int 0])), (wa, .inr (5, [.ref rwa, .int 0]))] s.heap.size = A at hD ⊢
  have hA : ∀ q : Nat, s.heap.size ≤ q → A q := fun q h => by rw [← hAe]; exact Or.inr h
  have hS : va_S A s.heap s.heap [] := va_S.rf
  refine lv_aload_n hx hb dX11_check_0 rfl (lv_at hl 0 rfl) ?_
  refine va_get (D := G) (ci := 11) (v := .ref lv) (C := RX11) (T := TX11) (N := 9) hx hb hts inB11 hown hE.1 hP 0 rfl rfl 0 (by decide) (hts _ m_459) (fun _ h9 => h9) rfl dX11_check_1 ?_
  refine lv_iload_n hx hb dX11_check_4 rfl (lv_at hl 1 rfl) ?_
  refine rV (rest := []) hx hb hml hown hts hE (c_X10_hasWalker l G cy sk s.heap.size lv st la le ta wa wk 0 av) kV_X10_hasWalker m_609 rfl rfl ⟨(Nat.le_of_ble_eq_true rfl), (Nat.le_of_ble_eq_true rfl)⟩ hP hD 2 rfl rfl rfl [2] rfl rfl rfl rfl hl.1 (Nat.le_of_ble_eq_true rfl) dX11_check_5 ⟨(Nat.le_of_ble_eq_true rfl), (Nat.le_of_ble_eq_true rfl)⟩ (fun r_1 hr_ => ?_)
  subst hr_
  refine lv_if_ne (tgt := 27) hx hb dX11_check_8 (by decide) (fun h9 => absurd h9 (by decide)) (fun _ => ?_)
  refine lv_aload_n hx hb dX11_check_11 rfl (lv_at hl 0 rfl) ?_
  refine va_get (D := G) (ci := 11) (v := .ref lv) (C := RX11) (T := TX11) (N := 9) hx hb hts inB11 hown hE.1 hP 0 rfl rfl 0 (by decide) (hts _ m_459) (fun _ h9 => h9) rfl dX11_check_12 ?_
  refine va_getN (D := G) (ci := 10) (v := .ref wa) (C := RX10) (T := TX10) (N := 8) hx hb hts inB10 hown hE.1 hP 2 rfl rfl 4 (by decide) (nf_RX11_385 hE) (fun _ h9 => h9) rfl dX11_check_15 ?_
  refine wVv (B := (B_c_X5_clear G cy (va_A [(wa, .inr (5, [.ref rwa, .int 0]))] s.heap.size) wa rwa 0)) (wr := [(x, .inr (11, [.ref lv, .ref kp, .ref tr_, .ref sh, .ref er, .ref re, .ref fi, .ref vo, .int 0])), (er, .inl (cy 0, 7, .inl fe)), (lv, .inr (10, [.ref st, .ref la, .ref le, .ref ta, .ref wa, .ref wk, .int 0, .int 0]))]) (rest := []) hx hb hml hown hts hE (c_X5_clear l G cy sk s.heap.size wa rwa 0) kV_X5_clear m_831 rfl rfl ⟨(Nat.le_of_ble_eq_true rfl), (Nat.le_of_ble_eq_true rfl)⟩ hP hD hS hA 3 rfl rfl rfl [3] [0, 1, 2] rfl rfl rfl rfl (by decide) rfl rfl hl.1 (Nat.le_of_ble_eq_true rfl) dX11_check_18 ⟨(Nat.le_of_ble_eq_true rfl), (Nat.le_of_ble_eq_true rfl)⟩ (fun H locs haf hS => ?_)
  obtain ⟨hP1, hD1⟩ := haf.1
  obtain ⟨hP, hD⟩ := haf.2.1 _ hP1 hD1
  have hP : va_P G classes [(x, .inr (11, [.ref lv, .ref kp, .ref tr_, .ref sh, .ref er, .ref re, .ref fi, .ref vo, .int 0])), (er, .inl (cy 0, 7, .inl fe)), (lv, .inr (10, [.ref st, .ref la, .ref le, .ref ta, .ref wa, .ref wk, .int 0, .int 0])), (wa, .inr (5, [.ref rwa, .int 0]))] H := hP
  have hD : va_D A [(x, .inr (11, [.ref lv, .ref kp, .ref tr_, .ref sh, .ref er, .ref re, .ref fi, .ref vo, .int 0])), (er, .inl (cy 0, 7, .inl fe)), (lv, .inr (10, [.ref st, .ref la, .ref le, .ref ta, .ref wa, .ref wk, .int 0, .int 0])), (wa, .inr (5, [.ref rwa, .int 0]))] := hD
  refine lv_aload_n hx hb dX11_check_21 rfl (lv_at hl 0 rfl) ?_
  refine lv_iconst (v := 1) hx hb dX11_check_22 (by decide) ?_
  refine wV (B := (fun _ => True)) (wr := [(lv, .inr (10, [.ref st, .ref la, .ref le, .ref ta, .ref wa, .ref wk, .int 0, .int 0])), (wa, .inr (5, [.ref rwa, .int 0]))]) (rest := []) hx hb hml hown hts hE (c_X11_error l G cy sk H.size x lv kp tr_ sh er re fi vo fe 1 (-1000001) 0 (by first | decide | (unfold inR; decide)) (by decide)) kV_X11_error m_500 rfl rfl ⟨(Nat.le_of_ble_eq_true rfl), (Nat.le_of_ble_eq_true rfl)⟩ hP hD hS hA 0 rfl rfl rfl [0, 1] [2, 3] rfl rfl rfl rfl (by decide) rfl rfl hl.1 (Nat.le_of_ble_eq_true rfl) dX11_check_23 ⟨(Nat.le_of_ble_eq_true rfl), (Nat.le_of_ble_eq_true rfl)⟩ (fun r_3 H locs hr_ haf hS => ?_)
  obtain ⟨-, -, hP, hD⟩ := haf
  have hP : va_P G classes [(lv, .inr (10, [.ref st, .ref la, .ref le, .ref ta, .ref wa, .ref wk, .int 0, .int 0])), (wa, .inr (5, [.ref rwa, .int 0]))] H := hP
  have hD : va_D A [(lv, .inr (10, [.ref st, .ref la, .ref le, .ref ta, .ref wa, .ref wk, .int 0, .int 0])), (wa, .inr (5, [.ref rwa, .int 0]))] := hD
  subst hr_
  refine W.widen (k := 0) (n := 0) (by first | exact Nat.le_of_ble_eq_true rfl | omega) (by first | exact Nat.le_of_ble_eq_true rfl | omega) ?_
  exact W.iret (v := (-1000001)) hx hb hr (fun t ht hW => ⟨⟨(-1000001), (), rfl, rfl, trivial⟩, hS.F ht⟩) hS.2.2 dX11_check_26
theorem lf_c_X11_count_0   : (0 : Int32) = (F_count 0) := by first | (simp only [F_count, *, if_true, if_false]; done) | (rw [F_count, if_pos ⟨by decide, by decide⟩]; done) | (simp [F_count, inR]; done)
theorem lf_c_X11_count_1   : (0 : Int32) = (F_count 1) := by first | (simp only [F_count, *, if_true, if_false]; done) | (rw [F_count, if_pos ⟨by decide, by decide⟩]; done) | (simp [F_count, inR]; done)
theorem lf_c_X11_count_2   : (0 : Int32) = (F_count 2) := by first | (simp only [F_count, *, if_true, if_false]; done) | (rw [F_count, if_pos ⟨by decide, by decide⟩]; done) | (simp [F_count, inR]; done)
theorem lf_c_X11_count_3   : (0 : Int32) = (F_count 3) := by first | (simp only [F_count, *, if_true, if_false]; done) | (rw [F_count, if_pos ⟨by decide, by decide⟩]; done) | (simp [F_count, inR]; done)
theorem lf_c_X11_count_4   : (0 : Int32) = (F_count 4) := by first | (simp only [F_count, *, if_true, if_false]; done) | (rw [F_count, if_pos ⟨by decide, by decide⟩]; done) | (simp [F_count, inR]; done)
theorem lf_c_X11_count_5   : (0 : Int32) = (F_count 5) := by first | (simp only [F_count, *, if_true, if_false]; done) | (rw [F_count, if_pos ⟨by decide, by decide⟩]; done) | (simp [F_count, inR]; done)
theorem lf_c_X11_count_6   : (0 : Int32) = (F_count 6) := by first | (simp only [F_count, *, if_true, if_false]; done) | (rw [F_count, if_pos ⟨by decide, by decide⟩]; done) | (simp [F_count, inR]; done)
theorem lf_c_X11_count_7   : (0 : Int32) = (F_count 7) := by first | (simp only [F_count, *, if_true, if_false]; done) | (rw [F_count, if_pos ⟨by decide, by decide⟩]; done) | (simp [F_count, inR]; done)
theorem lf_c_X11_count_8   : (0 : Int32) = (F_count 8) := by first | (simp only [F_count, *, if_true, if_false]; done) | (rw [F_count, if_pos ⟨by decide, by decide⟩]; done) | (simp [F_count, inR]; done)
theorem lf_c_X11_count_9 (aa : Int32) (hz0 : ¬ inR aa 0 8) : ((-1000001) : Int32) = (F_count aa) := by first | (simp only [F_count, *, if_true, if_false]; done) | (rw [F_count, if_pos ⟨by decide, by decide⟩]; done) | (simp [F_count, inR]; done)
set_option maxHeartbeats 4000000 in
set_option maxRecDepth 100000 in
theorem c_X11_count (l : Launch) (G : va_G) (cy : Nat → ClassId) (sk : Nat → Nat) (sz : Nat) (x : Nat) (lv : Nat) (kp : Nat) (tr_ : Nat) (sh : Nat) (er : Nat) (re : Nat) (fi : Nat) (vo : Nat) (fe : Nat → Int32) (lv : Nat) (st : Nat) (la : Nat) (le : Nat) (ta : Nat) (wa : Nat) (wk : Nat) (oc : Nat) (ki : Nat) (ce : Nat) (si : Nat) (sp : Nat) (te : Nat) (ne : Nat) (mi : Nat) (tr : Nat) (be : Nat) (rta : Nat) (rwa : Nat) (bg : Nat) (vt : Nat) (vta : Nat) (aa : Int32)  : Met l yX11_count (wsO yX11_count cX11_count 2 (some .int)) ({ frames := 1, cells := 0, slots := 0, locals := 22 }) (va_Pc [.ref x, .int aa] (PR G cy sk sz [(x, .inr (11, [.ref lv, .ref kp, .ref tr_, .ref sh, .ref er, .ref re, .ref fi, .ref vo, .int 0])), (er, .inl (cy 0, 7, .inl fe)), (lv, .inr (10, [.ref st, .ref la, .ref le, .ref ta, .ref wa, .ref wk, .int 0, .int 0])), (st, .inr (7, [.ref oc, .ref ki, .ref ce, .ref si, .ref sp, .int 0])), (le, .inr (3, [.ref te, .ref ne, .ref mi, .int 0, .ref tr, .ref be, .int 0, .int 0, .int 0])), (ta, .inr (5, [.ref rta, .int 0])), (wa, .inr (5, [.ref rwa, .int 0])), (vo, .inr (8, [.ref bg, .ref vt, .int 0, .int 0, .int 0, .int 0])), (vt, .inr (5, [.ref vta, .int 0]))])) (va_Qi (fun r (_ : Unit) => r = (F_count aa)) (fun _ _ => True) (va_A [(x, .inr (11, [.ref lv, .ref kp, .ref tr_, .ref sh, .ref er, .ref re, .ref fi, .ref vo, .int 0])), (er, .inl (cy 0, 7, .inl fe)), (lv, .inr (10, [.ref st, .ref la, .ref le, .ref ta, .ref wa, .ref wk, .int 0, .int 0])), (st, .inr (7, [.ref oc, .ref ki, .ref ce, .ref si, .ref sp, .int 0])), (le, .inr (3, [.ref te, .ref ne, .ref mi, .int 0, .ref tr, .ref be, .int 0, .int 0, .int 0])), (ta, .inr (5, [.ref rta, .int 0])), (wa, .inr (5, [.ref rwa, .int 0])), (vo, .inr (8, [.ref bg, .ref vt, .int 0, .int 0, .int 0, .int 0])), (vt, .inr (5, [.ref vta, .int 0]))] sz)) 0 0 (va_A [(x, .inr (11, [.ref lv, .ref kp, .ref tr_, .ref sh, .ref er, .ref re, .ref fi, .ref vo, .int 0])), (er, .inl (cy 0, 7, .inl fe)), (lv, .inr (10, [.ref st, .ref la, .ref le, .ref ta, .ref wa, .ref wk, .int 0, .int 0])), (st, .inr (7, [.ref oc, .ref ki, .ref ce, .ref si, .ref sp, .int 0])), (le, .inr (3, [.ref te, .ref ne, .ref mi, .int 0, .ref tr, .ref be, .int 0, .int 0, .int 0])), (ta, .inr (5, [.ref rta, .int 0])), (wa, .inr (5, [.ref rwa, .int 0])), (vo, .inr (8, [.ref bg, .ref vt, .int 0, .int 0, .int 0, .int 0])), (vt, .inr (5, [.ref vta, .int 0]))] sz) := by
  refine mt (by decide) (Nat.le_of_ble_eq_true rfl) ?_
  intro p e s m below meth c ls hx hb hr hml hts hown hlocks hin hsz hP hE hD hl
  subst hsz
  have hl : lv_has ls 2 [(0, .ref x), (1, .int aa)] := hl
  have hD := hD.self (sz := s.heap.size)
  generalize hAe : va_A [(x, .inr (11, [.ref lv, .ref kp, .ref tr_, .ref sh, .ref er, .ref re, .ref fi, .ref vo, .int 0])), (er, .inl (cy 0, 7, .inl fe)), (lv, .inr (10, [.ref st, .ref la, .ref le, .ref ta, .ref wa, .ref wk, .int 0, .int 0])), (st, .inr (7, [.ref oc, .ref ki, .ref ce, .ref si, .ref sp, .int 0])), (le, .inr (3, [.ref te, .ref ne, .ref mi, .int 0, .ref tr, .ref be, .int 0, .int 0, .int 0])), (ta, .inr (5, [.ref rta, .int 0])), (wa, .inr (5, [.ref rwa, .int 0])), (vo, .inr (8, [.ref bg, .ref vt, .int 0, .int 0, .int 0, .int 0])), (vt, .inr (5, [.ref vta, .int 0]))] s.heap.size = A at hD ⊢
  have hA : ∀ q : Nat, s.heap.size ≤ q → A q := fun q h => by rw [← hAe]; exact Or.inr h
  have hS : va_S A s.heap s.heap [] := va_S.rf
  refine lv_iload_n hx hb dX11_count_0 rfl (lv_at hl 1 rfl) ?_
  rcases sw9 aa with rfl | rfl | rfl | rfl | rfl | rfl | rfl | rfl | rfl | hsw
  · refine lv_tableIn (tgt := 52) (off := 51) hx hb dX11_count_1 (by decide) (by decide) (by decide) (by decide) ?_
    refine lv_aload_n hx hb dX11_count_52 rfl (lv_at hl 0 rfl) ?_
    refine va_get (D := G) (ci := 11) (v := .ref lv) (C := RX11) (T := TX11) (N := 9) hx hb hts inB11 hown hE.1 hP 0 rfl rfl 0 (by decide) (hts _ m_459) (fun _ h9 => h9) rfl dX11_count_53 ?_
    refine va_getN (D := G) (ci := 10) (v := .int 0) (C := RX10) (T := TX10) (N := 8) hx hb hts inB10 hown hE.1 hP 2 rfl rfl 7 (by decide) (nf_RX11_290 hE) (fun _ h9 => h9) rfl dX11_count_56 ?_
    refine W.widen (k := 0) (n := 0) (by first | exact Nat.le_of_ble_eq_true rfl | omega) (by first | exact Nat.le_of_ble_eq_true rfl | omega) ?_
    exact W.iret (v := 0) hx hb hr (fun t ht hW => ⟨⟨0, (), rfl, (lf_c_X11_count_0  ), trivial⟩, hS.F ht⟩) hS.2.2 dX11_count_59
  · refine lv_tableIn (tgt := 60) (off := 59) hx hb dX11_count_1 (by decide) (by decide) (by decide) (by decide) ?_
    refine lv_aload_n hx hb dX11_count_60 rfl (lv_at hl 0 rfl) ?_
    refine va_get (D := G) (ci := 11) (v := .ref lv) (C := RX11) (T := TX11) (N := 9) hx hb hts inB11 hown hE.1 hP 0 rfl rfl 0 (by decide) (hts _ m_459) (fun _ h9 => h9) rfl dX11_count_61 ?_
    refine va_getN (D := G) (ci := 10) (v := .ref st) (C := RX10) (T := TX10) (N := 8) hx hb hts inB10 hown hE.1 hP 2 rfl rfl 0 (by decide) (nf_RX11_71 hE) (fun _ h9 => h9) rfl dX11_count_64 ?_
    refine rV (rest := []) hx hb hml hown hts hE (c_X7_countThings l G cy sk s.heap.size st oc ki ce si sp) kV_X7_countThings m_1296 rfl rfl ⟨(Nat.le_of_ble_eq_true rfl), (Nat.le_of_ble_eq_true rfl)⟩ hP hD 3 rfl rfl rfl [3] rfl rfl rfl rfl hl.1 (Nat.le_of_ble_eq_true rfl) dX11_count_67 ⟨(Nat.le_of_ble_eq_true rfl), (Nat.le_of_ble_eq_true rfl)⟩ (fun r_1 hr_ => ?_)
    subst hr_
    refine W.widen (k := 0) (n := 0) (by first | exact Nat.le_of_ble_eq_true rfl | omega) (by first | exact Nat.le_of_ble_eq_true rfl | omega) ?_
    exact W.iret (v := 0) hx hb hr (fun t ht hW => ⟨⟨0, (), rfl, (lf_c_X11_count_1  ), trivial⟩, hS.F ht⟩) hS.2.2 dX11_count_70
  · refine lv_tableIn (tgt := 71) (off := 70) hx hb dX11_count_1 (by decide) (by decide) (by decide) (by decide) ?_
    refine lv_aload_n hx hb dX11_count_71 rfl (lv_at hl 0 rfl) ?_
    refine va_get (D := G) (ci := 11) (v := .ref lv) (C := RX11) (T := TX11) (N := 9) hx hb hts inB11 hown hE.1 hP 0 rfl rfl 0 (by decide) (hts _ m_459) (fun _ h9 => h9) rfl dX11_count_72 ?_
    refine va_getN (D := G) (ci := 10) (v := .int 0) (C := RX10) (T := TX10) (N := 8) hx hb hts inB10 hown hE.1 hP 2 rfl rfl 6 (by decide) (nf_RX11_148 hE) (fun _ h9 => h9) rfl dX11_count_75 ?_
    refine W.widen (k := 0) (n := 0) (by first | exact Nat.le_of_ble_eq_true rfl | omega) (by first | exact Nat.le_of_ble_eq_true rfl | omega) ?_
    exact W.iret (v := 0) hx hb hr (fun t ht hW => ⟨⟨0, (), rfl, (lf_c_X11_count_2  ), trivial⟩, hS.F ht⟩) hS.2.2 dX11_count_78
  · refine lv_tableIn (tgt := 79) (off := 78) hx hb dX11_count_1 (by decide) (by decide) (by decide) (by decide) ?_
    refine lv_aload_n hx hb dX11_count_79 rfl (lv_at hl 0 rfl) ?_
    refine va_get (D := G) (ci := 11) (v := .ref lv) (C := RX11) (T := TX11) (N := 9) hx hb hts inB11 hown hE.1 hP 0 rfl rfl 0 (by decide) (hts _ m_459) (fun _ h9 => h9) rfl dX11_count_80 ?_
    refine va_getN (D := G) (ci := 10) (v := .ref le) (C := RX10) (T := TX10) (N := 8) hx hb hts inB10 hown hE.1 hP 2 rfl rfl 2 (by decide) (nf_RX11_313 hE) (fun _ h9 => h9) rfl dX11_count_83 ?_
    refine va_getN (D := G) (ci := 3) (v := .int 0) (C := RX3) (T := TX3) (N := 9) hx hb hts inB3 hown hE.1 hP 4 rfl rfl 3 (by decide) (nf_RX11_391 hE) (fun _ h9 => h9) rfl dX11_count_86 ?_
    refine W.widen (k := 0) (n := 0) (by first | exact Nat.le_of_ble_eq_true rfl | omega) (by first | exact Nat.le_of_ble_eq_true rfl | omega) ?_
    exact W.iret (v := 0) hx hb hr (fun t ht hW => ⟨⟨0, (), rfl, (lf_c_X11_count_3  ), trivial⟩, hS.F ht⟩) hS.2.2 dX11_count_89
  · refine lv_tableIn (tgt := 90) (off := 89) hx hb dX11_count_1 (by decide) (by decide) (by decide) (by decide) ?_
    refine lv_aload_n hx hb dX11_count_90 rfl (lv_at hl 0 rfl) ?_
    refine va_get (D := G) (ci := 11) (v := .ref lv) (C := RX11) (T := TX11) (N := 9) hx hb hts inB11 hown hE.1 hP 0 rfl rfl 0 (by decide) (hts _ m_459) (fun _ h9 => h9) rfl dX11_count_91 ?_
    refine va_getN (D := G) (ci := 10) (v := .ref ta) (C := RX10) (T := TX10) (N := 8) hx hb hts inB10 hown hE.1 hP 2 rfl rfl 3 (by decide) (nf_RX11_192 hE) (fun _ h9 => h9) rfl dX11_count_94 ?_
    refine va_getN (D := G) (ci := 5) (v := .int 0) (C := RX5) (T := TX5) (N := 2) hx hb hts inB5 hown hE.1 hP 5 rfl rfl 1 (by decide) (nf_RX11_205 hE) (fun _ h9 => h9) rfl dX11_count_97 ?_
    refine W.widen (k := 0) (n := 0) (by first | exact Nat.le_of_ble_eq_true rfl | omega) (by first | exact Nat.le_of_ble_eq_true rfl | omega) ?_
    exact W.iret (v := 0) hx hb hr (fun t ht hW => ⟨⟨0, (), rfl, (lf_c_X11_count_4  ), trivial⟩, hS.F ht⟩) hS.2.2 dX11_count_100
  · refine lv_tableIn (tgt := 101) (off := 100) hx hb dX11_count_1 (by decide) (by decide) (by decide) (by decide) ?_
    refine lv_aload_n hx hb dX11_count_101 rfl (lv_at hl 0 rfl) ?_
    refine va_get (D := G) (ci := 11) (v := .ref lv) (C := RX11) (T := TX11) (N := 9) hx hb hts inB11 hown hE.1 hP 0 rfl rfl 0 (by decide) (hts _ m_459) (fun _ h9 => h9) rfl dX11_count_102 ?_
    refine va_getN (D := G) (ci := 10) (v := .ref wa) (C := RX10) (T := TX10) (N := 8) hx hb hts inB10 hown hE.1 hP 2 rfl rfl 4 (by decide) (nf_RX11_385 hE) (fun _ h9 => h9) rfl dX11_count_105 ?_
    refine va_getN (D := G) (ci := 5) (v := .int 0) (C := RX5) (T := TX5) (N := 2) hx hb hts inB5 hown hE.1 hP 6 rfl rfl 1 (by decide) (nf_RX11_205 hE) (fun _ h9 => h9) rfl dX11_count_108 ?_
    refine W.widen (k := 0) (n := 0) (by first | exact Nat.le_of_ble_eq_true rfl | omega) (by first | exact Nat.le_of_ble_eq_true rfl | omega) ?_
    exact W.iret (v := 0) hx hb hr (fun t ht hW => ⟨⟨0, (), rfl, (lf_c_X11_count_5  ), trivial⟩, hS.F ht⟩) hS.2.2 dX11_count_111
  · refine lv_tableIn (tgt := 112) (off := 111) hx hb dX11_count_1 (by decide) (by decide) (by decide) (by decide) ?_
    refine lv_aload_n hx hb dX11_count_112 rfl (lv_at hl 0 rfl) ?_
    refine va_get (D := G) (ci := 11) (v := .ref vo) (C := RX11) (T := TX11) (N := 9) hx hb hts inB11 hown hE.1 hP 0 rfl rfl 7 (by decide) (hts _ m_466) (fun _ h9 => h9) rfl dX11_count_113 ?_
    refine va_getN (D := G) (ci := 8) (v := .ref vt) (C := RX8) (T := TX8) (N := 6) hx hb hts inB8 hown hE.1 hP 7 rfl rfl 1 (by decide) (nf_RX11_353 hE) (fun _ h9 => h9) rfl dX11_count_116 ?_
    refine va_getN (D := G) (ci := 5) (v := .int 0) (C := RX5) (T := TX5) (N := 2) hx hb hts inB5 hown hE.1 hP 8 rfl rfl 1 (by decide) (nf_RX11_205 hE) (fun _ h9 => h9) rfl dX11_count_119 ?_
    refine W.widen (k := 0) (n := 0) (by first | exact Nat.le_of_ble_eq_true rfl | omega) (by first | exact Nat.le_of_ble_eq_true rfl | omega) ?_
    exact W.iret (v := 0) hx hb hr (fun t ht hW => ⟨⟨0, (), rfl, (lf_c_X11_count_6  ), trivial⟩, hS.F ht⟩) hS.2.2 dX11_count_122
  · refine lv_tableIn (tgt := 123) (off := 122) hx hb dX11_count_1 (by decide) (by decide) (by decide) (by decide) ?_
    refine lv_aload_n hx hb dX11_count_123 rfl (lv_at hl 0 rfl) ?_
    refine va_get (D := G) (ci := 11) (v := .ref lv) (C := RX11) (T := TX11) (N := 9) hx hb hts inB11 hown hE.1 hP 0 rfl rfl 0 (by decide) (hts _ m_459) (fun _ h9 => h9) rfl dX11_count_124 ?_
    refine rV (rest := []) hx hb hml hown hts hE (c_X10_countBumps l G cy sk s.heap.size lv st la le ta wa wk 0) kV_X10_countBumps m_1300 rfl rfl ⟨(Nat.le_of_ble_eq_true rfl), (Nat.le_of_ble_eq_true rfl)⟩ hP hD 2 rfl rfl rfl [2] rfl rfl rfl rfl hl.1 (Nat.le_of_ble_eq_true rfl) dX11_count_127 ⟨(Nat.le_of_ble_eq_true rfl), (Nat.le_of_ble_eq_true rfl)⟩ (fun r_2 hr_ => ?_)
    subst hr_
    refine W.widen (k := 0) (n := 0) (by first | exact Nat.le_of_ble_eq_true rfl | omega) (by first | exact Nat.le_of_ble_eq_true rfl | omega) ?_
    exact W.iret (v := 0) hx hb hr (fun t ht hW => ⟨⟨0, (), rfl, (lf_c_X11_count_7  ), trivial⟩, hS.F ht⟩) hS.2.2 dX11_count_130
  · refine lv_tableIn (tgt := 131) (off := 130) hx hb dX11_count_1 (by decide) (by decide) (by decide) (by decide) ?_
    refine lv_aload_n hx hb dX11_count_131 rfl (lv_at hl 0 rfl) ?_
    refine va_get (D := G) (ci := 11) (v := .ref lv) (C := RX11) (T := TX11) (N := 9) hx hb hts inB11 hown hE.1 hP 0 rfl rfl 0 (by decide) (hts _ m_459) (fun _ h9 => h9) rfl dX11_count_132 ?_
    refine rV (rest := []) hx hb hml hown hts hE (c_X10_countClicks l G cy sk s.heap.size lv st la le ta wa wk 0) kV_X10_countClicks m_1304 rfl rfl ⟨(Nat.le_of_ble_eq_true rfl), (Nat.le_of_ble_eq_true rfl)⟩ hP hD 2 rfl rfl rfl [2] rfl rfl rfl rfl hl.1 (Nat.le_of_ble_eq_true rfl) dX11_count_135 ⟨(Nat.le_of_ble_eq_true rfl), (Nat.le_of_ble_eq_true rfl)⟩ (fun r_3 hr_ => ?_)
    subst hr_
    refine W.widen (k := 0) (n := 0) (by first | exact Nat.le_of_ble_eq_true rfl | omega) (by first | exact Nat.le_of_ble_eq_true rfl | omega) ?_
    exact W.iret (v := 0) hx hb hr (fun t ht hW => ⟨⟨0, (), rfl, (lf_c_X11_count_8  ), trivial⟩, hS.F ht⟩) hS.2.2 dX11_count_138
  · refine lv_tableOut (tgt := 139) hx hb dX11_count_1 hsw (by decide) ?_
    refine lv_aload_n hx hb dX11_count_139 rfl (lv_at hl 0 rfl) ?_
    refine lv_iconst (v := 1) hx hb dX11_count_140 (by decide) ?_
    refine wV (B := (fun _ => True)) (wr := [(lv, .inr (10, [.ref st, .ref la, .ref le, .ref ta, .ref wa, .ref wk, .int 0, .int 0])), (st, .inr (7, [.ref oc, .ref ki, .ref ce, .ref si, .ref sp, .int 0])), (le, .inr (3, [.ref te, .ref ne, .ref mi, .int 0, .ref tr, .ref be, .int 0, .int 0, .int 0])), (ta, .inr (5, [.ref rta, .int 0])), (wa, .inr (5, [.ref rwa, .int 0])), (vo, .inr (8, [.ref bg, .ref vt, .int 0, .int 0, .int 0, .int 0])), (vt, .inr (5, [.ref vta, .int 0]))]) (rest := []) hx hb hml hown hts hE (c_X11_error l G cy sk s.heap.size x lv kp tr_ sh er re fi vo fe 1 (-1000001) 0 (by first | decide | (unfold inR; decide)) (by decide)) kV_X11_error m_500 rfl rfl ⟨(Nat.le_of_ble_eq_true rfl), (Nat.le_of_ble_eq_true rfl)⟩ hP hD hS hA 0 rfl rfl rfl [0, 1] [2, 3, 4, 5, 6, 7, 8] rfl rfl rfl rfl (by decide) rfl rfl hl.1 (Nat.le_of_ble_eq_true rfl) dX11_count_141 ⟨(Nat.le_of_ble_eq_true rfl), (Nat.le_of_ble_eq_true rfl)⟩ (fun r_4 H locs hr_ haf hS => ?_)
    obtain ⟨-, -, hP, hD⟩ := haf
    have hP : va_P G classes [(lv, .inr (10, [.ref st, .ref la, .ref le, .ref ta, .ref wa, .ref wk, .int 0, .int 0])), (st, .inr (7, [.ref oc, .ref ki, .ref ce, .ref si, .ref sp, .int 0])), (le, .inr (3, [.ref te, .ref ne, .ref mi, .int 0, .ref tr, .ref be, .int 0, .int 0, .int 0])), (ta, .inr (5, [.ref rta, .int 0])), (wa, .inr (5, [.ref rwa, .int 0])), (vo, .inr (8, [.ref bg, .ref vt, .int 0, .int 0, .int 0, .int 0])), (vt, .inr (5, [.ref vta, .int 0]))] H := hP
    have hD : va_D A [(lv, .inr (10, [.ref st, .ref la, .ref le, .ref ta, .ref wa, .ref wk, .int 0, .int 0])), (st, .inr (7, [.ref oc, .ref ki, .ref ce, .ref si, .ref sp, .int 0])), (le, .inr (3, [.ref te, .ref ne, .ref mi, .int 0, .ref tr, .ref be, .int 0, .int 0, .int 0])), (ta, .inr (5, [.ref rta, .int 0])), (wa, .inr (5, [.ref rwa, .int 0])), (vo, .inr (8, [.ref bg, .ref vt, .int 0, .int 0, .int 0, .int 0])), (vt, .inr (5, [.ref vta, .int 0]))] := hD
    subst hr_
    refine W.widen (k := 0) (n := 0) (by first | exact Nat.le_of_ble_eq_true rfl | omega) (by first | exact Nat.le_of_ble_eq_true rfl | omega) ?_
    exact W.iret (v := (-1000001)) hx hb hr (fun t ht hW => ⟨⟨(-1000001), (), rfl, (lf_c_X11_count_9 aa (not_in9 hsw)), trivial⟩, hS.F ht⟩) hS.2.2 dX11_count_144
theorem lf_c_X11_told_0 (ak : Int32) (h_2 : inR ak 1 6) : (0 : Int32) = (F_told ak) := by first | (simp only [F_told, *, and_true, true_and, and_false, false_and, if_true, if_false]; done) | (simp [F_told, *]; done) | (unfold F_told; simp_all; done)
theorem lf_c_X11_told_1 (ak : Int32) (h_2 : ¬ inR ak 1 6) : ((-1000001) : Int32) = (F_told ak) := by first | (simp only [F_told, *, and_true, true_and, and_false, false_and, if_true, if_false]; done) | (simp [F_told, *]; done) | (unfold F_told; simp_all; done)
set_option maxHeartbeats 4000000 in
set_option maxRecDepth 100000 in
theorem c_X11_told (l : Launch) (G : va_G) (cy : Nat → ClassId) (sk : Nat → Nat) (sz : Nat) (x : Nat) (lv : Nat) (kp : Nat) (tr_ : Nat) (sh : Nat) (er : Nat) (re : Nat) (fi : Nat) (vo : Nat) (ak : Int32)  : Met l yX11_told (wsO yX11_told cX11_told 2 (some .int)) ({ frames := 1, cells := 0, slots := 0, locals := 22 }) (va_Pc [.ref x, .int ak] (PR G cy sk sz [(x, .inr (11, [.ref lv, .ref kp, .ref tr_, .ref sh, .ref er, .ref re, .ref fi, .ref vo, .int 0])), (er, .inl (cy 0, 7, .inl (fun _ => 0)))])) (va_Qi (fun r (_ : Unit) => r = (F_told ak)) (fun _ _ => True) (va_A [(x, .inr (11, [.ref lv, .ref kp, .ref tr_, .ref sh, .ref er, .ref re, .ref fi, .ref vo, .int 0])), (er, .inl (cy 0, 7, .inl (fun _ => 0)))] sz)) 0 0 (va_A [(x, .inr (11, [.ref lv, .ref kp, .ref tr_, .ref sh, .ref er, .ref re, .ref fi, .ref vo, .int 0])), (er, .inl (cy 0, 7, .inl (fun _ => 0)))] sz) := by
  refine mt (by decide) (Nat.le_of_ble_eq_true rfl) ?_
  intro p e s m below meth c ls hx hb hr hml hts hown hlocks hin hsz hP hE hD hl
  subst hsz
  have hl : lv_has ls 2 [(0, .ref x), (1, .int ak)] := hl
  have hD := hD.self (sz := s.heap.size)
  generalize hAe : va_A [(x, .inr (11, [.ref lv, .ref kp, .ref tr_, .ref sh, .ref er, .ref re, .ref fi, .ref vo, .int 0])), (er, .inl (cy 0, 7, .inl (fun _ => 0)))] s.heap.size = A at hD ⊢
  have hA : ∀ q : Nat, s.heap.size ≤ q → A q := fun q h => by rw [← hAe]; exact Or.inr h
  have hS : va_S A s.heap s.heap [] := va_S.rf
  refine lv_iload_n hx hb dX11_told_0 rfl (lv_at hl 1 rfl) ?_
  refine lv_iconst (v := 1) hx hb dX11_told_1 (by decide) ?_
  refine lv_bipush (v := 6) hx hb dX11_told_2 (by decide) ?_
  refine rS (rest := []) hx hb hml hown hts hE (c_X11_within l G cy sk s.heap.size ak 1 6) kS_X11_within m_494 rfl rfl ⟨(Nat.le_of_ble_eq_true rfl), (Nat.le_of_ble_eq_true rfl)⟩ hP hD [] rfl rfl rfl rfl hl.1 (Nat.le_of_ble_eq_true rfl) dX11_told_4 ⟨(Nat.le_of_ble_eq_true rfl), (Nat.le_of_ble_eq_true rfl)⟩ (fun r_1 hr_ => ?_)
  rcases hr_ with ⟨rfl, h_2⟩ | ⟨rfl, h_2⟩
  · refine lv_if_eq (tgt := 19) hx hb dX11_told_7 (by decide) (fun h9 => absurd h9 (by decide)) (fun _ => ?_)
    refine lv_aload_n hx hb dX11_told_10 rfl (lv_at hl 0 rfl) ?_
    refine va_get (D := G) (ci := 11) (v := .ref er) (C := RX11) (T := TX11) (N := 9) hx hb hts inB11 hown hE.1 hP 0 rfl rfl 4 (by decide) (hts _ m_463) (fun _ h9 => h9) rfl dX11_told_11 ?_
    refine lv_iload_n hx hb dX11_told_14 rfl (lv_at hl 1 rfl) ?_
    refine va_iald hx hb hE.1 hP 1 0 rfl rfl (vinB h_2 (by decide) (by decide)) dX11_told_15 ?_
    refine tp (v := 0) rfl ?_
    refine lv_goto (tgt := 24) hx hb dX11_told_16 (by decide) ?_
    refine W.widen (k := 0) (n := 0) (by first | exact Nat.le_of_ble_eq_true rfl | omega) (by first | exact Nat.le_of_ble_eq_true rfl | omega) ?_
    exact W.iret (v := 0) hx hb hr (fun t ht hW => ⟨⟨0, (), rfl, (lf_c_X11_told_0 ak h_2), trivial⟩, hS.F ht⟩) hS.2.2 dX11_told_24
  · refine lv_if_eq (tgt := 19) hx hb dX11_told_7 (by decide) (fun _ => ?_) (fun h9 => absurd h9 (by decide))
    refine lv_aload_n hx hb dX11_told_19 rfl (lv_at hl 0 rfl) ?_
    refine lv_iconst (v := 1) hx hb dX11_told_20 (by decide) ?_
    refine wV (B := (fun _ => True)) (wr := []) (rest := []) hx hb hml hown hts hE (c_X11_error l G cy sk s.heap.size x lv kp tr_ sh er re fi vo (fun _ => 0) 1 (-1000001) 0 (by first | decide | (unfold inR; decide)) (by decide)) kV_X11_error m_500 rfl rfl ⟨(Nat.le_of_ble_eq_true rfl), (Nat.le_of_ble_eq_true rfl)⟩ hP hD hS hA 0 rfl rfl rfl [0, 1] [] rfl rfl rfl rfl (by decide) rfl rfl hl.1 (Nat.le_of_ble_eq_true rfl) dX11_told_21 ⟨(Nat.le_of_ble_eq_true rfl), (Nat.le_of_ble_eq_true rfl)⟩ (fun r_3 H locs hr_ haf hS => ?_)
    obtain ⟨-, -, hP, hD⟩ := haf
    have hP : va_P G classes [] H := hP
    have hD : va_D A [] := hD
    subst hr_
    refine W.widen (k := 0) (n := 0) (by first | exact Nat.le_of_ble_eq_true rfl | omega) (by first | exact Nat.le_of_ble_eq_true rfl | omega) ?_
    exact W.iret (v := (-1000001)) hx hb hr (fun t ht hW => ⟨⟨(-1000001), (), rfl, (lf_c_X11_told_1 ak h_2), trivial⟩, hS.F ht⟩) hS.2.2 dX11_told_24
set_option maxHeartbeats 4000000 in
set_option maxRecDepth 100000 in
theorem c_X11_trace (l : Launch) (G : va_G) (cy : Nat → ClassId) (sk : Nat → Nat) (sz : Nat) (x : Nat) (lv : Nat) (kp : Nat) (tr_ : Nat) (sh : Nat) (er : Nat) (re : Nat) (fi : Nat) (vo : Nat) (fe : Nat → Int32) (bg : Nat) (vt : Nat) (vta : Nat) (aa : Int32)  : Met l yX11_trace (wsO yX11_trace cX11_trace 2 (some .int)) ({ frames := 1, cells := 0, slots := 0, locals := 21 }) (va_Pc [.ref x, .int aa] (PR G cy sk sz [(x, .inr (11, [.ref lv, .ref kp, .ref tr_, .ref sh, .ref er, .ref re, .ref fi, .ref vo, .int 0])), (er, .inl (cy 0, 7, .inl fe)), (vo, .inr (8, [.ref bg, .ref vt, .int 0, .int 0, .int 0, .int 0])), (vt, .inr (5, [.ref vta, .int 0]))])) (va_Qi (fun r (_ : Unit) => r = (-1000002)) (fun _ _ => True) (va_A [(x, .inr (11, [.ref lv, .ref kp, .ref tr_, .ref sh, .ref er, .ref re, .ref fi, .ref vo, .int 0])), (er, .inl (cy 0, 7, .inl fe)), (vo, .inr (8, [.ref bg, .ref vt, .int 0, .int 0, .int 0, .int 0])), (vt, .inr (5, [.ref vta, .int 0]))] sz)) 0 0 (va_A [(x, .inr (11, [.ref lv, .ref kp, .ref tr_, .ref sh, .ref er, .ref re, .ref fi, .ref vo, .int 0])), (er, .inl (cy 0, 7, .inl fe)), (vo, .inr (8, [.ref bg, .ref vt, .int 0, .int 0, .int 0, .int 0])), (vt, .inr (5, [.ref vta, .int 0]))] sz) := by
  refine mt (by decide) (Nat.le_of_ble_eq_true rfl) ?_
  intro p e s m below meth c ls hx hb hr hml hts hown hlocks hin hsz hP hE hD hl
  subst hsz
  have hl : lv_has ls 2 [(0, .ref x), (1, .int aa)] := hl
  have hD := hD.self (sz := s.heap.size)
  generalize hAe : va_A [(x, .inr (11, [.ref lv, .ref kp, .ref tr_, .ref sh, .ref er, .ref re, .ref fi, .ref vo, .int 0])), (er, .inl (cy 0, 7, .inl fe)), (vo, .inr (8, [.ref bg, .ref vt, .int 0, .int 0, .int 0, .int 0])), (vt, .inr (5, [.ref vta, .int 0]))] s.heap.size = A at hD ⊢
  have hA : ∀ q : Nat, s.heap.size ≤ q → A q := fun q h => by rw [← hAe]; exact Or.inr h
  have hS : va_S A s.heap s.heap [] := va_S.rf
  refine lv_aload_n hx hb dX11_trace_0 rfl (lv_at hl 0 rfl) ?_
  refine va_get (D := G) (ci := 11) (v := .ref vo) (C := RX11) (T := TX11) (N := 9) hx hb hts inB11 hown hE.1 hP 0 rfl rfl 7 (by decide) (hts _ m_466) (fun _ h9 => h9) rfl dX11_trace_1 ?_
  refine va_getN (D := G) (ci := 8) (v := .ref vt) (C := RX8) (T := TX8) (N := 6) hx hb hts inB8 hown hE.1 hP 2 rfl rfl 1 (by decide) (nf_RX11_353 hE) (fun _ h9 => h9) rfl dX11_trace_4 ?_
  refine lv_iload_n hx hb dX11_trace_7 rfl (lv_at hl 1 rfl) ?_
  refine rV (rest := []) hx hb hml hown hts hE (c_X5_has l G cy sk s.heap.size vt vta aa) kV_X5_has m_1214 rfl rfl ⟨(Nat.le_of_ble_eq_true rfl), (Nat.le_of_ble_eq_true rfl)⟩ hP hD 3 rfl rfl rfl [3] rfl rfl rfl rfl hl.1 (Nat.le_of_ble_eq_true rfl) dX11_trace_8 ⟨(Nat.le_of_ble_eq_true rfl), (Nat.le_of_ble_eq_true rfl)⟩ (fun r_1 hr_ => ?_)
  subst hr_
  refine lv_if_ne (tgt := 20) hx hb dX11_trace_11 (by decide) (fun h9 => absurd h9 (by decide)) (fun _ => ?_)
  refine lv_aload_n hx hb dX11_trace_14 rfl (lv_at hl 0 rfl) ?_
  refine lv_iconst (v := 2) hx hb dX11_trace_15 (by decide) ?_
  refine wV (B := (fun _ => True)) (wr := [(vo, .inr (8, [.ref bg, .ref vt, .int 0, .int 0, .int 0, .int 0])), (vt, .inr (5, [.ref vta, .int 0]))]) (rest := []) hx hb hml hown hts hE (c_X11_error l G cy sk s.heap.size x lv kp tr_ sh er re fi vo fe 2 (-1000002) 0 (by first | decide | (unfold inR; decide)) (by decide)) kV_X11_error m_500 rfl rfl ⟨(Nat.le_of_ble_eq_true rfl), (Nat.le_of_ble_eq_true rfl)⟩ hP hD hS hA 0 rfl rfl rfl [0, 1] [2, 3] rfl rfl rfl rfl (by decide) rfl rfl hl.1 (Nat.le_of_ble_eq_true rfl) dX11_trace_16 ⟨(Nat.le_of_ble_eq_true rfl), (Nat.le_of_ble_eq_true rfl)⟩ (fun r_2 H locs hr_ haf hS => ?_)
  obtain ⟨-, -, hP, hD⟩ := haf
  have hP : va_P G classes [(vo, .inr (8, [.ref bg, .ref vt, .int 0, .int 0, .int 0, .int 0])), (vt, .inr (5, [.ref vta, .int 0]))] H := hP
  have hD : va_D A [(vo, .inr (8, [.ref bg, .ref vt, .int 0, .int 0, .int 0, .int 0])), (vt, .inr (5, [.ref vta, .int 0]))] := hD
  subst hr_
  refine W.widen (k := 0) (n := 0) (by first | exact Nat.le_of_ble_eq_true rfl | omega) (by first | exact Nat.le_of_ble_eq_true rfl | omega) ?_
  exact W.iret (v := (-1000002)) hx hb hr (fun t ht hW => ⟨⟨(-1000002), (), rfl, rfl, trivial⟩, hS.F ht⟩) hS.2.2 dX11_trace_19
