theorem lf_c_X11_air_0 (aw : Int32) (av : Int32) (h_2 : inR aw 0 2) (c_3 : ¬ aw = 0) (c_4 : ¬ aw = 1) (h_6 : inR av 0 1) : ((if aw = 0 then 5 else if aw = 1 then 9 else 0) : Int32) = (F_air aw av) := by first | (simp only [F_air, *, and_true, true_and, and_false, false_and, if_true, if_false]; done) | (simp [F_air, *]; done) | (unfold F_air; simp_all; done)
theorem lf_c_X11_air_1 (aw : Int32) (av : Int32) (h_2 : inR aw 0 2) (c_3 : ¬ aw = 0) (c_4 : ¬ aw = 1) (h_6 : ¬ inR av 0 1) : ((-1000001) : Int32) = (F_air aw av) := by first | (simp only [F_air, *, and_true, true_and, and_false, false_and, if_true, if_false]; done) | (simp [F_air, *]; done) | (unfold F_air; simp_all; done)
theorem lf_c_X11_air_2 (aw : Int32) (av : Int32) (h_2 : inR aw 0 2) (c_3 : ¬ aw = 0) (c_4 : aw = 1) (h_10 : inR av 0 90) : ((if aw = 0 then 5 else if aw = 1 then 9 else 0) : Int32) = (F_air aw av) := by first | (simp only [F_air, *, and_true, true_and, and_false, false_and, if_true, if_false]; done) | (simp [F_air, *]; done) | (unfold F_air; simp_all; done)
theorem lf_c_X11_air_3 (aw : Int32) (av : Int32) (h_2 : inR aw 0 2) (c_3 : ¬ aw = 0) (c_4 : aw = 1) (h_10 : ¬ inR av 0 90) : ((-1000001) : Int32) = (F_air aw av) := by first | (simp only [F_air, *, and_true, true_and, and_false, false_and, if_true, if_false]; done) | (simp [F_air, *]; done) | (unfold F_air; simp_all; done)
theorem lf_c_X11_air_4 (aw : Int32) (av : Int32) (h_2 : inR aw 0 2) (c_3 : aw = 0) (h_14 : inR av 0 99) : ((if aw = 0 then 5 else if aw = 1 then 9 else 0) : Int32) = (F_air aw av) := by first | (simp only [F_air, *, and_true, true_and, and_false, false_and, if_true, if_false]; done) | (simp [F_air, *]; done) | (unfold F_air; simp_all; done)
theorem lf_c_X11_air_5 (aw : Int32) (av : Int32) (h_2 : inR aw 0 2) (c_3 : aw = 0) (h_14 : ¬ inR av 0 99) : ((-1000001) : Int32) = (F_air aw av) := by first | (simp only [F_air, *, and_true, true_and, and_false, false_and, if_true, if_false]; done) | (simp [F_air, *]; done) | (unfold F_air; simp_all; done)
theorem lf_c_X11_air_6 (aw : Int32) (av : Int32) (h_2 : ¬ inR aw 0 2) : ((-1000001) : Int32) = (F_air aw av) := by first | (simp only [F_air, *, and_true, true_and, and_false, false_and, if_true, if_false]; done) | (simp [F_air, *]; done) | (unfold F_air; simp_all; done)
set_option maxHeartbeats 4000000 in
set_option maxRecDepth 100000 in
theorem c_X11_air (l : Launch) (G : va_G) (cy : Nat → ClassId) (sk : Nat → Nat) (sz : Nat) (x : Nat) (lv : Nat) (kp : Nat) (tr_ : Nat) (sh : Nat) (er : Nat) (re : Nat) (fi : Nat) (vo : Nat) (fe : Nat → Int32) (lv : Nat) (st : Nat) (la : Nat) (le : Nat) (ta : Nat) (wa : Nat) (wk : Nat) (ld : Nat) (sr : Nat) (tx : Nat) (vl : Nat) (aw : Int32) (av : Int32)  : Met l yX11_air (wsO yX11_air cX11_air 3 (some .int)) ({ frames := 1, cells := 0, slots := 0, locals := 23 }) (va_Pc [.ref x, .int aw, .int av] (PR G cy sk sz [(x, .inr (11, [.ref lv, .ref kp, .ref tr_, .ref sh, .ref er, .ref re, .ref fi, .ref vo, .int 0])), (er, .inl (cy 0, 7, .inl fe)), (lv, .inr (10, [.ref st, .ref la, .ref le, .ref ta, .ref wa, .ref wk, .int 0, .int 0])), (la, .inr (2, [.int 5, .int 9, .int 0, .ref ld, .ref sr, .ref tx, .ref vl]))])) (va_Qi (fun r (_ : Unit) => r = (F_air aw av)) (fun _ _ => True) (va_A [(x, .inr (11, [.ref lv, .ref kp, .ref tr_, .ref sh, .ref er, .ref re, .ref fi, .ref vo, .int 0])), (er, .inl (cy 0, 7, .inl fe)), (lv, .inr (10, [.ref st, .ref la, .ref le, .ref ta, .ref wa, .ref wk, .int 0, .int 0])), (la, .inr (2, [.int 5, .int 9, .int 0, .ref ld, .ref sr, .ref tx, .ref vl]))] sz)) 0 0 (va_A [(x, .inr (11, [.ref lv, .ref kp, .ref tr_, .ref sh, .ref er, .ref re, .ref fi, .ref vo, .int 0])), (er, .inl (cy 0, 7, .inl fe)), (lv, .inr (10, [.ref st, .ref la, .ref le, .ref ta, .ref wa, .ref wk, .int 0, .int 0])), (la, .inr (2, [.int 5, .int 9, .int 0, .ref ld, .ref sr, .ref tx, .ref vl]))] sz) := by
  refine mt (by decide) (Nat.le_of_ble_eq_true rfl) ?_
  intro p e s m below meth c ls hx hb hr hml hts hown hlocks hin hsz hP hE hD hl
  subst hsz
  have hl : lv_has ls 3 [(0, .ref x), (1, .int aw), (2, .int av)] := hl
  have hD := hD.self (sz := s.heap.size)
  generalize hAe : va_A [(x, .inr (11, [.ref lv, .ref kp, .ref tr_, .ref sh, .ref er, .ref re, .ref fi, .ref vo, .int 0])), (er, .inl (cy 0, 7, .inl fe)), (lv, .inr (10, [.ref st, .ref la, .ref le, .ref ta, .ref wa, .ref wk, .int 0, .int 0])), (la, .inr (2, [.int 5, .int 9, .int 0, .ref ld, .ref sr, .ref tx, .ref vl]))] s.heap.size = A at hD ⊢
  have hA : ∀ q : Nat, s.heap.size ≤ q → A q := fun q h => by rw [← hAe]; exact Or.inr h
  have hS : va_S A s.heap s.heap [] := va_S.rf
  refine lv_iload_n hx hb dX11_air_0 rfl (lv_at hl 1 rfl) ?_
  refine lv_iconst (v := 0) hx hb dX11_air_1 (by decide) ?_
  refine lv_iconst (v := 2) hx hb dX11_air_2 (by decide) ?_
  refine rS (rest := []) hx hb hml hown hts hE (c_X11_within l G cy sk s.heap.size aw 0 2) kS_X11_within m_494 rfl rfl ⟨(Nat.le_of_ble_eq_true rfl), (Nat.le_of_ble_eq_true rfl)⟩ hP hD [] rfl rfl rfl rfl hl.1 (Nat.le_of_ble_eq_true rfl) dX11_air_3 ⟨(Nat.le_of_ble_eq_true rfl), (Nat.le_of_ble_eq_true rfl)⟩ (fun r_1 hr_ => ?_)
  rcases hr_ with ⟨rfl, h_2⟩ | ⟨rfl, h_2⟩
  · refine lv_if_eq (tgt := 37) hx hb dX11_air_6 (by decide) (fun h9 => absurd h9 (by decide)) (fun _ => ?_)
    refine lv_iload_n hx hb dX11_air_9 rfl (lv_at hl 2 rfl) ?_
    refine lv_iconst (v := 0) hx hb dX11_air_10 (by decide) ?_
    refine lv_iload_n hx hb dX11_air_11 rfl (lv_at hl 1 rfl) ?_
    refine lv_if_ne (tgt := 20) hx hb dX11_air_12 (by decide) (fun c_3 => ?_) (fun c_3 => ?_)
    · refine lv_iload_n hx hb dX11_air_20 rfl (lv_at hl 1 rfl) ?_
      refine lv_iconst (v := 1) hx hb dX11_air_21 (by decide) ?_
      refine lv_icmp_ne (tgt := 30) hx hb dX11_air_22 (by decide) (fun c_4 => ?_) (fun c_4 => ?_)
      · refine lv_iconst (v := 1) hx hb dX11_air_30 (by decide) ?_
        refine rS (rest := []) hx hb hml hown hts hE (c_X11_within l G cy sk s.heap.size av 0 1) kS_X11_within m_494 rfl rfl ⟨(Nat.le_of_ble_eq_true rfl), (Nat.le_of_ble_eq_true rfl)⟩ hP hD [] rfl rfl rfl rfl hl.1 (Nat.le_of_ble_eq_true rfl) dX11_air_31 ⟨(Nat.le_of_ble_eq_true rfl), (Nat.le_of_ble_eq_true rfl)⟩ (fun r_5 hr_ => ?_)
        rcases hr_ with ⟨rfl, h_6⟩ | ⟨rfl, h_6⟩
        · refine lv_if_ne (tgt := 43) hx hb dX11_air_34 (by decide) (fun _ => ?_) (fun h9 => absurd h9 (by decide))
          refine lv_aload_n hx hb dX11_air_43 rfl (lv_at hl 0 rfl) ?_
          refine va_get (D := G) (ci := 11) (v := .ref lv) (C := RX11) (T := TX11) (N := 9) hx hb hts inB11 hown hE.1 hP 0 rfl rfl 0 (by decide) (hts _ m_459) (fun _ h9 => h9) rfl dX11_air_44 ?_
          refine va_getN (D := G) (ci := 10) (v := .ref la) (C := RX10) (T := TX10) (N := 8) hx hb hts inB10 hown hE.1 hP 2 rfl rfl 1 (by decide) (nf_RX11_114 hE) (fun _ h9 => h9) rfl dX11_air_47 ?_
          refine lv_iload_n hx hb dX11_air_50 rfl (lv_at hl 1 rfl) ?_
          refine lv_iload_n hx hb dX11_air_51 rfl (lv_at hl 2 rfl) ?_
          refine wV (B := (fun _ => True)) (wr := [(x, .inr (11, [.ref lv, .ref kp, .ref tr_, .ref sh, .ref er, .ref re, .ref fi, .ref vo, .int 0])), (er, .inl (cy 0, 7, .inl fe)), (lv, .inr (10, [.ref st, .ref la, .ref le, .ref ta, .ref wa, .ref wk, .int 0, .int 0]))]) (rest := []) hx hb hml hown hts hE (c_X2_changeAir l G cy sk s.heap.size la ld sr tx vl aw av) kV_X2_changeAir m_585 rfl rfl ⟨(Nat.le_of_ble_eq_true rfl), (Nat.le_of_ble_eq_true rfl)⟩ hP hD hS hA 3 rfl rfl rfl [3] [0, 1, 2] rfl rfl rfl rfl (by decide) rfl rfl hl.1 (Nat.le_of_ble_eq_true rfl) dX11_air_52 ⟨(Nat.le_of_ble_eq_true rfl), (Nat.le_of_ble_eq_true rfl)⟩ (fun r_7 H locs hr_ haf hS => ?_)
          obtain ⟨-, -, hP, hD⟩ := haf
          have hP : va_P G classes [(x, .inr (11, [.ref lv, .ref kp, .ref tr_, .ref sh, .ref er, .ref re, .ref fi, .ref vo, .int 0])), (er, .inl (cy 0, 7, .inl fe)), (lv, .inr (10, [.ref st, .ref la, .ref le, .ref ta, .ref wa, .ref wk, .int 0, .int 0]))] H := hP
          have hD : va_D A [(x, .inr (11, [.ref lv, .ref kp, .ref tr_, .ref sh, .ref er, .ref re, .ref fi, .ref vo, .int 0])), (er, .inl (cy 0, 7, .inl fe)), (lv, .inr (10, [.ref st, .ref la, .ref le, .ref ta, .ref wa, .ref wk, .int 0, .int 0]))] := hD
          subst hr_
          refine W.widen (k := 0) (n := 0) (by first | exact Nat.le_of_ble_eq_true rfl | omega) (by first | exact Nat.le_of_ble_eq_true rfl | omega) ?_
          exact W.iret (v := (if aw = 0 then 5 else if aw = 1 then 9 else 0)) hx hb hr (fun t ht hW => ⟨⟨(if aw = 0 then 5 else if aw = 1 then 9 else 0), (), rfl, (lf_c_X11_air_0 aw av h_2 c_3 c_4 h_6), trivial⟩, hS.F ht⟩) hS.2.2 dX11_air_55
        · refine lv_if_ne (tgt := 43) hx hb dX11_air_34 (by decide) (fun h9 => absurd h9 (by decide)) (fun _ => ?_)
          refine lv_aload_n hx hb dX11_air_37 rfl (lv_at hl 0 rfl) ?_
          refine lv_iconst (v := 1) hx hb dX11_air_38 (by decide) ?_
          refine wV (B := (fun _ => True)) (wr := [(lv, .inr (10, [.ref st, .ref la, .ref le, .ref ta, .ref wa, .ref wk, .int 0, .int 0])), (la, .inr (2, [.int 5, .int 9, .int 0, .ref ld, .ref sr, .ref tx, .ref vl]))]) (rest := []) hx hb hml hown hts hE (c_X11_error l G cy sk s.heap.size x lv kp tr_ sh er re fi vo fe 1 (-1000001) 0 (by first | decide | (unfold inR; decide)) (by decide)) kV_X11_error m_500 rfl rfl ⟨(Nat.le_of_ble_eq_true rfl), (Nat.le_of_ble_eq_true rfl)⟩ hP hD hS hA 0 rfl rfl rfl [0, 1] [2, 3] rfl rfl rfl rfl (by decide) rfl rfl hl.1 (Nat.le_of_ble_eq_true rfl) dX11_air_39 ⟨(Nat.le_of_ble_eq_true rfl), (Nat.le_of_ble_eq_true rfl)⟩ (fun r_8 H locs hr_ haf hS => ?_)
          obtain ⟨-, -, hP, hD⟩ := haf
          have hP : va_P G classes [(lv, .inr (10, [.ref st, .ref la, .ref le, .ref ta, .ref wa, .ref wk, .int 0, .int 0])), (la, .inr (2, [.int 5, .int 9, .int 0, .ref ld, .ref sr, .ref tx, .ref vl]))] H := hP
          have hD : va_D A [(lv, .inr (10, [.ref st, .ref la, .ref le, .ref ta, .ref wa, .ref wk, .int 0, .int 0])), (la, .inr (2, [.int 5, .int 9, .int 0, .ref ld, .ref sr, .ref tx, .ref vl]))] := hD
          subst hr_
          refine W.widen (k := 0) (n := 0) (by first | exact Nat.le_of_ble_eq_true rfl | omega) (by first | exact Nat.le_of_ble_eq_true rfl | omega) ?_
          exact W.iret (v := (-1000001)) hx hb hr (fun t ht hW => ⟨⟨(-1000001), (), rfl, (lf_c_X11_air_1 aw av h_2 c_3 c_4 h_6), trivial⟩, hS.F ht⟩) hS.2.2 dX11_air_42
      · refine lv_bipush (v := 90) hx hb dX11_air_25 (by decide) ?_
        refine lv_goto (tgt := 31) hx hb dX11_air_27 (by decide) ?_
        refine rS (rest := []) hx hb hml hown hts hE (c_X11_within l G cy sk s.heap.size av 0 90) kS_X11_within m_494 rfl rfl ⟨(Nat.le_of_ble_eq_true rfl), (Nat.le_of_ble_eq_true rfl)⟩ hP hD [] rfl rfl rfl rfl hl.1 (Nat.le_of_ble_eq_true rfl) dX11_air_31 ⟨(Nat.le_of_ble_eq_true rfl), (Nat.le_of_ble_eq_true rfl)⟩ (fun r_9 hr_ => ?_)
        rcases hr_ with ⟨rfl, h_10⟩ | ⟨rfl, h_10⟩
        · refine lv_if_ne (tgt := 43) hx hb dX11_air_34 (by decide) (fun _ => ?_) (fun h9 => absurd h9 (by decide))
          refine lv_aload_n hx hb dX11_air_43 rfl (lv_at hl 0 rfl) ?_
          refine va_get (D := G) (ci := 11) (v := .ref lv) (C := RX11) (T := TX11) (N := 9) hx hb hts inB11 hown hE.1 hP 0 rfl rfl 0 (by decide) (hts _ m_459) (fun _ h9 => h9) rfl dX11_air_44 ?_
          refine va_getN (D := G) (ci := 10) (v := .ref la) (C := RX10) (T := TX10) (N := 8) hx hb hts inB10 hown hE.1 hP 2 rfl rfl 1 (by decide) (nf_RX11_114 hE) (fun _ h9 => h9) rfl dX11_air_47 ?_
          refine lv_iload_n hx hb dX11_air_50 rfl (lv_at hl 1 rfl) ?_
          refine lv_iload_n hx hb dX11_air_51 rfl (lv_at hl 2 rfl) ?_
          refine wV (B := (fun _ => True)) (wr := [(x, .inr (11, [.ref lv, .ref kp, .ref tr_, .ref sh, .ref er, .ref re, .ref fi, .ref vo, .int 0])), (er, .inl (cy 0, 7, .inl fe)), (lv, .inr (10, [.ref st, .ref la, .ref le, .ref ta, .ref wa, .ref wk, .int 0, .int 0]))]) (rest := []) hx hb hml hown hts hE (c_X2_changeAir l G cy sk s.heap.size la ld sr tx vl aw av) kV_X2_changeAir m_585 rfl rfl ⟨(Nat.le_of_ble_eq_true rfl), (Nat.le_of_ble_eq_true rfl)⟩ hP hD hS hA 3 rfl rfl rfl [3] [0, 1, 2] rfl rfl rfl rfl (by decide) rfl rfl hl.1 (Nat.le_of_ble_eq_true rfl) dX11_air_52 ⟨(Nat.le_of_ble_eq_true rfl), (Nat.le_of_ble_eq_true rfl)⟩ (fun r_11 H locs hr_ haf hS => ?_)
          obtain ⟨-, -, hP, hD⟩ := haf
          have hP : va_P G classes [(x, .inr (11, [.ref lv, .ref kp, .ref tr_, .ref sh, .ref er, .ref re, .ref fi, .ref vo, .int 0])), (er, .inl (cy 0, 7, .inl fe)), (lv, .inr (10, [.ref st, .ref la, .ref le, .ref ta, .ref wa, .ref wk, .int 0, .int 0]))] H := hP
          have hD : va_D A [(x, .inr (11, [.ref lv, .ref kp, .ref tr_, .ref sh, .ref er, .ref re, .ref fi, .ref vo, .int 0])), (er, .inl (cy 0, 7, .inl fe)), (lv, .inr (10, [.ref st, .ref la, .ref le, .ref ta, .ref wa, .ref wk, .int 0, .int 0]))] := hD
          subst hr_
          refine W.widen (k := 0) (n := 0) (by first | exact Nat.le_of_ble_eq_true rfl | omega) (by first | exact Nat.le_of_ble_eq_true rfl | omega) ?_
          exact W.iret (v := (if aw = 0 then 5 else if aw = 1 then 9 else 0)) hx hb hr (fun t ht hW => ⟨⟨(if aw = 0 then 5 else if aw = 1 then 9 else 0), (), rfl, (lf_c_X11_air_2 aw av h_2 c_3 c_4 h_10), trivial⟩, hS.F ht⟩) hS.2.2 dX11_air_55
        · refine lv_if_ne (tgt := 43) hx hb dX11_air_34 (by decide) (fun h9 => absurd h9 (by decide)) (fun _ => ?_)
          refine lv_aload_n hx hb dX11_air_37 rfl (lv_at hl 0 rfl) ?_
          refine lv_iconst (v := 1) hx hb dX11_air_38 (by decide) ?_
          refine wV (B := (fun _ => True)) (wr := [(lv, .inr (10, [.ref st, .ref la, .ref le, .ref ta, .ref wa, .ref wk, .int 0, .int 0])), (la, .inr (2, [.int 5, .int 9, .int 0, .ref ld, .ref sr, .ref tx, .ref vl]))]) (rest := []) hx hb hml hown hts hE (c_X11_error l G cy sk s.heap.size x lv kp tr_ sh er re fi vo fe 1 (-1000001) 0 (by first | decide | (unfold inR; decide)) (by decide)) kV_X11_error m_500 rfl rfl ⟨(Nat.le_of_ble_eq_true rfl), (Nat.le_of_ble_eq_true rfl)⟩ hP hD hS hA 0 rfl rfl rfl [0, 1] [2, 3] rfl rfl rfl rfl (by decide) rfl rfl hl.1 (Nat.le_of_ble_eq_true rfl) dX11_air_39 ⟨(Nat.le_of_ble_eq_true rfl), (Nat.le_of_ble_eq_true rfl)⟩ (fun r_12 H locs hr_ haf hS => ?_)
          obtain ⟨-, -, hP, hD⟩ := haf
          have hP : va_P G classes [(lv, .inr (10, [.ref st, .ref la, .ref le, .ref ta, .ref wa, .ref wk, .int 0, .int 0])), (la, .inr (2, [.int 5, .int 9, .int 0, .ref ld, .ref sr, .ref tx, .ref vl]))] H := hP
          have hD : va_D A [(lv, .inr (10, [.ref st, .ref la, .ref le, .ref ta, .ref wa, .ref wk, .int 0, .int 0])), (la, .inr (2, [.int 5, .int 9, .int 0, .ref ld, .ref sr, .ref tx, .ref vl]))] := hD
          subst hr_
          refine W.widen (k := 0) (n := 0) (by first | exact Nat.le_of_ble_eq_true rfl | omega) (by first | exact Nat.le_of_ble_eq_true rfl | omega) ?_
          exact W.iret (v := (-1000001)) hx hb hr (fun t ht hW => ⟨⟨(-1000001), (), rfl, (lf_c_X11_air_3 aw av h_2 c_3 c_4 h_10), trivial⟩, hS.F ht⟩) hS.2.2 dX11_air_42
    · refine lv_bipush (v := 99) hx hb dX11_air_15 (by decide) ?_
      refine lv_goto (tgt := 31) hx hb dX11_air_17 (by decide) ?_
      refine rS (rest := []) hx hb hml hown hts hE (c_X11_within l G cy sk s.heap.size av 0 99) kS_X11_within m_494 rfl rfl ⟨(Nat.le_of_ble_eq_true rfl), (Nat.le_of_ble_eq_true rfl)⟩ hP hD [] rfl rfl rfl rfl hl.1 (Nat.le_of_ble_eq_true rfl) dX11_air_31 ⟨(Nat.le_of_ble_eq_true rfl), (Nat.le_of_ble_eq_true rfl)⟩ (fun r_13 hr_ => ?_)
      rcases hr_ with ⟨rfl, h_14⟩ | ⟨rfl, h_14⟩
      · refine lv_if_ne (tgt := 43) hx hb dX11_air_34 (by decide) (fun _ => ?_) (fun h9 => absurd h9 (by decide))
        refine lv_aload_n hx hb dX11_air_43 rfl (lv_at hl 0 rfl) ?_
        refine va_get (D := G) (ci := 11) (v := .ref lv) (C := RX11) (T := TX11) (N := 9) hx hb hts inB11 hown hE.1 hP 0 rfl rfl 0 (by decide) (hts _ m_459) (fun _ h9 => h9) rfl dX11_air_44 ?_
        refine va_getN (D := G) (ci := 10) (v := .ref la) (C := RX10) (T := TX10) (N := 8) hx hb hts inB10 hown hE.1 hP 2 rfl rfl 1 (by decide) (nf_RX11_114 hE) (fun _ h9 => h9) rfl dX11_air_47 ?_
        refine lv_iload_n hx hb dX11_air_50 rfl (lv_at hl 1 rfl) ?_
        refine lv_iload_n hx hb dX11_air_51 rfl (lv_at hl 2 rfl) ?_
        refine wV (B := (fun _ => True)) (wr := [(x, .inr (11, [.ref lv, .ref kp, .ref tr_, .ref sh, .ref er, .ref re, .ref fi, .ref vo, .int 0])), (er, .inl (cy 0, 7, .inl fe)), (lv, .inr (10, [.ref st, .ref la, .ref le, .ref ta, .ref wa, .ref wk, .int 0, .int 0]))]) (rest := []) hx hb hml hown hts hE (c_X2_changeAir l G cy sk s.heap.size la ld sr tx vl aw av) kV_X2_changeAir m_585 rfl rfl ⟨(Nat.le_of_ble_eq_true rfl), (Nat.le_of_ble_eq_true rfl)⟩ hP hD hS hA 3 rfl rfl rfl [3] [0, 1, 2] rfl rfl rfl rfl (by decide) rfl rfl hl.1 (Nat.le_of_ble_eq_true rfl) dX11_air_52 ⟨(Nat.le_of_ble_eq_true rfl), (Nat.le_of_ble_eq_true rfl)⟩ (fun r_15 H locs hr_ haf hS => ?_)
        obtain ⟨-, -, hP, hD⟩ := haf
        have hP : va_P G classes [(x, .inr (11, [.ref lv, .ref kp, .ref tr_, .ref sh, .ref er, .ref re, .ref fi, .ref vo, .int 0])), (er, .inl (cy 0, 7, .inl fe)), (lv, .inr (10, [.ref st, .ref la, .ref le, .ref ta, .ref wa, .ref wk, .int 0, .int 0]))] H := hP
        have hD : va_D A [(x, .inr (11, [.ref lv, .ref kp, .ref tr_, .ref sh, .ref er, .ref re, .ref fi, .ref vo, .int 0])), (er, .inl (cy 0, 7, .inl fe)), (lv, .inr (10, [.ref st, .ref la, .ref le, .ref ta, .ref wa, .ref wk, .int 0, .int 0]))] := hD
        subst hr_
        refine W.widen (k := 0) (n := 0) (by first | exact Nat.le_of_ble_eq_true rfl | omega) (by first | exact Nat.le_of_ble_eq_true rfl | omega) ?_
        exact W.iret (v := (if aw = 0 then 5 else if aw = 1 then 9 else 0)) hx hb hr (fun t ht hW => ⟨⟨(if aw = 0 then 5 else if aw = 1 then 9 else 0), (), rfl, (lf_c_X11_air_4 aw av h_2 c_3 h_14), trivial⟩, hS.F ht⟩) hS.2.2 dX11_air_55
      · refine lv_if_ne (tgt := 43) hx hb dX11_air_34 (by decide) (fun h9 => absurd h9 (by decide)) (fun _ => ?_)
        refine lv_aload_n hx hb dX11_air_37 rfl (lv_at hl 0 rfl) ?_
        refine lv_iconst (v := 1) hx hb dX11_air_38 (by decide) ?_
        refine wV (B := (fun _ => True)) (wr := [(lv, .inr (10, [.ref st, .ref la, .ref le, .ref ta, .ref wa, .ref wk, .int 0, .int 0])), (la, .inr (2, [.int 5, .int 9, .int 0, .ref ld, .ref sr, .ref tx, .ref vl]))]) (rest := []) hx hb hml hown hts hE (c_X11_error l G cy sk s.heap.size x lv kp tr_ sh er re fi vo fe 1 (-1000001) 0 (by first | decide | (unfold inR; decide)) (by decide)) kV_X11_error m_500 rfl rfl ⟨(Nat.le_of_ble_eq_true rfl), (Nat.le_of_ble_eq_true rfl)⟩ hP hD hS hA 0 rfl rfl rfl [0, 1] [2, 3] rfl rfl rfl rfl (by decide) rfl rfl hl.1 (Nat.le_of_ble_eq_true rfl) dX11_air_39 ⟨(Nat.le_of_ble_eq_true rfl), (Nat.le_of_ble_eq_true rfl)⟩ (fun r_16 H locs hr_ haf hS => ?_)
        obtain ⟨-, -, hP, hD⟩ := haf
        have hP : va_P G classes [(lv, .inr (10, [.ref st, .ref la, .ref le, .ref ta, .ref wa, .ref wk, .int 0, .int 0])), (la, .inr (2, [.int 5, .int 9, .int 0, .ref ld, .ref sr, .ref tx, .ref vl]))] H := hP
        have hD : va_D A [(lv, .inr (10, [.ref st, .ref la, .ref le, .ref ta, .ref wa, .ref wk, .int 0, .int 0])), (la, .inr (2, [.int 5, .int 9, .int 0, .ref ld, .ref sr, .ref tx, .ref vl]))] := hD
        subst hr_
        refine W.widen (k := 0) (n := 0) (by first | exact Nat.le_of_ble_eq_true rfl | omega) (by first | exact Nat.le_of_ble_eq_true rfl | omega) ?_
        exact W.iret (v := (-1000001)) hx hb hr (fun t ht hW => ⟨⟨(-1000001), (), rfl, (lf_c_X11_air_5 aw av h_2 c_3 h_14), trivial⟩, hS.F ht⟩) hS.2.2 dX11_air_42
  · refine lv_if_eq (tgt := 37) hx hb dX11_air_6 (by decide) (fun _ => ?_) (fun h9 => absurd h9 (by decide))
    refine lv_aload_n hx hb dX11_air_37 rfl (lv_at hl 0 rfl) ?_
    refine lv_iconst (v := 1) hx hb dX11_air_38 (by decide) ?_
    refine wV (B := (fun _ => True)) (wr := [(lv, .inr (10, [.ref st, .ref la, .ref le, .ref ta, .ref wa, .ref wk, .int 0, .int 0])), (la, .inr (2, [.int 5, .int 9, .int 0, .ref ld, .ref sr, .ref tx, .ref vl]))]) (rest := []) hx hb hml hown hts hE (c_X11_error l G cy sk s.heap.size x lv kp tr_ sh er re fi vo fe 1 (-1000001) 0 (by first | decide | (unfold inR; decide)) (by decide)) kV_X11_error m_500 rfl rfl ⟨(Nat.le_of_ble_eq_true rfl), (Nat.le_of_ble_eq_true rfl)⟩ hP hD hS hA 0 rfl rfl rfl [0, 1] [2, 3] rfl rfl rfl rfl (by decide) rfl rfl hl.1 (Nat.le_of_ble_eq_true rfl) dX11_air_39 ⟨(Nat.le_of_ble_eq_true rfl), (Nat.le_of_ble_eq_true rfl)⟩ (fun r_17 H locs hr_ haf hS => ?_)
    obtain ⟨-, -, hP, hD⟩ := haf
    have hP : va_P G classes [(lv, .inr (10, [.ref st, .ref la, .ref le, .ref ta, .ref wa, .ref wk, .int 0, .int 0])), (la, .inr (2, [.int 5, .int 9, .int 0, .ref ld, .ref sr, .ref tx, .ref vl]))] H := hP
    have hD : va_D A [(lv, .inr (10, [.ref st, .ref la, .ref le, .ref ta, .ref wa, .ref wk, .int 0, .int 0])), (la, .inr (2, [.int 5, .int 9, .int 0, .ref ld, .ref sr, .ref tx, .ref vl]))] := hD
    subst hr_
    refine W.widen (k := 0) (n := 0) (by first | exact Nat.le_of_ble_eq_true rfl | omega) (by first | exact Nat.le_of_ble_eq_true rfl | omega) ?_
    exact W.iret (v := (-1000001)) hx hb hr (fun t ht hW => ⟨⟨(-1000001), (), rfl, (lf_c_X11_air_6 aw av h_2), trivial⟩, hS.F ht⟩) hS.2.2 dX11_air_42
theorem lf_c_X11_walker_0 (foc : Nat → Int32) (gw : Nat → Option Nat) (w0 : Nat) (ak : Int32) (ac : Int32) (ad : Int32) (hoc : ∀ j, j < 192 → foc j = (-1)) (hw : gw 0 = some w0) (h_2 : inR ak 0 7) (h_4 : inR ac 0 191) (h_6 : inR ad 0 7) : (0 : Int32) = (F_walker ak ac ad) := by first | (simp only [F_walker, *, and_true, true_and, and_false, false_and, if_true, if_false]; done) | (simp [F_walker, *]; done) | (unfold F_walker; simp_all; done)
theorem lf_c_X11_walker_1 (foc : Nat → Int32) (gw : Nat → Option Nat) (w0 : Nat) (ak : Int32) (ac : Int32) (ad : Int32) (hoc : ∀ j, j < 192 → foc j = (-1)) (hw : gw 0 = some w0) (h_2 : inR ak 0 7) (h_4 : inR ac 0 191) (h_6 : ¬ inR ad 0 7) : ((-1000001) : Int32) = (F_walker ak ac ad) := by first | (simp only [F_walker, *, and_true, true_and, and_false, false_and, if_true, if_false]; done) | (simp [F_walker, *]; done) | (unfold F_walker; simp_all; done)
theorem lf_c_X11_walker_2 (foc : Nat → Int32) (gw : Nat → Option Nat) (w0 : Nat) (ak : Int32) (ac : Int32) (ad : Int32) (hoc : ∀ j, j < 192 → foc j = (-1)) (hw : gw 0 = some w0) (h_2 : inR ak 0 7) (h_4 : ¬ inR ac 0 191) : ((-1000001) : Int32) = (F_walker ak ac ad) := by first | (simp only [F_walker, *, and_true, true_and, and_false, false_and, if_true, if_false]; done) | (simp [F_walker, *]; done) | (unfold F_walker; simp_all; done)
theorem lf_c_X11_walker_3 (foc : Nat → Int32) (gw : Nat → Option Nat) (w0 : Nat) (ak : Int32) (ac : Int32) (ad : Int32) (hoc : ∀ j, j < 192 → foc j = (-1)) (hw : gw 0 = some w0) (h_2 : ¬ inR ak 0 7) : ((-1000001) : Int32) = (F_walker ak ac ad) := by first | (simp only [F_walker, *, and_true, true_and, and_false, false_and, if_true, if_false]; done) | (simp [F_walker, *]; done) | (unfold F_walker; simp_all; done)
set_option maxHeartbeats 4000000 in
set_option maxRecDepth 100000 in
theorem c_X11_walker (l : Launch) (G : va_G) (cy : Nat → ClassId) (sk : Nat → Nat) (sz : Nat) (x : Nat) (lv : Nat) (kp : Nat) (tr_ : Nat) (sh : Nat) (er : Nat) (re : Nat) (fi : Nat) (vo : Nat) (fe : Nat → Int32) (lv : Nat) (st : Nat) (la : Nat) (le : Nat) (ta : Nat) (wa : Nat) (wk : Nat) (oc : Nat) (ki : Nat) (ce : Nat) (si : Nat) (sp : Nat) (foc : Nat → Int32) (gw : Nat → Option Nat) (w0 : Nat) (wy : Nat) (wn : Nat) (fwy : Nat → Int32) (fwn : Nat → Int32) (ak : Int32) (ac : Int32) (ad : Int32) (hoc : ∀ j, j < 192 → foc j = (-1)) (hw : gw 0 = some w0) : Met l yX11_walker (wsO yX11_walker cX11_walker 4 (some .int)) ({ frames := 3, cells := 0, slots := 0, locals := 66 }) (va_Pc [.ref x, .int ak, .int ac, .int ad] (PR G cy sk sz [(x, .inr (11, [.ref lv, .ref kp, .ref tr_, .ref sh, .ref er, .ref re, .ref fi, .ref vo, .int 0])), (er, .inl (cy 0, 7, .inl fe)), (lv, .inr (10, [.ref st, .ref la, .ref le, .ref ta, .ref wa, .ref wk, .int 0, .int 0])), (st, .inr (7, [.ref oc, .ref ki, .ref ce, .ref si, .ref sp, .int 0])), (oc, .inl (cy 0, 192, .inl foc)), (wk, .inl (cy 4, 8, .inr (.inr (.inr (.inr gw))))), (w0, .inr (9, [.int 0, .int 0, .int 0, .int 5, .int 60, .int 0, .int 0, .int 0, .int 0, .ref wy, .ref wn])), (wy, .inl (cy 0, 192, .inl fwy)), (wn, .inl (cy 0, 192, .inl fwn))])) (va_Qi (fun r (_ : Unit) => r = (F_walker ak ac ad)) (fun _ _ => True) (va_A [(x, .inr (11, [.ref lv, .ref kp, .ref tr_, .ref sh, .ref er, .ref re, .ref fi, .ref vo, .int 0])), (er, .inl (cy 0, 7, .inl fe)), (lv, .inr (10, [.ref st, .ref la, .ref le, .ref ta, .ref wa, .ref wk, .int 0, .int 0])), (st, .inr (7, [.ref oc, .ref ki, .ref ce, .ref si, .ref sp, .int 0])), (oc, .inl (cy 0, 192, .inl foc)), (wk, .inl (cy 4, 8, .inr (.inr (.inr (.inr gw))))), (w0, .inr (9, [.int 0, .int 0, .int 0, .int 5, .int 60, .int 0, .int 0, .int 0, .int 0, .ref wy, .ref wn])), (wy, .inl (cy 0, 192, .inl fwy)), (wn, .inl (cy 0, 192, .inl fwn))] sz)) 0 0 (va_A [(x, .inr (11, [.ref lv, .ref kp, .ref tr_, .ref sh, .ref er, .ref re, .ref fi, .ref vo, .int 0])), (er, .inl (cy 0, 7, .inl fe)), (lv, .inr (10, [.ref st, .ref la, .ref le, .ref ta, .ref wa, .ref wk, .int 0, .int 0])), (st, .inr (7, [.ref oc, .ref ki, .ref ce, .ref si, .ref sp, .int 0])), (oc, .inl (cy 0, 192, .inl foc)), (wk, .inl (cy 4, 8, .inr (.inr (.inr (.inr gw))))), (w0, .inr (9, [.int 0, .int 0, .int 0, .int 5, .int 60, .int 0, .int 0, .int 0, .int 0, .ref wy, .ref wn])), (wy, .inl (cy 0, 192, .inl fwy)), (wn, .inl (cy 0, 192, .inl fwn))] sz) := by
  refine mt (by decide) (Nat.le_of_ble_eq_true rfl) ?_
  intro p e s m below meth c ls hx hb hr hml hts hown hlocks hin hsz hP hE hD hl
  subst hsz
  have hl : lv_has ls 4 [(0, .ref x), (1, .int ak), (2, .int ac), (3, .int ad)] := hl
  have hD := hD.self (sz := s.heap.size)
  generalize hAe : va_A [(x, .inr (11, [.ref lv, .ref kp, .ref tr_, .ref sh, .ref er, .ref re, .ref fi, .ref vo, .int 0])), (er, .inl (cy 0, 7, .inl fe)), (lv, .inr (10, [.ref st, .ref la, .ref le, .ref ta, .ref wa, .ref wk, .int 0, .int 0])), (st, .inr (7, [.ref oc, .ref ki, .ref ce, .ref si, .ref sp, .int 0])), (oc, .inl (cy 0, 192, .inl foc)), (wk, .inl (cy 4, 8, .inr (.inr (.inr (.inr gw))))), (w0, .inr (9, [.int 0, .int 0, .int 0, .int 5, .int 60, .int 0, .int 0, .int 0, .int 0, .ref wy, .ref wn])), (wy, .inl (cy 0, 192, .inl fwy)), (wn, .inl (cy 0, 192, .inl fwn))] s.heap.size = A at hD ⊢
  have hA : ∀ q : Nat, s.heap.size ≤ q → A q := fun q h => by rw [← hAe]; exact Or.inr h
  have hS : va_S A s.heap s.heap [] := va_S.rf
  refine lv_iload_n hx hb dX11_walker_0 rfl (lv_at hl 1 rfl) ?_
  refine rS (rest := []) hx hb hml hown hts hE (c_X11_isWalkerKind l G cy sk s.heap.size ak) kS_X11_isWalkerKind m_593 rfl rfl ⟨(Nat.le_of_ble_eq_true rfl), (Nat.le_of_ble_eq_true rfl)⟩ hP hD [] rfl rfl rfl rfl hl.1 (Nat.le_of_ble_eq_true rfl) dX11_walker_1 ⟨(Nat.le_of_ble_eq_true rfl), (Nat.le_of_ble_eq_true rfl)⟩ (fun r_1 hr_ => ?_)
  rcases hr_ with ⟨rfl, h_2⟩ | ⟨rfl, h_2⟩
  · refine lv_if_eq (tgt := 21) hx hb dX11_walker_4 (by decide) (fun h9 => absurd h9 (by decide)) (fun _ => ?_)
    refine lv_iload_n hx hb dX11_walker_7 rfl (lv_at hl 2 rfl) ?_
    refine rS (rest := []) hx hb hml hown hts hE (c_X7_isCell l G cy sk s.heap.size ac) kS_X7_isCell m_497 rfl rfl ⟨(Nat.le_of_ble_eq_true rfl), (Nat.le_of_ble_eq_true rfl)⟩ hP hD [] rfl rfl rfl rfl hl.1 (Nat.le_of_ble_eq_true rfl) dX11_walker_8 ⟨(Nat.le_of_ble_eq_true rfl), (Nat.le_of_ble_eq_true rfl)⟩ (fun r_3 hr_ => ?_)
    rcases hr_ with ⟨rfl, h_4⟩ | ⟨rfl, h_4⟩
    · refine lv_if_eq (tgt := 21) hx hb dX11_walker_11 (by decide) (fun h9 => absurd h9 (by decide)) (fun _ => ?_)
      refine lv_iload_n hx hb dX11_walker_14 rfl (lv_at hl 3 rfl) ?_
      refine rS (rest := []) hx hb hml hown hts hE (c_X7_isSide l G cy sk s.heap.size ad) kS_X7_isSide m_539 rfl rfl ⟨(Nat.le_of_ble_eq_true rfl), (Nat.le_of_ble_eq_true rfl)⟩ hP hD [] rfl rfl rfl rfl hl.1 (Nat.le_of_ble_eq_true rfl) dX11_walker_15 ⟨(Nat.le_of_ble_eq_true rfl), (Nat.le_of_ble_eq_true rfl)⟩ (fun r_5 hr_ => ?_)
      rcases hr_ with ⟨rfl, h_6⟩ | ⟨rfl, h_6⟩
      · refine lv_if_ne (tgt := 27) hx hb dX11_walker_18 (by decide) (fun _ => ?_) (fun h9 => absurd h9 (by decide))
        refine lv_aload_n hx hb dX11_walker_27 rfl (lv_at hl 0 rfl) ?_
        refine va_get (D := G) (ci := 11) (v := .ref lv) (C := RX11) (T := TX11) (N := 9) hx hb hts inB11 hown hE.1 hP 0 rfl rfl 0 (by decide) (hts _ m_459) (fun _ h9 => h9) rfl dX11_walker_28 ?_
        refine va_getN (D := G) (ci := 10) (v := .ref st) (C := RX10) (T := TX10) (N := 8) hx hb hts inB10 hown hE.1 hP 2 rfl rfl 0 (by decide) (nf_RX11_71 hE) (fun _ h9 => h9) rfl dX11_walker_31 ?_
        refine lv_iload_n hx hb dX11_walker_34 rfl (lv_at hl 2 rfl) ?_
        refine rV (rest := []) hx hb hml hown hts hE (c_X7_isFree l G cy sk s.heap.size st oc ki ce si sp foc ac hoc h_4) kV_X7_isFree m_505 rfl rfl ⟨(Nat.le_of_ble_eq_true rfl), (Nat.le_of_ble_eq_true rfl)⟩ hP hD 3 rfl rfl rfl [3, 4] rfl rfl rfl rfl hl.1 (Nat.le_of_ble_eq_true rfl) dX11_walker_35 ⟨(Nat.le_of_ble_eq_true rfl), (Nat.le_of_ble_eq_true rfl)⟩ (fun r_7 hr_ => ?_)
        subst hr_
        refine lv_if_ne (tgt := 47) hx hb dX11_walker_38 (by decide) (fun _ => ?_) (fun h9 => absurd h9 (by decide))
        refine lv_aload_n hx hb dX11_walker_47 rfl (lv_at hl 0 rfl) ?_
        refine va_get (D := G) (ci := 11) (v := .ref lv) (C := RX11) (T := TX11) (N := 9) hx hb hts inB11 hown hE.1 hP 0 rfl rfl 0 (by decide) (hts _ m_459) (fun _ h9 => h9) rfl dX11_walker_48 ?_
        refine va_getN (D := G) (ci := 10) (v := .int 0) (C := RX10) (T := TX10) (N := 8) hx hb hts inB10 hown hE.1 hP 2 rfl rfl 6 (by decide) (nf_RX11_148 hE) (fun _ h9 => h9) rfl dX11_walker_51 ?_
        refine lv_bipush (v := 8) hx hb dX11_walker_54 (by decide) ?_
        refine lv_icmp_lt (tgt := 65) hx hb dX11_walker_56 (by decide) (fun _ => ?_) (fun h9 => absurd h9 (by decide))
        refine lv_aload_n hx hb dX11_walker_65 rfl (lv_at hl 0 rfl) ?_
        refine va_get (D := G) (ci := 11) (v := .ref lv) (C := RX11) (T := TX11) (N := 9) hx hb hts inB11 hown hE.1 hP 0 rfl rfl 0 (by decide) (hts _ m_459) (fun _ h9 => h9) rfl dX11_walker_66 ?_
        refine lv_iload_n hx hb dX11_walker_69 rfl (lv_at hl 1 rfl) ?_
        refine lv_iload_n hx hb dX11_walker_70 rfl (lv_at hl 2 rfl) ?_
        refine lv_iload_n hx hb dX11_walker_71 rfl (lv_at hl 3 rfl) ?_
        refine wV (B := (fun _ => True)) (wr := [(x, .inr (11, [.ref lv, .ref kp, .ref tr_, .ref sh, .ref er, .ref re, .ref fi, .ref vo, .int 0])), (er, .inl (cy 0, 7, .inl fe))]) (rest := []) hx hb hml hown hts hE (c_X10_addWalker l G cy sk s.heap.size lv st la le ta wa wk oc ki ce si sp foc gw w0 wy wn fwy fwn ak ac ad hw) kV_X10_addWalker m_596 rfl rfl ⟨(Nat.le_of_ble_eq_true rfl), (Nat.le_of_ble_eq_true rfl)⟩ hP hD hS hA 2 rfl rfl rfl [2, 3, 4, 5, 6, 7, 8] [0, 1] rfl rfl rfl rfl (by decide) rfl rfl hl.1 (Nat.le_of_ble_eq_true rfl) dX11_walker_72 ⟨(Nat.le_of_ble_eq_true rfl), (Nat.le_of_ble_eq_true rfl)⟩ (fun r_8 H locs hr_ haf hS => ?_)
        obtain ⟨-, -, hP, hD⟩ := haf
        have hP : va_P G classes [(x, .inr (11, [.ref lv, .ref kp, .ref tr_, .ref sh, .ref er, .ref re, .ref fi, .ref vo, .int 0])), (er, .inl (cy 0, 7, .inl fe))] H := hP
        have hD : va_D A [(x, .inr (11, [.ref lv, .ref kp, .ref tr_, .ref sh, .ref er, .ref re, .ref fi, .ref vo, .int 0])), (er, .inl (cy 0, 7, .inl fe))] := hD
        subst hr_
        refine W.widen (k := 0) (n := 0) (by first | exact Nat.le_of_ble_eq_true rfl | omega) (by first | exact Nat.le_of_ble_eq_true rfl | omega) ?_
        exact W.iret (v := 0) hx hb hr (fun t ht hW => ⟨⟨0, (), rfl, (lf_c_X11_walker_0 foc gw w0 ak ac ad hoc hw h_2 h_4 h_6), trivial⟩, hS.F ht⟩) hS.2.2 dX11_walker_75
      · refine lv_if_ne (tgt := 27) hx hb dX11_walker_18 (by decide) (fun h9 => absurd h9 (by decide)) (fun _ => ?_)
        refine lv_aload_n hx hb dX11_walker_21 rfl (lv_at hl 0 rfl) ?_
        refine lv_iconst (v := 1) hx hb dX11_walker_22 (by decide) ?_
        refine wV (B := (fun _ => True)) (wr := [(lv, .inr (10, [.ref st, .ref la, .ref le, .ref ta, .ref wa, .ref wk, .int 0, .int 0])), (st, .inr (7, [.ref oc, .ref ki, .ref ce, .ref si, .ref sp, .int 0])), (oc, .inl (cy 0, 192, .inl foc)), (wk, .inl (cy 4, 8, .inr (.inr (.inr (.inr gw))))), (w0, .inr (9, [.int 0, .int 0, .int 0, .int 5, .int 60, .int 0, .int 0, .int 0, .int 0, .ref wy, .ref wn])), (wy, .inl (cy 0, 192, .inl fwy)), (wn, .inl (cy 0, 192, .inl fwn))]) (rest := []) hx hb hml hown hts hE (c_X11_error l G cy sk s.heap.size x lv kp tr_ sh er re fi vo fe 1 (-1000001) 0 (by first | decide | (unfold inR; decide)) (by decide)) kV_X11_error m_500 rfl rfl ⟨(Nat.le_of_ble_eq_true rfl), (Nat.le_of_ble_eq_true rfl)⟩ hP hD hS hA 0 rfl rfl rfl [0, 1] [2, 3, 4, 5, 6, 7, 8] rfl rfl rfl rfl (by decide) rfl rfl hl.1 (Nat.le_of_ble_eq_true rfl) dX11_walker_23 ⟨(Nat.le_of_ble_eq_true rfl), (Nat.le_of_ble_eq_true rfl)⟩ (fun r_9 H locs hr_ haf hS => ?_)
        obtain ⟨-, -, hP, hD⟩ := haf
        have hP : va_P G classes [(lv, .inr (10, [.ref st, .ref la, .ref le, .ref ta, .ref wa, .ref wk, .int 0, .int 0])), (st, .inr (7, [.ref oc, .ref ki, .ref ce, .ref si, .ref sp, .int 0])), (oc, .inl (cy 0, 192, .inl foc)), (wk, .inl (cy 4, 8, .inr (.inr (.inr (.inr gw))))), (w0, .inr (9, [.int 0, .int 0, .int 0, .int 5, .int 60, .int 0, .int 0, .int 0, .int 0, .ref wy, .ref wn])), (wy, .inl (cy 0, 192, .inl fwy)), (wn, .inl (cy 0, 192, .inl fwn))] H := hP
        have hD : va_D A [(lv, .inr (10, [.ref st, .ref la, .ref le, .ref ta, .ref wa, .ref wk, .int 0, .int 0])), (st, .inr (7, [.ref oc, .ref ki, .ref ce, .ref si, .ref sp, .int 0])), (oc, .inl (cy 0, 192, .inl foc)), (wk, .inl (cy 4, 8, .inr (.inr (.inr (.inr gw))))), (w0, .inr (9, [.int 0, .int 0, .int 0, .int 5, .int 60, .int 0, .int 0, .int 0, .int 0, .ref wy, .ref wn])), (wy, .inl (cy 0, 192, .inl fwy)), (wn, .inl (cy 0, 192, .inl fwn))] := hD
        subst hr_
        refine W.widen (k := 0) (n := 0) (by first | exact Nat.le_of_ble_eq_true rfl | omega) (by first | exact Nat.le_of_ble_eq_true rfl | omega) ?_
        exact W.iret (v := (-1000001)) hx hb hr (fun t ht hW => ⟨⟨(-1000001), (), rfl, (lf_c_X11_walker_1 foc gw w0 ak ac ad hoc hw h_2 h_4 h_6), trivial⟩, hS.F ht⟩) hS.2.2 dX11_walker_26
    · refine lv_if_eq (tgt := 21) hx hb dX11_walker_11 (by decide) (fun _ => ?_) (fun h9 => absurd h9 (by decide))
      refine lv_aload_n hx hb dX11_walker_21 rfl (lv_at hl 0 rfl) ?_
      refine lv_iconst (v := 1) hx hb dX11_walker_22 (by decide) ?_
      refine wV (B := (fun _ => True)) (wr := [(lv, .inr (10, [.ref st, .ref la, .ref le, .ref ta, .ref wa, .ref wk, .int 0, .int 0])), (st, .inr (7, [.ref oc, .ref ki, .ref ce, .ref si, .ref sp, .int 0])), (oc, .inl (cy 0, 192, .inl foc)), (wk, .inl (cy 4, 8, .inr (.inr (.inr (.inr gw))))), (w0, .inr (9, [.int 0, .int 0, .int 0, .int 5, .int 60, .int 0, .int 0, .int 0, .int 0, .ref wy, .ref wn])), (wy, .inl (cy 0, 192, .inl fwy)), (wn, .inl (cy 0, 192, .inl fwn))]) (rest := []) hx hb hml hown hts hE (c_X11_error l G cy sk s.heap.size x lv kp tr_ sh er re fi vo fe 1 (-1000001) 0 (by first | decide | (unfold inR; decide)) (by decide)) kV_X11_error m_500 rfl rfl ⟨(Nat.le_of_ble_eq_true rfl), (Nat.le_of_ble_eq_true rfl)⟩ hP hD hS hA 0 rfl rfl rfl [0, 1] [2, 3, 4, 5, 6, 7, 8] rfl rfl rfl rfl (by decide) rfl rfl hl.1 (Nat.le_of_ble_eq_true rfl) dX11_walker_23 ⟨(Nat.le_of_ble_eq_true rfl), (Nat.le_of_ble_eq_true rfl)⟩ (fun r_10 H locs hr_ haf hS => ?_)
      obtain ⟨-, -, hP, hD⟩ := haf
      have hP : va_P G classes [(lv, .inr (10, [.ref st, .ref la, .ref le, .ref ta, .ref wa, .ref wk, .int 0, .int 0])), (st, .inr (7, [.ref oc, .ref ki, .ref ce, .ref si, .ref sp, .int 0])), (oc, .inl (cy 0, 192, .inl foc)), (wk, .inl (cy 4, 8, .inr (.inr (.inr (.inr gw))))), (w0, .inr (9, [.int 0, .int 0, .int 0, .int 5, .int 60, .int 0, .int 0, .int 0, .int 0, .ref wy, .ref wn])), (wy, .inl (cy 0, 192, .inl fwy)), (wn, .inl (cy 0, 192, .inl fwn))] H := hP
      have hD : va_D A [(lv, .inr (10, [.ref st, .ref la, .ref le, .ref ta, .ref wa, .ref wk, .int 0, .int 0])), (st, .inr (7, [.ref oc, .ref ki, .ref ce, .ref si, .ref sp, .int 0])), (oc, .inl (cy 0, 192, .inl foc)), (wk, .inl (cy 4, 8, .inr (.inr (.inr (.inr gw))))), (w0, .inr (9, [.int 0, .int 0, .int 0, .int 5, .int 60, .int 0, .int 0, .int 0, .int 0, .ref wy, .ref wn])), (wy, .inl (cy 0, 192, .inl fwy)), (wn, .inl (cy 0, 192, .inl fwn))] := hD
      subst hr_
      refine W.widen (k := 0) (n := 0) (by first | exact Nat.le_of_ble_eq_true rfl | omega) (by first | exact Nat.le_of_ble_eq_true rfl | omega) ?_
      exact W.iret (v := (-1000001)) hx hb hr (fun t ht hW => ⟨⟨(-1000001), (), rfl, (lf_c_X11_walker_2 foc gw w0 ak ac ad hoc hw h_2 h_4), trivial⟩, hS.F ht⟩) hS.2.2 dX11_walker_26
  · refine lv_if_eq (tgt := 21) hx hb dX11_walker_4 (by decide) (fun _ => ?_) (fun h9 => absurd h9 (by decide))
    refine lv_aload_n hx hb dX11_walker_21 rfl (lv_at hl 0 rfl) ?_
    refine lv_iconst (v := 1) hx hb dX11_walker_22 (by decide) ?_
    refine wV (B := (fun _ => True)) (wr := [(lv, .inr (10, [.ref st, .ref la, .ref le, .ref ta, .ref wa, .ref wk, .int 0, .int 0])), (st, .inr (7, [.ref oc, .ref ki, .ref ce, .ref si, .ref sp, .int 0])), (oc, .inl (cy 0, 192, .inl foc)), (wk, .inl (cy 4, 8, .inr (.inr (.inr (.inr gw))))), (w0, .inr (9, [.int 0, .int 0, .int 0, .int 5, .int 60, .int 0, .int 0, .int 0, .int 0, .ref wy, .ref wn])), (wy, .inl (cy 0, 192, .inl fwy)), (wn, .inl (cy 0, 192, .inl fwn))]) (rest := []) hx hb hml hown hts hE (c_X11_error l G cy sk s.heap.size x lv kp tr_ sh er re fi vo fe 1 (-1000001) 0 (by first | decide | (unfold inR; decide)) (by decide)) kV_X11_error m_500 rfl rfl ⟨(Nat.le_of_ble_eq_true rfl), (Nat.le_of_ble_eq_true rfl)⟩ hP hD hS hA 0 rfl rfl rfl [0, 1] [2, 3, 4, 5, 6, 7, 8] rfl rfl rfl rfl (by decide) rfl rfl hl.1 (Nat.le_of_ble_eq_true rfl) dX11_walker_23 ⟨(Nat.le_of_ble_eq_true rfl), (Nat.le_of_ble_eq_true rfl)⟩ (fun r_11 H locs hr_ haf hS => ?_)
    obtain ⟨-, -, hP, hD⟩ := haf
    have hP : va_P G classes [(lv, .inr (10, [.ref st, .ref la, .ref le, .ref ta, .ref wa, .ref wk, .int 0, .int 0])), (st, .inr (7, [.ref oc, .ref ki, .ref ce, .ref si, .ref sp, .int 0])), (oc, .inl (cy 0, 192, .inl foc)), (wk, .inl (cy 4, 8, .inr (.inr (.inr (.inr gw))))), (w0, .inr (9, [.int 0, .int 0, .int 0, .int 5, .int 60, .int 0, .int 0, .int 0, .int 0, .ref wy, .ref wn])), (wy, .inl (cy 0, 192, .inl fwy)), (wn, .inl (cy 0, 192, .inl fwn))] H := hP
    have hD : va_D A [(lv, .inr (10, [.ref st, .ref la, .ref le, .ref ta, .ref wa, .ref wk, .int 0, .int 0])), (st, .inr (7, [.ref oc, .ref ki, .ref ce, .ref si, .ref sp, .int 0])), (oc, .inl (cy 0, 192, .inl foc)), (wk, .inl (cy 4, 8, .inr (.inr (.inr (.inr gw))))), (w0, .inr (9, [.int 0, .int 0, .int 0, .int 5, .int 60, .int 0, .int 0, .int 0, .int 0, .ref wy, .ref wn])), (wy, .inl (cy 0, 192, .inl fwy)), (wn, .inl (cy 0, 192, .inl fwn))] := hD
    subst hr_
    refine W.widen (k := 0) (n := 0) (by first | exact Nat.le_of_ble_eq_true rfl | omega) (by first | exact Nat.le_of_ble_eq_true rfl | omega) ?_
    exact W.iret (v := (-1000001)) hx hb hr (fun t ht hW => ⟨⟨(-1000001), (), rfl, (lf_c_X11_walker_3 foc gw w0 ak ac ad hoc hw h_2), trivial⟩, hS.F ht⟩) hS.2.2 dX11_walker_26
