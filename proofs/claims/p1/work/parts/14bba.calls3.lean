theorem kf_c_X11_feed_0 (an : Int32) (h_2 : inR an 1 8) (h9 : ¬ an ≤ 48) : False := by simp only [inR, Int32.le_iff_toInt_le, Int32.lt_iff_toInt_lt] at *; simp at *; omega
theorem lf_c_X11_feed_1 (an : Int32) (kn : Nat) (h_2 : inR an 1 8) (hkn : kn < 2 ^ 31) (ean : an = (nI kn)) (hkb : kn ≤ 8) : ((nI kn) : Int32) = (F_feed an) := by (try subst ean); first | (simp only [F_feed, *, and_true, true_and, and_false, false_and, if_true, if_false]; done) | (simp [F_feed, *]; done) | (unfold F_feed; simp_all; done)
theorem lf_c_X11_feed_2 (an : Int32) (h_2 : ¬ inR an 1 8) : ((-1000001) : Int32) = (F_feed an) := by (try subst ean); first | (simp only [F_feed, *, and_true, true_and, and_false, false_and, if_true, if_false]; done) | (simp [F_feed, *]; done) | (unfold F_feed; simp_all; done)
set_option maxHeartbeats 4000000 in
set_option maxRecDepth 100000 in
theorem c_X11_feed (l : Launch) (G : va_G) (cy : Nat → ClassId) (sk : Nat → Nat) (sz : Nat) (x : Nat) (lv : Nat) (kp : Nat) (tr_ : Nat) (sh : Nat) (er : Nat) (re : Nat) (fi : Nat) (vo : Nat) (fe : Nat → Int32) (lv : Nat) (st : Nat) (la : Nat) (le : Nat) (ta : Nat) (wa : Nat) (wk : Nat) (rta : Nat) (awd : Int64) (an : Int32)  : Met l yX11_feed (wsO yX11_feed cX11_feed 5 (some .int)) ({ frames := 1, cells := 0, slots := 0, locals := 22 }) (va_Pc [.ref x, .long awd, .int an] (PR G cy sk sz [(x, .inr (11, [.ref lv, .ref kp, .ref tr_, .ref sh, .ref er, .ref re, .ref fi, .ref vo, .int 0])), (er, .inl (cy 0, 7, .inl fe)), (lv, .inr (10, [.ref st, .ref la, .ref le, .ref ta, .ref wa, .ref wk, .int 0, .int 0])), (ta, .inr (5, [.ref rta, .int 0])), (rta, .inl (cy 0, 48, .inl (fun _ => 0)))])) (va_Qi (fun r (_ : Unit) => r = (F_feed an)) (fun _ _ => True) (va_A [(x, .inr (11, [.ref lv, .ref kp, .ref tr_, .ref sh, .ref er, .ref re, .ref fi, .ref vo, .int 0])), (er, .inl (cy 0, 7, .inl fe)), (lv, .inr (10, [.ref st, .ref la, .ref le, .ref ta, .ref wa, .ref wk, .int 0, .int 0])), (ta, .inr (5, [.ref rta, .int 0])), (rta, .inl (cy 0, 48, .inl (fun _ => 0)))] sz)) 0 0 (va_A [(x, .inr (11, [.ref lv, .ref kp, .ref tr_, .ref sh, .ref er, .ref re, .ref fi, .ref vo, .int 0])), (er, .inl (cy 0, 7, .inl fe)), (lv, .inr (10, [.ref st, .ref la, .ref le, .ref ta, .ref wa, .ref wk, .int 0, .int 0])), (ta, .inr (5, [.ref rta, .int 0])), (rta, .inl (cy 0, 48, .inl (fun _ => 0)))] sz) := by
  refine mt (by decide) (Nat.le_of_ble_eq_true rfl) ?_
  intro p e s m below meth c ls hx hb hr hml hts hown hlocks hin hsz hP hE hD hl
  subst hsz
  have hl : lv_has ls 5 [(0, .ref x), (1, .long awd), (3, .int an)] := hl
  have hD := hD.self (sz := s.heap.size)
  generalize hAe : va_A [(x, .inr (11, [.ref lv, .ref kp, .ref tr_, .ref sh, .ref er, .ref re, .ref fi, .ref vo, .int 0])), (er, .inl (cy 0, 7, .inl fe)), (lv, .inr (10, [.ref st, .ref la, .ref le, .ref ta, .ref wa, .ref wk, .int 0, .int 0])), (ta, .inr (5, [.ref rta, .int 0])), (rta, .inl (cy 0, 48, .inl (fun _ => 0)))] s.heap.size = A at hD ⊢
  have hA : ∀ q : Nat, s.heap.size ≤ q → A q := fun q h => by rw [← hAe]; exact Or.inr h
  have hS : va_S A s.heap s.heap [] := va_S.rf
  refine lv_iload_n hx hb dX11_feed_0 rfl (lv_at hl 2 rfl) ?_
  refine lv_iconst (v := 1) hx hb dX11_feed_1 (by decide) ?_
  refine lv_bipush (v := 8) hx hb dX11_feed_2 (by decide) ?_
  refine rS (rest := []) hx hb hml hown hts hE (c_X11_within l G cy sk s.heap.size an 1 8) kS_X11_within m_494 rfl rfl ⟨(Nat.le_of_ble_eq_true rfl), (Nat.le_of_ble_eq_true rfl)⟩ hP hD [] rfl rfl rfl rfl hl.1 (Nat.le_of_ble_eq_true rfl) dX11_feed_4 ⟨(Nat.le_of_ble_eq_true rfl), (Nat.le_of_ble_eq_true rfl)⟩ (fun r_1 hr_ => ?_)
  rcases hr_ with ⟨rfl, h_2⟩ | ⟨rfl, h_2⟩
  · refine lv_if_ne (tgt := 16) hx hb dX11_feed_7 (by decide) (fun _ => ?_) (fun h9 => absurd h9 (by decide))
    refine lv_aload_n hx hb dX11_feed_16 rfl (lv_at hl 0 rfl) ?_
    refine va_get (D := G) (ci := 11) (v := .ref lv) (C := RX11) (T := TX11) (N := 9) hx hb hts inB11 hown hE.1 hP 0 rfl rfl 0 (by decide) (hts _ m_459) (fun _ h9 => h9) rfl dX11_feed_17 ?_
    refine va_getN (D := G) (ci := 10) (v := .ref ta) (C := RX10) (T := TX10) (N := 8) hx hb hts inB10 hown hE.1 hP 2 rfl rfl 3 (by decide) (nf_RX11_192 hE) (fun _ h9 => h9) rfl dX11_feed_20 ?_
    refine rV (rest := []) hx hb hml hown hts hE (c_X5_room l G cy sk s.heap.size ta rta 48 (fun _ => 0) 0 48 (by first | decide | (unfold inR; decide))) kV_X5_room m_669 rfl rfl ⟨(Nat.le_of_ble_eq_true rfl), (Nat.le_of_ble_eq_true rfl)⟩ hP hD 3 rfl rfl rfl [3, 4] rfl rfl rfl rfl hl.1 (Nat.le_of_ble_eq_true rfl) dX11_feed_23 ⟨(Nat.le_of_ble_eq_true rfl), (Nat.le_of_ble_eq_true rfl)⟩ (fun r_3 hr_ => ?_)
    subst hr_
    refine lv_iload_n hx hb dX11_feed_26 rfl (lv_at hl 2 rfl) ?_
    refine lv_icmp_ge (tgt := 36) hx hb dX11_feed_27 (by decide) (fun _ => ?_) (fun h9 => (kf_c_X11_feed_0 an h_2 h9).elim)
    refine lv_iconst (v := 0) hx hb dX11_feed_36 (by decide) ?_
    refine lv_istore (lv' := [(4, .int 0), (0, .ref x), (1, .long awd), (3, .int an)]) hx hb dX11_feed_37 hl (by decide) rfl (fun ls hl => ?_)
    obtain ⟨kn, hkn, ean⟩ := inRn h_2 (by decide)
    have hkb : kn ≤ 8 := inRb (ean ▸ h_2) hkn rfl
    rw [ean] at hl
    have lp : ∀ (nn i : Nat), i ≤ kn → kn + 1 ≤ i + nn → ∀ (gt_ : Nat → Int32), ∀ (H : Heap) (locs : List Loc), va_P G classes [(x, .inr (11, [.ref lv, .ref kp, .ref tr_, .ref sh, .ref er, .ref re, .ref fi, .ref vo, .int 0])), (er, .inl (cy 0, 7, .inl fe)), (lv, .inr (10, [.ref st, .ref la, .ref le, .ref ta, .ref wa, .ref wk, .int 0, .int 0])), (ta, .inr (5, [.ref rta, .int (nI i)])), (rta, .inl (cy 0, 48, .inl gt_))] H → va_D A [(x, .inr (11, [.ref lv, .ref kp, .ref tr_, .ref sh, .ref er, .ref re, .ref fi, .ref vo, .int 0])), (er, .inl (cy 0, 7, .inl fe)), (lv, .inr (10, [.ref st, .ref la, .ref le, .ref ta, .ref wa, .ref wk, .int 0, .int 0])), (ta, .inr (5, [.ref rta, .int (nI i)])), (rta, .inl (cy 0, 48, .inl gt_))] → va_S A s.heap H locs → ∀ (ls : Array Slot), lv_has ls 5 [(4, .int (nI i)), (0, .ref x), (1, .long awd), (3, .int (nI kn))] → W p l e (headSpec (wsO yX11_feed cX11_feed 5 (some .int)) ({ frames := 1, cells := 0, slots := 0, locals := 22 })).room s m [.ref x, .long awd, .int an].toArray below meth c H locs 0 0 (MQ below (va_Qi (fun r (_ : Unit) => r = (F_feed an)) (fun _ _ => True) A) [.ref x, .long awd, .int an].toArray s 0 0 A) (F0 m 39 ls []) := by
      intro nn
      induction nn with
      | zero => intro i h1 h2; exact absurd h2 (by omega)
      | succ nn ih =>
        intro i hi hin0 gt_ H locs hP hD hS ls hl
        rcases Nat.lt_or_ge i kn with hlt | hge
        · refine lv_iload hx hb dX11_feed_39 (lv_at hl 0 rfl) ?_
          refine lv_iload_n hx hb dX11_feed_41 rfl (lv_at hl 3 rfl) ?_
          refine lv_icmp_ge (tgt := 73) hx hb dX11_feed_42 (by decide) (fun h9 => absurd h9 (nI_ge hlt hkn)) (fun _ => ?_)
          refine lv_aload_n hx hb dX11_feed_45 rfl (lv_at hl 1 rfl) ?_
          refine va_get (D := G) (ci := 11) (v := .ref lv) (C := RX11) (T := TX11) (N := 9) hx hb hts inB11 hown hE.1 hP 0 rfl rfl 0 (by decide) (hts _ m_459) (fun _ h9 => h9) rfl dX11_feed_46 ?_
          refine va_getN (D := G) (ci := 10) (v := .ref ta) (C := RX10) (T := TX10) (N := 8) hx hb hts inB10 hown hE.1 hP 2 rfl rfl 3 (by decide) (nf_RX11_192 hE) (fun _ h9 => h9) rfl dX11_feed_49 ?_
          refine lv_lload_n hx hb dX11_feed_52 rfl (lv_at hl 2 rfl) ?_
          refine lv_bipush (v := 8) hx hb dX11_feed_53 (by decide) ?_
          refine lv_iload hx hb dX11_feed_55 (lv_at hl 0 rfl) ?_
          refine lv_imul hx hb dX11_feed_57 ?_
          obtain ⟨z4, ez4⟩ : ∃ z : Int64, z = ((awd).toUInt64 >>> (((8 * (nI i))).toInt64.toUInt64 &&& Int64.toUInt64 63)).toInt64 := ⟨_, rfl⟩
          refine lv_lushr (v := z4) hx hb dX11_feed_58 ez4.symm ?_
          obtain ⟨z5, ez5⟩ : ∃ z : Int32, z = (z4).toInt32 := ⟨_, rfl⟩
          refine lv_l2i (v := z5) hx hb dX11_feed_59 ez5.symm ?_
          refine lv_sipush (v := 255) hx hb dX11_feed_60 (by decide) ?_
          refine lv_iand hx hb dX11_feed_63 ?_
          refine wVv (B := (B_c_X5_add G cy (va_A [(ta, .inr (5, [.ref rta, .int (nI i)])), (rta, .inl (cy 0, 48, .inl gt_))] H.size) ta rta 48 gt_ (nI i) i (z5 &&& 255))) (wr := [(x, .inr (11, [.ref lv, .ref kp, .ref tr_, .ref sh, .ref er, .ref re, .ref fi, .ref vo, .int 0])), (er, .inl (cy 0, 7, .inl fe)), (lv, .inr (10, [.ref st, .ref la, .ref le, .ref ta, .ref wa, .ref wk, .int 0, .int 0]))]) (rest := []) hx hb hml hown hts hE (c_X5_add l G cy sk H.size ta rta 48 gt_ (nI i) i (z5 &&& 255) rfl (by omega) (by omega)) kV_X5_add m_673 rfl rfl ⟨(Nat.le_of_ble_eq_true rfl), (Nat.le_of_ble_eq_true rfl)⟩ hP hD hS hA 3 rfl rfl rfl [3, 4] [0, 1, 2] rfl rfl rfl rfl (by decide) rfl rfl hl.1 (Nat.le_of_ble_eq_true rfl) dX11_feed_64 ⟨(Nat.le_of_ble_eq_true rfl), (Nat.le_of_ble_eq_true rfl)⟩ (fun H locs haf hS => ?_)
          obtain ⟨xf7, hP1, hD1⟩ := haf.1
          obtain ⟨hP, hD⟩ := haf.2.1 _ hP1 hD1
          have hP : va_P G classes [(x, .inr (11, [.ref lv, .ref kp, .ref tr_, .ref sh, .ref er, .ref re, .ref fi, .ref vo, .int 0])), (er, .inl (cy 0, 7, .inl fe)), (lv, .inr (10, [.ref st, .ref la, .ref le, .ref ta, .ref wa, .ref wk, .int 0, .int 0])), (ta, .inr (5, [.ref rta, .int (nI (i + 1))])), (rta, .inl (cy 0, 48, .inl xf7))] H := hP
          have hD : va_D A [(x, .inr (11, [.ref lv, .ref kp, .ref tr_, .ref sh, .ref er, .ref re, .ref fi, .ref vo, .int 0])), (er, .inl (cy 0, 7, .inl fe)), (lv, .inr (10, [.ref st, .ref la, .ref le, .ref ta, .ref wa, .ref wk, .int 0, .int 0])), (ta, .inr (5, [.ref rta, .int (nI (i + 1))])), (rta, .inl (cy 0, 48, .inl xf7))] := hD
          refine lv_iinc (v := (nI (i + 1))) (lv' := [(4, .int (nI (i + 1))), (0, .ref x), (1, .long awd), (3, .int (nI kn))]) hx hb dX11_feed_67 hl (k := 0) rfl (nI_1 (i)) (by decide) rfl (fun ls hl => ?_)
          refine lv_goto (tgt := 39) hx hb dX11_feed_70 (by decide) ?_
          exact ih (i + 1) hlt (by omega) _ _ _ hP hD hS ls (lv_sub hl [0, 1, 2, 3] rfl)
        · have hie : kn = i := Nat.le_antisymm hge hi
          subst hie
          refine lv_iload hx hb dX11_feed_39 (lv_at hl 0 rfl) ?_
          refine lv_iload_n hx hb dX11_feed_41 rfl (lv_at hl 3 rfl) ?_
          refine lv_icmp_ge (tgt := 73) hx hb dX11_feed_42 (by decide) (fun _ => ?_) (fun h9 => absurd (Int32.le_refl _) h9)
          refine lv_aload_n hx hb dX11_feed_73 rfl (lv_at hl 1 rfl) ?_
          refine va_get (D := G) (ci := 11) (v := .ref lv) (C := RX11) (T := TX11) (N := 9) hx hb hts inB11 hown hE.1 hP 0 rfl rfl 0 (by decide) (hts _ m_459) (fun _ h9 => h9) rfl dX11_feed_74 ?_
          refine va_getN (D := G) (ci := 10) (v := .ref ta) (C := RX10) (T := TX10) (N := 8) hx hb hts inB10 hown hE.1 hP 2 rfl rfl 3 (by decide) (nf_RX11_192 hE) (fun _ h9 => h9) rfl dX11_feed_77 ?_
          refine va_getN (D := G) (ci := 5) (v := .int (nI kn)) (C := RX5) (T := TX5) (N := 2) hx hb hts inB5 hown hE.1 hP 3 rfl rfl 1 (by decide) (nf_RX11_205 hE) (fun _ h9 => h9) rfl dX11_feed_80 ?_
          refine W.widen (k := 0) (n := 0) (by first | exact Nat.le_of_ble_eq_true rfl | omega) (by first | exact Nat.le_of_ble_eq_true rfl | omega) ?_
          exact W.iret (v := (nI kn)) hx hb hr (fun t ht hW => ⟨⟨(nI kn), (), rfl, (lf_c_X11_feed_1 an kn h_2 hkn ean hkb), trivial⟩, hS.F ht⟩) hS.2.2 dX11_feed_83
    exact lp (kn + 1) 0 (Nat.zero_le _) (by omega) _ _ _ hP hD hS ls (lv_sub hl [0, 1, 2, 3] rfl)
  · refine lv_if_ne (tgt := 16) hx hb dX11_feed_7 (by decide) (fun h9 => absurd h9 (by decide)) (fun _ => ?_)
    refine lv_aload_n hx hb dX11_feed_10 rfl (lv_at hl 0 rfl) ?_
    refine lv_iconst (v := 1) hx hb dX11_feed_11 (by decide) ?_
    refine wV (B := (fun _ => True)) (wr := [(lv, .inr (10, [.ref st, .ref la, .ref le, .ref ta, .ref wa, .ref wk, .int 0, .int 0])), (ta, .inr (5, [.ref rta, .int 0])), (rta, .inl (cy 0, 48, .inl (fun _ => 0)))]) (rest := []) hx hb hml hown hts hE (c_X11_error l G cy sk s.heap.size x lv kp tr_ sh er re fi vo fe 1 (-1000001) 0 (by first | decide | (unfold inR; decide)) (by decide)) kV_X11_error m_500 rfl rfl ⟨(Nat.le_of_ble_eq_true rfl), (Nat.le_of_ble_eq_true rfl)⟩ hP hD hS hA 0 rfl rfl rfl [0, 1] [2, 3, 4] rfl rfl rfl rfl (by decide) rfl rfl hl.1 (Nat.le_of_ble_eq_true rfl) dX11_feed_12 ⟨(Nat.le_of_ble_eq_true rfl), (Nat.le_of_ble_eq_true rfl)⟩ (fun r_8 H locs hr_ haf hS => ?_)
    obtain ⟨-, -, hP, hD⟩ := haf
    have hP : va_P G classes [(lv, .inr (10, [.ref st, .ref la, .ref le, .ref ta, .ref wa, .ref wk, .int 0, .int 0])), (ta, .inr (5, [.ref rta, .int 0])), (rta, .inl (cy 0, 48, .inl (fun _ => 0)))] H := hP
    have hD : va_D A [(lv, .inr (10, [.ref st, .ref la, .ref le, .ref ta, .ref wa, .ref wk, .int 0, .int 0])), (ta, .inr (5, [.ref rta, .int 0])), (rta, .inl (cy 0, 48, .inl (fun _ => 0)))] := hD
    subst hr_
    refine W.widen (k := 0) (n := 0) (by first | exact Nat.le_of_ble_eq_true rfl | omega) (by first | exact Nat.le_of_ble_eq_true rfl | omega) ?_
    exact W.iret (v := (-1000001)) hx hb hr (fun t ht hW => ⟨⟨(-1000001), (), rfl, (lf_c_X11_feed_2 an h_2), trivial⟩, hS.F ht⟩) hS.2.2 dX11_feed_15
theorem lf_c_X11_text_0 (au : Int32) (h_2 : inR au 0 2) : ((-10) : Int32) = (F_text au) := by first | (simp only [F_text, *, and_true, true_and, and_false, false_and, if_true, if_false]; done) | (simp [F_text, *]; done) | (unfold F_text; simp_all; done)
theorem lf_c_X11_text_1 (au : Int32) (h_2 : ¬ inR au 0 2) : ((-1000001) : Int32) = (F_text au) := by first | (simp only [F_text, *, and_true, true_and, and_false, false_and, if_true, if_false]; done) | (simp [F_text, *]; done) | (unfold F_text; simp_all; done)
set_option maxHeartbeats 4000000 in
set_option maxRecDepth 100000 in
theorem c_X11_text (l : Launch) (G : va_G) (cy : Nat → ClassId) (sk : Nat → Nat) (sz : Nat) (x : Nat) (lv : Nat) (kp : Nat) (tr_ : Nat) (sh : Nat) (er : Nat) (re : Nat) (fi : Nat) (vo : Nat) (fe : Nat → Int32) (lv : Nat) (st : Nat) (la : Nat) (le : Nat) (ta : Nat) (wa : Nat) (wk : Nat) (rta : Nat) (dr : Nat) (t0 : Nat) (nm : Nat) (co : Nat) (ck : Nat) (au : Int32)  : Met l yX11_text (wsO yX11_text cX11_text 3 (some .int)) ({ frames := 7, cells := 0, slots := 0, locals := 151 }) (va_Pc [.ref x, .int au] (PR G cy sk sz [(x, .inr (11, [.ref lv, .ref kp, .ref tr_, .ref sh, .ref er, .ref re, .ref fi, .ref vo, .int 0])), (er, .inl (cy 0, 7, .inl fe)), (lv, .inr (10, [.ref st, .ref la, .ref le, .ref ta, .ref wa, .ref wk, .int 0, .int 0])), (ta, .inr (5, [.ref rta, .int 0])), (re, .inr (4, [.ref dr, .ref t0, .ref nm, .int 0, .int (-1), .int 0, .int 0])), (dr, .inr (1, [.ref co, .ref ck, .int 0]))])) (va_Qi (fun r (_ : Unit) => r = (F_text au)) (fun _ _ => True) (va_A [(x, .inr (11, [.ref lv, .ref kp, .ref tr_, .ref sh, .ref er, .ref re, .ref fi, .ref vo, .int 0])), (er, .inl (cy 0, 7, .inl fe)), (lv, .inr (10, [.ref st, .ref la, .ref le, .ref ta, .ref wa, .ref wk, .int 0, .int 0])), (ta, .inr (5, [.ref rta, .int 0])), (re, .inr (4, [.ref dr, .ref t0, .ref nm, .int 0, .int (-1), .int 0, .int 0])), (dr, .inr (1, [.ref co, .ref ck, .int 0]))] sz)) 0 0 (va_A [(x, .inr (11, [.ref lv, .ref kp, .ref tr_, .ref sh, .ref er, .ref re, .ref fi, .ref vo, .int 0])), (er, .inl (cy 0, 7, .inl fe)), (lv, .inr (10, [.ref st, .ref la, .ref le, .ref ta, .ref wa, .ref wk, .int 0, .int 0])), (ta, .inr (5, [.ref rta, .int 0])), (re, .inr (4, [.ref dr, .ref t0, .ref nm, .int 0, .int (-1), .int 0, .int 0])), (dr, .inr (1, [.ref co, .ref ck, .int 0]))] sz) := by
  refine mt (by decide) (Nat.le_of_ble_eq_true rfl) ?_
  intro p e s m below meth c ls hx hb hr hml hts hown hlocks hin hsz hP hE hD hl
  subst hsz
  have hl : lv_has ls 3 [(0, .ref x), (1, .int au)] := hl
  have hD := hD.self (sz := s.heap.size)
  generalize hAe : va_A [(x, .inr (11, [.ref lv, .ref kp, .ref tr_, .ref sh, .ref er, .ref re, .ref fi, .ref vo, .int 0])), (er, .inl (cy 0, 7, .inl fe)), (lv, .inr (10, [.ref st, .ref la, .ref le, .ref ta, .ref wa, .ref wk, .int 0, .int 0])), (ta, .inr (5, [.ref rta, .int 0])), (re, .inr (4, [.ref dr, .ref t0, .ref nm, .int 0, .int (-1), .int 0, .int 0])), (dr, .inr (1, [.ref co, .ref ck, .int 0]))] s.heap.size = A at hD ⊢
  have hA : ∀ q : Nat, s.heap.size ≤ q → A q := fun q h => by rw [← hAe]; exact Or.inr h
  have hS : va_S A s.heap s.heap [] := va_S.rf
  refine lv_iload_n hx hb dX11_text_0 rfl (lv_at hl 1 rfl) ?_
  refine lv_iconst (v := 0) hx hb dX11_text_1 (by decide) ?_
  refine lv_iconst (v := 2) hx hb dX11_text_2 (by decide) ?_
  refine rS (rest := []) hx hb hml hown hts hE (c_X11_within l G cy sk s.heap.size au 0 2) kS_X11_within m_494 rfl rfl ⟨(Nat.le_of_ble_eq_true rfl), (Nat.le_of_ble_eq_true rfl)⟩ hP hD [] rfl rfl rfl rfl hl.1 (Nat.le_of_ble_eq_true rfl) dX11_text_3 ⟨(Nat.le_of_ble_eq_true rfl), (Nat.le_of_ble_eq_true rfl)⟩ (fun r_1 hr_ => ?_)
  rcases hr_ with ⟨rfl, h_2⟩ | ⟨rfl, h_2⟩
  · refine lv_if_ne (tgt := 15) hx hb dX11_text_6 (by decide) (fun _ => ?_) (fun h9 => absurd h9 (by decide))
    refine lv_aload_n hx hb dX11_text_15 rfl (lv_at hl 0 rfl) ?_
    refine va_get (D := G) (ci := 11) (v := .ref re) (C := RX11) (T := TX11) (N := 9) hx hb hts inB11 hown hE.1 hP 0 rfl rfl 5 (by decide) (hts _ m_464) (fun _ h9 => h9) rfl dX11_text_16 ?_
    refine lv_aload_n hx hb dX11_text_19 rfl (lv_at hl 0 rfl) ?_
    refine va_get (D := G) (ci := 11) (v := .ref lv) (C := RX11) (T := TX11) (N := 9) hx hb hts inB11 hown hE.1 hP 0 rfl rfl 0 (by decide) (hts _ m_459) (fun _ h9 => h9) rfl dX11_text_20 ?_
    refine va_getN (D := G) (ci := 10) (v := .ref ta) (C := RX10) (T := TX10) (N := 8) hx hb hts inB10 hown hE.1 hP 2 rfl rfl 3 (by decide) (nf_RX11_192 hE) (fun _ h9 => h9) rfl dX11_text_23 ?_
    refine lv_iload_n hx hb dX11_text_26 rfl (lv_at hl 1 rfl) ?_
    refine wV (B := (B_c_X4_read G cy (va_A [(re, .inr (4, [.ref dr, .ref t0, .ref nm, .int 0, .int (-1), .int 0, .int 0])), (dr, .inr (1, [.ref co, .ref ck, .int 0])), (ta, .inr (5, [.ref rta, .int 0]))] s.heap.size) re dr t0 nm ta rta co ck au)) (wr := [(x, .inr (11, [.ref lv, .ref kp, .ref tr_, .ref sh, .ref er, .ref re, .ref fi, .ref vo, .int 0])), (er, .inl (cy 0, 7, .inl fe)), (lv, .inr (10, [.ref st, .ref la, .ref le, .ref ta, .ref wa, .ref wk, .int 0, .int 0]))]) (rest := []) hx hb hml hown hts hE (c_X4_read l G cy sk s.heap.size re dr t0 nm ta rta co ck au) kV_X4_read m_681 rfl rfl ⟨(Nat.le_of_ble_eq_true rfl), (Nat.le_of_ble_eq_true rfl)⟩ hP hD hS hA 4 rfl rfl rfl [4, 5, 3] [0, 1, 2] rfl rfl rfl rfl (by decide) rfl rfl hl.1 (Nat.le_of_ble_eq_true rfl) dX11_text_27 ⟨(Nat.le_of_ble_eq_true rfl), (Nat.le_of_ble_eq_true rfl)⟩ (fun r_3 H locs hr_ haf hS => ?_)
    obtain ⟨hP1, hD1⟩ := haf.1
    obtain ⟨hP, hD⟩ := haf.2.1 _ hP1 hD1
    have hP : va_P G classes [(x, .inr (11, [.ref lv, .ref kp, .ref tr_, .ref sh, .ref er, .ref re, .ref fi, .ref vo, .int 0])), (er, .inl (cy 0, 7, .inl fe)), (lv, .inr (10, [.ref st, .ref la, .ref le, .ref ta, .ref wa, .ref wk, .int 0, .int 0])), (ta, .inr (5, [.ref rta, .int 0]))] H := hP
    have hD : va_D A [(x, .inr (11, [.ref lv, .ref kp, .ref tr_, .ref sh, .ref er, .ref re, .ref fi, .ref vo, .int 0])), (er, .inl (cy 0, 7, .inl fe)), (lv, .inr (10, [.ref st, .ref la, .ref le, .ref ta, .ref wa, .ref wk, .int 0, .int 0])), (ta, .inr (5, [.ref rta, .int 0]))] := hD
    subst hr_
    refine lv_istore_n (lv' := [(2, .int (-10)), (0, .ref x), (1, .int au)]) hx hb dX11_text_30 rfl hl (by decide) rfl (fun ls hl => ?_)
    refine lv_iload_n hx hb dX11_text_31 rfl (lv_at hl 0 rfl) ?_
    refine lv_if_lt (tgt := 57) hx hb dX11_text_32 (by decide) (fun _ => ?_) (fun h9 => absurd h9 (by decide))
    refine lv_aload_n hx hb dX11_text_57 rfl (lv_at hl 1 rfl) ?_
    refine va_get (D := G) (ci := 11) (v := .ref lv) (C := RX11) (T := TX11) (N := 9) hx hb hts inB11 hown hE.1 hP 0 rfl rfl 0 (by decide) (hts _ m_459) (fun _ h9 => h9) rfl dX11_text_58 ?_
    refine va_getN (D := G) (ci := 10) (v := .ref ta) (C := RX10) (T := TX10) (N := 8) hx hb hts inB10 hown hE.1 hP 2 rfl rfl 3 (by decide) (nf_RX11_192 hE) (fun _ h9 => h9) rfl dX11_text_61 ?_
    refine wVv (B := (B_c_X5_clear G cy (va_A [(ta, .inr (5, [.ref rta, .int 0]))] H.size) ta rta 0)) (wr := [(x, .inr (11, [.ref lv, .ref kp, .ref tr_, .ref sh, .ref er, .ref re, .ref fi, .ref vo, .int 0])), (er, .inl (cy 0, 7, .inl fe)), (lv, .inr (10, [.ref st, .ref la, .ref le, .ref ta, .ref wa, .ref wk, .int 0, .int 0]))]) (rest := []) hx hb hml hown hts hE (c_X5_clear l G cy sk H.size ta rta 0) kV_X5_clear m_831 rfl rfl ⟨(Nat.le_of_ble_eq_true rfl), (Nat.le_of_ble_eq_true rfl)⟩ hP hD hS hA 3 rfl rfl rfl [3] [0, 1, 2] rfl rfl rfl rfl (by decide) rfl rfl hl.1 (Nat.le_of_ble_eq_true rfl) dX11_text_64 ⟨(Nat.le_of_ble_eq_true rfl), (Nat.le_of_ble_eq_true rfl)⟩ (fun H locs haf hS => ?_)
    obtain ⟨hP1, hD1⟩ := haf.1
    obtain ⟨hP, hD⟩ := haf.2.1 _ hP1 hD1
    have hP : va_P G classes [(x, .inr (11, [.ref lv, .ref kp, .ref tr_, .ref sh, .ref er, .ref re, .ref fi, .ref vo, .int 0])), (er, .inl (cy 0, 7, .inl fe)), (lv, .inr (10, [.ref st, .ref la, .ref le, .ref ta, .ref wa, .ref wk, .int 0, .int 0])), (ta, .inr (5, [.ref rta, .int 0]))] H := hP
    have hD : va_D A [(x, .inr (11, [.ref lv, .ref kp, .ref tr_, .ref sh, .ref er, .ref re, .ref fi, .ref vo, .int 0])), (er, .inl (cy 0, 7, .inl fe)), (lv, .inr (10, [.ref st, .ref la, .ref le, .ref ta, .ref wa, .ref wk, .int 0, .int 0])), (ta, .inr (5, [.ref rta, .int 0]))] := hD
    refine lv_iload_n hx hb dX11_text_67 rfl (lv_at hl 0 rfl) ?_
    refine W.widen (k := 0) (n := 0) (by first | exact Nat.le_of_ble_eq_true rfl | omega) (by first | exact Nat.le_of_ble_eq_true rfl | omega) ?_
    exact W.iret (v := (-10)) hx hb hr (fun t ht hW => ⟨⟨(-10), (), rfl, (lf_c_X11_text_0 au h_2), trivial⟩, hS.F ht⟩) hS.2.2 dX11_text_68
  · refine lv_if_ne (tgt := 15) hx hb dX11_text_6 (by decide) (fun h9 => absurd h9 (by decide)) (fun _ => ?_)
    refine lv_aload_n hx hb dX11_text_9 rfl (lv_at hl 0 rfl) ?_
    refine lv_iconst (v := 1) hx hb dX11_text_10 (by decide) ?_
    refine wV (B := (fun _ => True)) (wr := [(lv, .inr (10, [.ref st, .ref la, .ref le, .ref ta, .ref wa, .ref wk, .int 0, .int 0])), (ta, .inr (5, [.ref rta, .int 0])), (re, .inr (4, [.ref dr, .ref t0, .ref nm, .int 0, .int (-1), .int 0, .int 0])), (dr, .inr (1, [.ref co, .ref ck, .int 0]))]) (rest := []) hx hb hml hown hts hE (c_X11_error l G cy sk s.heap.size x lv kp tr_ sh er re fi vo fe 1 (-1000001) 0 (by first | decide | (unfold inR; decide)) (by decide)) kV_X11_error m_500 rfl rfl ⟨(Nat.le_of_ble_eq_true rfl), (Nat.le_of_ble_eq_true rfl)⟩ hP hD hS hA 0 rfl rfl rfl [0, 1] [2, 3, 4, 5] rfl rfl rfl rfl (by decide) rfl rfl hl.1 (Nat.le_of_ble_eq_true rfl) dX11_text_11 ⟨(Nat.le_of_ble_eq_true rfl), (Nat.le_of_ble_eq_true rfl)⟩ (fun r_5 H locs hr_ haf hS => ?_)
    obtain ⟨-, -, hP, hD⟩ := haf
    have hP : va_P G classes [(lv, .inr (10, [.ref st, .ref la, .ref le, .ref ta, .ref wa, .ref wk, .int 0, .int 0])), (ta, .inr (5, [.ref rta, .int 0])), (re, .inr (4, [.ref dr, .ref t0, .ref nm, .int 0, .int (-1), .int 0, .int 0])), (dr, .inr (1, [.ref co, .ref ck, .int 0]))] H := hP
    have hD : va_D A [(lv, .inr (10, [.ref st, .ref la, .ref le, .ref ta, .ref wa, .ref wk, .int 0, .int 0])), (ta, .inr (5, [.ref rta, .int 0])), (re, .inr (4, [.ref dr, .ref t0, .ref nm, .int 0, .int (-1), .int 0, .int 0])), (dr, .inr (1, [.ref co, .ref ck, .int 0]))] := hD
    subst hr_
    refine W.widen (k := 0) (n := 0) (by first | exact Nat.le_of_ble_eq_true rfl | omega) (by first | exact Nat.le_of_ble_eq_true rfl | omega) ?_
    exact W.iret (v := (-1000001)) hx hb hr (fun t ht hW => ⟨⟨(-1000001), (), rfl, (lf_c_X11_text_1 au h_2), trivial⟩, hS.F ht⟩) hS.2.2 dX11_text_14
theorem kf_c_X11_tenths_0 (an : Int32) (h_2 : inR an 1 100) (h9 : ¬ an ≤ 9999) : False := by simp only [inR, Int32.le_iff_toInt_le, Int32.lt_iff_toInt_lt] at *; simp at *; omega
theorem lf_c_X11_tenths_1 (an : Int32) (kn : Nat) (h_2 : inR an 1 100) (hkn : kn < 2 ^ 31) (ean : an = (nI kn)) (hkb : kn ≤ 100) : ((nI kn) : Int32) = (F_tenths an) := by (try subst ean); first | (simp only [F_tenths, *, and_true, true_and, and_false, false_and, if_true, if_false]; done) | (simp [F_tenths, *]; done) | (unfold F_tenths; simp_all; done)
theorem lf_c_X11_tenths_2 (an : Int32) (h_2 : ¬ inR an 1 100) : ((-1000001) : Int32) = (F_tenths an) := by (try subst ean); first | (simp only [F_tenths, *, and_true, true_and, and_false, false_and, if_true, if_false]; done) | (simp [F_tenths, *]; done) | (unfold F_tenths; simp_all; done)
set_option maxHeartbeats 4000000 in
set_option maxRecDepth 100000 in
theorem c_X11_tenths (l : Launch) (G : va_G) (cy : Nat → ClassId) (sk : Nat → Nat) (sz : Nat) (x : Nat) (lv : Nat) (kp : Nat) (tr_ : Nat) (sh : Nat) (er : Nat) (re : Nat) (fi : Nat) (vo : Nat) (fe : Nat → Int32) (lv : Nat) (st : Nat) (la : Nat) (le : Nat) (ta : Nat) (wa : Nat) (wk : Nat) (oc : Nat) (ki : Nat) (ce : Nat) (si : Nat) (sp : Nat) (an : Int32)  : Met l yX11_tenths (wsO yX11_tenths cX11_tenths 3 (some .int)) ({ frames := 2, cells := 0, slots := 0, locals := 44 }) (va_Pc [.ref x, .int an] (PR G cy sk sz [(x, .inr (11, [.ref lv, .ref kp, .ref tr_, .ref sh, .ref er, .ref re, .ref fi, .ref vo, .int 0])), (er, .inl (cy 0, 7, .inl fe)), (lv, .inr (10, [.ref st, .ref la, .ref le, .ref ta, .ref wa, .ref wk, .int 0, .int 0])), (st, .inr (7, [.ref oc, .ref ki, .ref ce, .ref si, .ref sp, .int 0]))])) (va_Qi (fun r (_ : Unit) => r = (F_tenths an)) (fun _ _ => True) (va_A [(x, .inr (11, [.ref lv, .ref kp, .ref tr_, .ref sh, .ref er, .ref re, .ref fi, .ref vo, .int 0])), (er, .inl (cy 0, 7, .inl fe)), (lv, .inr (10, [.ref st, .ref la, .ref le, .ref ta, .ref wa, .ref wk, .int 0, .int 0])), (st, .inr (7, [.ref oc, .ref ki, .ref ce, .ref si, .ref sp, .int 0]))] sz)) 0 0 (va_A [(x, .inr (11, [.ref lv, .ref kp, .ref tr_, .ref sh, .ref er, .ref re, .ref fi, .ref vo, .int 0])), (er, .inl (cy 0, 7, .inl fe)), (lv, .inr (10, [.ref st, .ref la, .ref le, .ref ta, .ref wa, .ref wk, .int 0, .int 0])), (st, .inr (7, [.ref oc, .ref ki, .ref ce, .ref si, .ref sp, .int 0]))] sz) := by
  refine mt (by decide) (Nat.le_of_ble_eq_true rfl) ?_
  intro p e s m below meth c ls hx hb hr hml hts hown hlocks hin hsz hP hE hD hl
  subst hsz
  have hl : lv_has ls 3 [(0, .ref x), (1, .int an)] := hl
  have hD := hD.self (sz := s.heap.size)
  generalize hAe : va_A [(x, .inr (11, [.ref lv, .ref kp, .ref tr_, .ref sh, .ref er, .ref re, .ref fi, .ref vo, .int 0])), (er, .inl (cy 0, 7, .inl fe)), (lv, .inr (10, [.ref st, .ref la, .ref le, .ref ta, .ref wa, .ref wk, .int 0, .int 0])), (st, .inr (7, [.ref oc, .ref ki, .ref ce, .ref si, .ref sp, .int 0]))] s.heap.size = A at hD ⊢
  have hA : ∀ q : Nat, s.heap.size ≤ q → A q := fun q h => by rw [← hAe]; exact Or.inr h
  have hS : va_S A s.heap s.heap [] := va_S.rf
  refine lv_iload_n hx hb dX11_tenths_0 rfl (lv_at hl 1 rfl) ?_
  refine lv_iconst (v := 1) hx hb dX11_tenths_1 (by decide) ?_
  refine lv_bipush (v := 100) hx hb dX11_tenths_2 (by decide) ?_
  refine rS (rest := []) hx hb hml hown hts hE (c_X11_within l G cy sk s.heap.size an 1 100) kS_X11_within m_494 rfl rfl ⟨(Nat.le_of_ble_eq_true rfl), (Nat.le_of_ble_eq_true rfl)⟩ hP hD [] rfl rfl rfl rfl hl.1 (Nat.le_of_ble_eq_true rfl) dX11_tenths_4 ⟨(Nat.le_of_ble_eq_true rfl), (Nat.le_of_ble_eq_true rfl)⟩ (fun r_1 hr_ => ?_)
  rcases hr_ with ⟨rfl, h_2⟩ | ⟨rfl, h_2⟩
  · refine lv_if_ne (tgt := 16) hx hb dX11_tenths_7 (by decide) (fun _ => ?_) (fun h9 => absurd h9 (by decide))
    refine lv_aload_n hx hb dX11_tenths_16 rfl (lv_at hl 0 rfl) ?_
    refine va_get (D := G) (ci := 11) (v := .ref lv) (C := RX11) (T := TX11) (N := 9) hx hb hts inB11 hown hE.1 hP 0 rfl rfl 0 (by decide) (hts _ m_459) (fun _ h9 => h9) rfl dX11_tenths_17 ?_
    refine va_getN (D := G) (ci := 10) (v := .int 0) (C := RX10) (T := TX10) (N := 8) hx hb hts inB10 hown hE.1 hP 2 rfl rfl 7 (by decide) (nf_RX11_290 hE) (fun _ h9 => h9) rfl dX11_tenths_20 ?_
    refine lv_iload_n hx hb dX11_tenths_23 rfl (lv_at hl 1 rfl) ?_
    refine lv_iadd hx hb dX11_tenths_24 ?_
    refine tp (v := an) (Int32.zero_add _) ?_
    refine lv_sipush (v := 9999) hx hb dX11_tenths_25 (by decide) ?_
    refine lv_icmp_le (tgt := 37) hx hb dX11_tenths_28 (by decide) (fun _ => ?_) (fun h9 => (kf_c_X11_tenths_0 an h_2 h9).elim)
    refine lv_iconst (v := 0) hx hb dX11_tenths_37 (by decide) ?_
    refine lv_istore_n (lv' := [(2, .int 0), (0, .ref x), (1, .int an)]) hx hb dX11_tenths_38 rfl hl (by decide) rfl (fun ls hl => ?_)
    obtain ⟨kn, hkn, ean⟩ := inRn h_2 (by decide)
    have hkb : kn ≤ 100 := inRb (ean ▸ h_2) hkn rfl
    rw [ean] at hl
    have lp : ∀ (nn i : Nat), i ≤ kn → kn + 1 ≤ i + nn → ∀ (H : Heap) (locs : List Loc), va_P G classes [(x, .inr (11, [.ref lv, .ref kp, .ref tr_, .ref sh, .ref er, .ref re, .ref fi, .ref vo, .int 0])), (er, .inl (cy 0, 7, .inl fe)), (lv, .inr (10, [.ref st, .ref la, .ref le, .ref ta, .ref wa, .ref wk, .int 0, .int (nI i)])), (st, .inr (7, [.ref oc, .ref ki, .ref ce, .ref si, .ref sp, .int 0]))] H → va_D A [(x, .inr (11, [.ref lv, .ref kp, .ref tr_, .ref sh, .ref er, .ref re, .ref fi, .ref vo, .int 0])), (er, .inl (cy 0, 7, .inl fe)), (lv, .inr (10, [.ref st, .ref la, .ref le, .ref ta, .ref wa, .ref wk, .int 0, .int (nI i)])), (st, .inr (7, [.ref oc, .ref ki, .ref ce, .ref si, .ref sp, .int 0]))] → va_S A s.heap H locs → ∀ (ls : Array Slot), lv_has ls 3 [(2, .int (nI i)), (0, .ref x), (1, .int (nI kn))] → W p l e (headSpec (wsO yX11_tenths cX11_tenths 3 (some .int)) ({ frames := 2, cells := 0, slots := 0, locals := 44 })).room s m [.ref x, .int an].toArray below meth c H locs 0 0 (MQ below (va_Qi (fun r (_ : Unit) => r = (F_tenths an)) (fun _ _ => True) A) [.ref x, .int an].toArray s 0 0 A) (F0 m 39 ls []) := by
      intro nn
      induction nn with
      | zero => intro i h1 h2; exact absurd h2 (by omega)
      | succ nn ih =>
        intro i hi hin0 H locs hP hD hS ls hl
        rcases Nat.lt_or_ge i kn with hlt | hge
        · refine lv_iload_n hx hb dX11_tenths_39 rfl (lv_at hl 0 rfl) ?_
          refine lv_iload_n hx hb dX11_tenths_40 rfl (lv_at hl 2 rfl) ?_
          refine lv_icmp_ge (tgt := 57) hx hb dX11_tenths_41 (by decide) (fun h9 => absurd h9 (nI_ge hlt hkn)) (fun _ => ?_)
          refine lv_aload_n hx hb dX11_tenths_44 rfl (lv_at hl 1 rfl) ?_
          refine va_get (D := G) (ci := 11) (v := .ref lv) (C := RX11) (T := TX11) (N := 9) hx hb hts inB11 hown hE.1 hP 0 rfl rfl 0 (by decide) (hts _ m_459) (fun _ h9 => h9) rfl dX11_tenths_45 ?_
          refine wVv (B := (B_c_X10_passTenth G cy (va_A [(lv, .inr (10, [.ref st, .ref la, .ref le, .ref ta, .ref wa, .ref wk, .int 0, .int (nI i)])), (st, .inr (7, [.ref oc, .ref ki, .ref ce, .ref si, .ref sp, .int 0]))] H.size) lv st la le ta wa wk oc ki ce si sp i)) (wr := [(x, .inr (11, [.ref lv, .ref kp, .ref tr_, .ref sh, .ref er, .ref re, .ref fi, .ref vo, .int 0])), (er, .inl (cy 0, 7, .inl fe))]) (rest := []) hx hb hml hown hts hE (c_X10_passTenth l G cy sk H.size lv st la le ta wa wk oc ki ce si sp i) kV_X10_passTenth m_1025 rfl rfl ⟨(Nat.le_of_ble_eq_true rfl), (Nat.le_of_ble_eq_true rfl)⟩ hP hD hS hA 2 rfl rfl rfl [2, 3] [0, 1] rfl rfl rfl rfl (by decide) rfl rfl hl.1 (Nat.le_of_ble_eq_true rfl) dX11_tenths_48 ⟨(Nat.le_of_ble_eq_true rfl), (Nat.le_of_ble_eq_true rfl)⟩ (fun H locs haf hS => ?_)
          obtain ⟨hP1, hD1⟩ := haf.1
          obtain ⟨hP, hD⟩ := haf.2.1 _ hP1 hD1
          have hP : va_P G classes [(x, .inr (11, [.ref lv, .ref kp, .ref tr_, .ref sh, .ref er, .ref re, .ref fi, .ref vo, .int 0])), (er, .inl (cy 0, 7, .inl fe)), (lv, .inr (10, [.ref st, .ref la, .ref le, .ref ta, .ref wa, .ref wk, .int 0, .int (nI (i + 1))])), (st, .inr (7, [.ref oc, .ref ki, .ref ce, .ref si, .ref sp, .int 0]))] H := hP
          have hD : va_D A [(x, .inr (11, [.ref lv, .ref kp, .ref tr_, .ref sh, .ref er, .ref re, .ref fi, .ref vo, .int 0])), (er, .inl (cy 0, 7, .inl fe)), (lv, .inr (10, [.ref st, .ref la, .ref le, .ref ta, .ref wa, .ref wk, .int 0, .int (nI (i + 1))])), (st, .inr (7, [.ref oc, .ref ki, .ref ce, .ref si, .ref sp, .int 0]))] := hD
          refine lv_iinc (v := (nI (i + 1))) (lv' := [(2, .int (nI (i + 1))), (0, .ref x), (1, .int (nI kn))]) hx hb dX11_tenths_51 hl (k := 0) rfl (nI_1 (i)) (by decide) rfl (fun ls hl => ?_)
          refine lv_goto (tgt := 39) hx hb dX11_tenths_54 (by decide) ?_
          exact ih (i + 1) hlt (by omega)  _ _ hP hD hS ls (lv_sub hl [0, 1, 2] rfl)
        · have hie : kn = i := Nat.le_antisymm hge hi
          subst hie
          refine lv_iload_n hx hb dX11_tenths_39 rfl (lv_at hl 0 rfl) ?_
          refine lv_iload_n hx hb dX11_tenths_40 rfl (lv_at hl 2 rfl) ?_
          refine lv_icmp_ge (tgt := 57) hx hb dX11_tenths_41 (by decide) (fun _ => ?_) (fun h9 => absurd (Int32.le_refl _) h9)
          refine lv_aload_n hx hb dX11_tenths_57 rfl (lv_at hl 1 rfl) ?_
          refine va_get (D := G) (ci := 11) (v := .ref lv) (C := RX11) (T := TX11) (N := 9) hx hb hts inB11 hown hE.1 hP 0 rfl rfl 0 (by decide) (hts _ m_459) (fun _ h9 => h9) rfl dX11_tenths_58 ?_
          refine va_getN (D := G) (ci := 10) (v := .int (nI kn)) (C := RX10) (T := TX10) (N := 8) hx hb hts inB10 hown hE.1 hP 2 rfl rfl 7 (by decide) (nf_RX11_290 hE) (fun _ h9 => h9) rfl dX11_tenths_61 ?_
          refine W.widen (k := 0) (n := 0) (by first | exact Nat.le_of_ble_eq_true rfl | omega) (by first | exact Nat.le_of_ble_eq_true rfl | omega) ?_
          exact W.iret (v := (nI kn)) hx hb hr (fun t ht hW => ⟨⟨(nI kn), (), rfl, (lf_c_X11_tenths_1 an kn h_2 hkn ean hkb), trivial⟩, hS.F ht⟩) hS.2.2 dX11_tenths_64
    exact lp (kn + 1) 0 (Nat.zero_le _) (by omega)  _ _ hP hD hS ls (lv_sub hl [0, 1, 2] rfl)
  · refine lv_if_ne (tgt := 16) hx hb dX11_tenths_7 (by decide) (fun h9 => absurd h9 (by decide)) (fun _ => ?_)
    refine lv_aload_n hx hb dX11_tenths_10 rfl (lv_at hl 0 rfl) ?_
    refine lv_iconst (v := 1) hx hb dX11_tenths_11 (by decide) ?_
    refine wV (B := (fun _ => True)) (wr := [(lv, .inr (10, [.ref st, .ref la, .ref le, .ref ta, .ref wa, .ref wk, .int 0, .int 0])), (st, .inr (7, [.ref oc, .ref ki, .ref ce, .ref si, .ref sp, .int 0]))]) (rest := []) hx hb hml hown hts hE (c_X11_error l G cy sk s.heap.size x lv kp tr_ sh er re fi vo fe 1 (-1000001) 0 (by first | decide | (unfold inR; decide)) (by decide)) kV_X11_error m_500 rfl rfl ⟨(Nat.le_of_ble_eq_true rfl), (Nat.le_of_ble_eq_true rfl)⟩ hP hD hS hA 0 rfl rfl rfl [0, 1] [2, 3] rfl rfl rfl rfl (by decide) rfl rfl hl.1 (Nat.le_of_ble_eq_true rfl) dX11_tenths_12 ⟨(Nat.le_of_ble_eq_true rfl), (Nat.le_of_ble_eq_true rfl)⟩ (fun r_4 H locs hr_ haf hS => ?_)
    obtain ⟨-, -, hP, hD⟩ := haf
    have hP : va_P G classes [(lv, .inr (10, [.ref st, .ref la, .ref le, .ref ta, .ref wa, .ref wk, .int 0, .int 0])), (st, .inr (7, [.ref oc, .ref ki, .ref ce, .ref si, .ref sp, .int 0]))] H := hP
    have hD : va_D A [(lv, .inr (10, [.ref st, .ref la, .ref le, .ref ta, .ref wa, .ref wk, .int 0, .int 0])), (st, .inr (7, [.ref oc, .ref ki, .ref ce, .ref si, .ref sp, .int 0]))] := hD
    subst hr_
    refine W.widen (k := 0) (n := 0) (by first | exact Nat.le_of_ble_eq_true rfl | omega) (by first | exact Nat.le_of_ble_eq_true rfl | omega) ?_
    exact W.iret (v := (-1000001)) hx hb hr (fun t ht hW => ⟨⟨(-1000001), (), rfl, (lf_c_X11_tenths_2 an h_2), trivial⟩, hS.F ht⟩) hS.2.2 dX11_tenths_15
theorem lf_c_X11_lesson_0 (a1 : Int32) (a2 : Int32) (a3 : Int32) (h_2 : inR a1 0 31) (h_4 : inR a2 0 31) (h_6 : inR a3 1 99) : (0 : Int32) = (F_lesson a1 a2 a3) := by first | (simp only [F_lesson, *, and_true, true_and, and_false, false_and, if_true, if_false]; done) | (simp [F_lesson, *]; done) | (unfold F_lesson; simp_all; done)
theorem lf_c_X11_lesson_1 (a1 : Int32) (a2 : Int32) (a3 : Int32) (h_2 : inR a1 0 31) (h_4 : inR a2 0 31) (h_6 : ¬ inR a3 1 99) : ((-1000001) : Int32) = (F_lesson a1 a2 a3) := by first | (simp only [F_lesson, *, and_true, true_and, and_false, false_and, if_true, if_false]; done) | (simp [F_lesson, *]; done) | (unfold F_lesson; simp_all; done)
theorem lf_c_X11_lesson_2 (a1 : Int32) (a2 : Int32) (a3 : Int32) (h_2 : inR a1 0 31) (h_4 : ¬ inR a2 0 31) : ((-1000001) : Int32) = (F_lesson a1 a2 a3) := by first | (simp only [F_lesson, *, and_true, true_and, and_false, false_and, if_true, if_false]; done) | (simp [F_lesson, *]; done) | (unfold F_lesson; simp_all; done)
theorem lf_c_X11_lesson_3 (a1 : Int32) (a2 : Int32) (a3 : Int32) (h_2 : ¬ inR a1 0 31) : ((-1000001) : Int32) = (F_lesson a1 a2 a3) := by first | (simp only [F_lesson, *, and_true, true_and, and_false, false_and, if_true, if_false]; done) | (simp [F_lesson, *]; done) | (unfold F_lesson; simp_all; done)
set_option maxHeartbeats 4000000 in
set_option maxRecDepth 100000 in
theorem c_X11_lesson (l : Launch) (G : va_G) (cy : Nat → ClassId) (sk : Nat → Nat) (sz : Nat) (x : Nat) (lv : Nat) (kp : Nat) (tr_ : Nat) (sh : Nat) (er : Nat) (re : Nat) (fi : Nat) (vo : Nat) (fe : Nat → Int32) (lv : Nat) (st : Nat) (la : Nat) (le : Nat) (ta : Nat) (wa : Nat) (wk : Nat) (te : Nat) (ne : Nat) (mi : Nat) (tr : Nat) (be : Nat) (a1 : Int32) (a2 : Int32) (a3 : Int32)  : Met l yX11_lesson (wsO yX11_lesson cX11_lesson 4 (some .int)) ({ frames := 2, cells := 0, slots := 0, locals := 42 }) (va_Pc [.ref x, .int a1, .int a2, .int a3] (PR G cy sk sz [(x, .inr (11, [.ref lv, .ref kp, .ref tr_, .ref sh, .ref er, .ref re, .ref fi, .ref vo, .int 0])), (er, .inl (cy 0, 7, .inl fe)), (lv, .inr (10, [.ref st, .ref la, .ref le, .ref ta, .ref wa, .ref wk, .int 0, .int 0])), (le, .inr (3, [.ref te, .ref ne, .ref mi, .int 0, .ref tr, .ref be, .int 0, .int 0, .int 0])), (te, .inl (cy 0, 7, .inl (fun _ => 0))), (ne, .inl (cy 0, 7, .inl (fun _ => 0))), (mi, .inl (cy 0, 7, .inl (fun _ => 0)))])) (va_Qi (fun r (_ : Unit) => r = (F_lesson a1 a2 a3)) (fun _ _ => True) (va_A [(x, .inr (11, [.ref lv, .ref kp, .ref tr_, .ref sh, .ref er, .ref re, .ref fi, .ref vo, .int 0])), (er, .inl (cy 0, 7, .inl fe)), (lv, .inr (10, [.ref st, .ref la, .ref le, .ref ta, .ref wa, .ref wk, .int 0, .int 0])), (le, .inr (3, [.ref te, .ref ne, .ref mi, .int 0, .ref tr, .ref be, .int 0, .int 0, .int 0])), (te, .inl (cy 0, 7, .inl (fun _ => 0))), (ne, .inl (cy 0, 7, .inl (fun _ => 0))), (mi, .inl (cy 0, 7, .inl (fun _ => 0)))] sz)) 0 0 (va_A [(x, .inr (11, [.ref lv, .ref kp, .ref tr_, .ref sh, .ref er, .ref re, .ref fi, .ref vo, .int 0])), (er, .inl (cy 0, 7, .inl fe)), (lv, .inr (10, [.ref st, .ref la, .ref le, .ref ta, .ref wa, .ref wk, .int 0, .int 0])), (le, .inr (3, [.ref te, .ref ne, .ref mi, .int 0, .ref tr, .ref be, .int 0, .int 0, .int 0])), (te, .inl (cy 0, 7, .inl (fun _ => 0))), (ne, .inl (cy 0, 7, .inl (fun _ => 0))), (mi, .inl (cy 0, 7, .inl (fun _ => 0)))] sz) := by
  refine mt (by decide) (Nat.le_of_ble_eq_true rfl) ?_
  intro p e s m below meth c ls hx hb hr hml hts hown hlocks hin hsz hP hE hD hl
  subst hsz
  have hl : lv_has ls 4 [(0, .ref x), (1, .int a1), (2, .int a2), (3, .int a3)] := hl
  have hD := hD.self (sz := s.heap.size)
  generalize hAe : va_A [(x, .inr (11, [.ref lv, .ref kp, .ref tr_, .ref sh, .ref er, .ref re, .ref fi, .ref vo, .int 0])), (er, .inl (cy 0, 7, .inl fe)), (lv, .inr (10, [.ref st, .ref la, .ref le, .ref ta, .ref wa, .ref wk, .int 0, .int 0])), (le, .inr (3, [.ref te, .ref ne, .ref mi, .int 0, .ref tr, .ref be, .int 0, .int 0, .int 0])), (te, .inl (cy 0, 7, .inl (fun _ => 0))), (ne, .inl (cy 0, 7, .inl (fun _ => 0))), (mi, .inl (cy 0, 7, .inl (fun _ => 0)))] s.heap.size = A at hD ⊢
  have hA : ∀ q : Nat, s.heap.size ≤ q → A q := fun q h => by rw [← hAe]; exact Or.inr h
  have hS : va_S A s.heap s.heap [] := va_S.rf
  refine lv_iload_n hx hb dX11_lesson_0 rfl (lv_at hl 1 rfl) ?_
  refine rS (rest := []) hx hb hml hown hts hE (c_X11_isBits l G cy sk s.heap.size a1) kS_X11_isBits m_1114 rfl rfl ⟨(Nat.le_of_ble_eq_true rfl), (Nat.le_of_ble_eq_true rfl)⟩ hP hD [] rfl rfl rfl rfl hl.1 (Nat.le_of_ble_eq_true rfl) dX11_lesson_1 ⟨(Nat.le_of_ble_eq_true rfl), (Nat.le_of_ble_eq_true rfl)⟩ (fun r_1 hr_ => ?_)
  rcases hr_ with ⟨rfl, h_2⟩ | ⟨rfl, h_2⟩
  · refine lv_if_eq (tgt := 24) hx hb dX11_lesson_4 (by decide) (fun h9 => absurd h9 (by decide)) (fun _ => ?_)
    refine lv_iload_n hx hb dX11_lesson_7 rfl (lv_at hl 2 rfl) ?_
    refine rS (rest := []) hx hb hml hown hts hE (c_X11_isBits l G cy sk s.heap.size a2) kS_X11_isBits m_1114 rfl rfl ⟨(Nat.le_of_ble_eq_true rfl), (Nat.le_of_ble_eq_true rfl)⟩ hP hD [] rfl rfl rfl rfl hl.1 (Nat.le_of_ble_eq_true rfl) dX11_lesson_8 ⟨(Nat.le_of_ble_eq_true rfl), (Nat.le_of_ble_eq_true rfl)⟩ (fun r_3 hr_ => ?_)
    rcases hr_ with ⟨rfl, h_4⟩ | ⟨rfl, h_4⟩
    · refine lv_if_eq (tgt := 24) hx hb dX11_lesson_11 (by decide) (fun h9 => absurd h9 (by decide)) (fun _ => ?_)
      refine lv_iload_n hx hb dX11_lesson_14 rfl (lv_at hl 3 rfl) ?_
      refine lv_iconst (v := 1) hx hb dX11_lesson_15 (by decide) ?_
      refine lv_bipush (v := 99) hx hb dX11_lesson_16 (by decide) ?_
      refine rS (rest := []) hx hb hml hown hts hE (c_X11_within l G cy sk s.heap.size a3 1 99) kS_X11_within m_494 rfl rfl ⟨(Nat.le_of_ble_eq_true rfl), (Nat.le_of_ble_eq_true rfl)⟩ hP hD [] rfl rfl rfl rfl hl.1 (Nat.le_of_ble_eq_true rfl) dX11_lesson_18 ⟨(Nat.le_of_ble_eq_true rfl), (Nat.le_of_ble_eq_true rfl)⟩ (fun r_5 hr_ => ?_)
      rcases hr_ with ⟨rfl, h_6⟩ | ⟨rfl, h_6⟩
      · refine lv_if_ne (tgt := 30) hx hb dX11_lesson_21 (by decide) (fun _ => ?_) (fun h9 => absurd h9 (by decide))
        refine lv_aload_n hx hb dX11_lesson_30 rfl (lv_at hl 0 rfl) ?_
        refine va_get (D := G) (ci := 11) (v := .ref lv) (C := RX11) (T := TX11) (N := 9) hx hb hts inB11 hown hE.1 hP 0 rfl rfl 0 (by decide) (hts _ m_459) (fun _ h9 => h9) rfl dX11_lesson_31 ?_
        refine va_getN (D := G) (ci := 10) (v := .ref le) (C := RX10) (T := TX10) (N := 8) hx hb hts inB10 hown hE.1 hP 2 rfl rfl 2 (by decide) (nf_RX11_313 hE) (fun _ h9 => h9) rfl dX11_lesson_34 ?_
        refine rV (rest := []) hx hb hml hown hts hE (c_X3_hasRoom l G cy sk s.heap.size le te ne mi tr be 0 0) kV_X3_hasRoom m_1117 rfl rfl ⟨(Nat.le_of_ble_eq_true rfl), (Nat.le_of_ble_eq_true rfl)⟩ hP hD 3 rfl rfl rfl [3] rfl rfl rfl rfl hl.1 (Nat.le_of_ble_eq_true rfl) dX11_lesson_37 ⟨(Nat.le_of_ble_eq_true rfl), (Nat.le_of_ble_eq_true rfl)⟩ (fun r_7 hr_ => ?_)
        subst hr_
        refine lv_if_ne (tgt := 49) hx hb dX11_lesson_40 (by decide) (fun _ => ?_) (fun h9 => absurd h9 (by decide))
        refine lv_aload_n hx hb dX11_lesson_49 rfl (lv_at hl 0 rfl) ?_
        refine va_get (D := G) (ci := 11) (v := .ref lv) (C := RX11) (T := TX11) (N := 9) hx hb hts inB11 hown hE.1 hP 0 rfl rfl 0 (by decide) (hts _ m_459) (fun _ h9 => h9) rfl dX11_lesson_50 ?_
        refine va_getN (D := G) (ci := 10) (v := .ref le) (C := RX10) (T := TX10) (N := 8) hx hb hts inB10 hown hE.1 hP 2 rfl rfl 2 (by decide) (nf_RX11_313 hE) (fun _ h9 => h9) rfl dX11_lesson_53 ?_
        refine lv_iload_n hx hb dX11_lesson_56 rfl (lv_at hl 1 rfl) ?_
        refine lv_iload_n hx hb dX11_lesson_57 rfl (lv_at hl 2 rfl) ?_
        refine lv_iload_n hx hb dX11_lesson_58 rfl (lv_at hl 3 rfl) ?_
        refine wV (B := (fun _ => True)) (wr := [(x, .inr (11, [.ref lv, .ref kp, .ref tr_, .ref sh, .ref er, .ref re, .ref fi, .ref vo, .int 0])), (er, .inl (cy 0, 7, .inl fe)), (lv, .inr (10, [.ref st, .ref la, .ref le, .ref ta, .ref wa, .ref wk, .int 0, .int 0]))]) (rest := []) hx hb hml hown hts hE (c_X3_add l G cy sk s.heap.size le te ne mi tr be 0 0 (fun _ => 0) (fun _ => 0) (fun _ => 0) a1 a2 a3) kV_X3_add m_1121 rfl rfl ⟨(Nat.le_of_ble_eq_true rfl), (Nat.le_of_ble_eq_true rfl)⟩ hP hD hS hA 3 rfl rfl rfl [3, 4, 5, 6] [0, 1, 2] rfl rfl rfl rfl (by decide) rfl rfl hl.1 (Nat.le_of_ble_eq_true rfl) dX11_lesson_59 ⟨(Nat.le_of_ble_eq_true rfl), (Nat.le_of_ble_eq_true rfl)⟩ (fun r_8 H locs hr_ haf hS => ?_)
        obtain ⟨-, -, hP, hD⟩ := haf
        have hP : va_P G classes [(x, .inr (11, [.ref lv, .ref kp, .ref tr_, .ref sh, .ref er, .ref re, .ref fi, .ref vo, .int 0])), (er, .inl (cy 0, 7, .inl fe)), (lv, .inr (10, [.ref st, .ref la, .ref le, .ref ta, .ref wa, .ref wk, .int 0, .int 0]))] H := hP
        have hD : va_D A [(x, .inr (11, [.ref lv, .ref kp, .ref tr_, .ref sh, .ref er, .ref re, .ref fi, .ref vo, .int 0])), (er, .inl (cy 0, 7, .inl fe)), (lv, .inr (10, [.ref st, .ref la, .ref le, .ref ta, .ref wa, .ref wk, .int 0, .int 0]))] := hD
        subst hr_
        refine W.widen (k := 0) (n := 0) (by first | exact Nat.le_of_ble_eq_true rfl | omega) (by first | exact Nat.le_of_ble_eq_true rfl | omega) ?_
        exact W.iret (v := 0) hx hb hr (fun t ht hW => ⟨⟨0, (), rfl, (lf_c_X11_lesson_0 a1 a2 a3 h_2 h_4 h_6), trivial⟩, hS.F ht⟩) hS.2.2 dX11_lesson_62
      · refine lv_if_ne (tgt := 30) hx hb dX11_lesson_21 (by decide) (fun h9 => absurd h9 (by decide)) (fun _ => ?_)
        refine lv_aload_n hx hb dX11_lesson_24 rfl (lv_at hl 0 rfl) ?_
        refine lv_iconst (v := 1) hx hb dX11_lesson_25 (by decide) ?_
        refine wV (B := (fun _ => True)) (wr := [(lv, .inr (10, [.ref st, .ref la, .ref le, .ref ta, .ref wa, .ref wk, .int 0, .int 0])), (le, .inr (3, [.ref te, .ref ne, .ref mi, .int 0, .ref tr, .ref be, .int 0, .int 0, .int 0])), (te, .inl (cy 0, 7, .inl (fun _ => 0))), (ne, .inl (cy 0, 7, .inl (fun _ => 0))), (mi, .inl (cy 0, 7, .inl (fun _ => 0)))]) (rest := []) hx hb hml hown hts hE (c_X11_error l G cy sk s.heap.size x lv kp tr_ sh er re fi vo fe 1 (-1000001) 0 (by first | decide | (unfold inR; decide)) (by decide)) kV_X11_error m_500 rfl rfl ⟨(Nat.le_of_ble_eq_true rfl), (Nat.le_of_ble_eq_true rfl)⟩ hP hD hS hA 0 rfl rfl rfl [0, 1] [2, 3, 4, 5, 6] rfl rfl rfl rfl (by decide) rfl rfl hl.1 (Nat.le_of_ble_eq_true rfl) dX11_lesson_26 ⟨(Nat.le_of_ble_eq_true rfl), (Nat.le_of_ble_eq_true rfl)⟩ (fun r_9 H locs hr_ haf hS => ?_)
        obtain ⟨-, -, hP, hD⟩ := haf
        have hP : va_P G classes [(lv, .inr (10, [.ref st, .ref la, .ref le, .ref ta, .ref wa, .ref wk, .int 0, .int 0])), (le, .inr (3, [.ref te, .ref ne, .ref mi, .int 0, .ref tr, .ref be, .int 0, .int 0, .int 0])), (te, .inl (cy 0, 7, .inl (fun _ => 0))), (ne, .inl (cy 0, 7, .inl (fun _ => 0))), (mi, .inl (cy 0, 7, .inl (fun _ => 0)))] H := hP
        have hD : va_D A [(lv, .inr (10, [.ref st, .ref la, .ref le, .ref ta, .ref wa, .ref wk, .int 0, .int 0])), (le, .inr (3, [.ref te, .ref ne, .ref mi, .int 0, .ref tr, .ref be, .int 0, .int 0, .int 0])), (te, .inl (cy 0, 7, .inl (fun _ => 0))), (ne, .inl (cy 0, 7, .inl (fun _ => 0))), (mi, .inl (cy 0, 7, .inl (fun _ => 0)))] := hD
        subst hr_
        refine W.widen (k := 0) (n := 0) (by first | exact Nat.le_of_ble_eq_true rfl | omega) (by first | exact Nat.le_of_ble_eq_true rfl | omega) ?_
        exact W.iret (v := (-1000001)) hx hb hr (fun t ht hW => ⟨⟨(-1000001), (), rfl, (lf_c_X11_lesson_1 a1 a2 a3 h_2 h_4 h_6), trivial⟩, hS.F ht⟩) hS.2.2 dX11_lesson_29
    · refine lv_if_eq (tgt := 24) hx hb dX11_lesson_11 (by decide) (fun _ => ?_) (fun h9 => absurd h9 (by decide))
      refine lv_aload_n hx hb dX11_lesson_24 rfl (lv_at hl 0 rfl) ?_
      refine lv_iconst (v := 1) hx hb dX11_lesson_25 (by decide) ?_
      refine wV (B := (fun _ => True)) (wr := [(lv, .inr (10, [.ref st, .ref la, .ref le, .ref ta, .ref wa, .ref wk, .int 0, .int 0])), (le, .inr (3, [.ref te, .ref ne, .ref mi, .int 0, .ref tr, .ref be, .int 0, .int 0, .int 0])), (te, .inl (cy 0, 7, .inl (fun _ => 0))), (ne, .inl (cy 0, 7, .inl (fun _ => 0))), (mi, .inl (cy 0, 7, .inl (fun _ => 0)))]) (rest := []) hx hb hml hown hts hE (c_X11_error l G cy sk s.heap.size x lv kp tr_ sh er re fi vo fe 1 (-1000001) 0 (by first | decide | (unfold inR; decide)) (by decide)) kV_X11_error m_500 rfl rfl ⟨(Nat.le_of_ble_eq_true rfl), (Nat.le_of_ble_eq_true rfl)⟩ hP hD hS hA 0 rfl rfl rfl [0, 1] [2, 3, 4, 5, 6] rfl rfl rfl rfl (by decide) rfl rfl hl.1 (Nat.le_of_ble_eq_true rfl) dX11_lesson_26 ⟨(Nat.le_of_ble_eq_true rfl), (Nat.le_of_ble_eq_true rfl)⟩ (fun r_10 H locs hr_ haf hS => ?_)
      obtain ⟨-, -, hP, hD⟩ := haf
      have hP : va_P G classes [(lv, .inr (10, [.ref st, .ref la, .ref le, .ref ta, .ref wa, .ref wk, .int 0, .int 0])), (le, .inr (3, [.ref te, .ref ne, .ref mi, .int 0, .ref tr, .ref be, .int 0, .int 0, .int 0])), (te, .inl (cy 0, 7, .inl (fun _ => 0))), (ne, .inl (cy 0, 7, .inl (fun _ => 0))), (mi, .inl (cy 0, 7, .inl (fun _ => 0)))] H := hP
      have hD : va_D A [(lv, .inr (10, [.ref st, .ref la, .ref le, .ref ta, .ref wa, .ref wk, .int 0, .int 0])), (le, .inr (3, [.ref te, .ref ne, .ref mi, .int 0, .ref tr, .ref be, .int 0, .int 0, .int 0])), (te, .inl (cy 0, 7, .inl (fun _ => 0))), (ne, .inl (cy 0, 7, .inl (fun _ => 0))), (mi, .inl (cy 0, 7, .inl (fun _ => 0)))] := hD
      subst hr_
      refine W.widen (k := 0) (n := 0) (by first | exact Nat.le_of_ble_eq_true rfl | omega) (by first | exact Nat.le_of_ble_eq_true rfl | omega) ?_
      exact W.iret (v := (-1000001)) hx hb hr (fun t ht hW => ⟨⟨(-1000001), (), rfl, (lf_c_X11_lesson_2 a1 a2 a3 h_2 h_4), trivial⟩, hS.F ht⟩) hS.2.2 dX11_lesson_29
  · refine lv_if_eq (tgt := 24) hx hb dX11_lesson_4 (by decide) (fun _ => ?_) (fun h9 => absurd h9 (by decide))
    refine lv_aload_n hx hb dX11_lesson_24 rfl (lv_at hl 0 rfl) ?_
    refine lv_iconst (v := 1) hx hb dX11_lesson_25 (by decide) ?_
    refine wV (B := (fun _ => True)) (wr := [(lv, .inr (10, [.ref st, .ref la, .ref le, .ref ta, .ref wa, .ref wk, .int 0, .int 0])), (le, .inr (3, [.ref te, .ref ne, .ref mi, .int 0, .ref tr, .ref be, .int 0, .int 0, .int 0])), (te, .inl (cy 0, 7, .inl (fun _ => 0))), (ne, .inl (cy 0, 7, .inl (fun _ => 0))), (mi, .inl (cy 0, 7, .inl (fun _ => 0)))]) (rest := []) hx hb hml hown hts hE (c_X11_error l G cy sk s.heap.size x lv kp tr_ sh er re fi vo fe 1 (-1000001) 0 (by first | decide | (unfold inR; decide)) (by decide)) kV_X11_error m_500 rfl rfl ⟨(Nat.le_of_ble_eq_true rfl), (Nat.le_of_ble_eq_true rfl)⟩ hP hD hS hA 0 rfl rfl rfl [0, 1] [2, 3, 4, 5, 6] rfl rfl rfl rfl (by decide) rfl rfl hl.1 (Nat.le_of_ble_eq_true rfl) dX11_lesson_26 ⟨(Nat.le_of_ble_eq_true rfl), (Nat.le_of_ble_eq_true rfl)⟩ (fun r_11 H locs hr_ haf hS => ?_)
    obtain ⟨-, -, hP, hD⟩ := haf
    have hP : va_P G classes [(lv, .inr (10, [.ref st, .ref la, .ref le, .ref ta, .ref wa, .ref wk, .int 0, .int 0])), (le, .inr (3, [.ref te, .ref ne, .ref mi, .int 0, .ref tr, .ref be, .int 0, .int 0, .int 0])), (te, .inl (cy 0, 7, .inl (fun _ => 0))), (ne, .inl (cy 0, 7, .inl (fun _ => 0))), (mi, .inl (cy 0, 7, .inl (fun _ => 0)))] H := hP
    have hD : va_D A [(lv, .inr (10, [.ref st, .ref la, .ref le, .ref ta, .ref wa, .ref wk, .int 0, .int 0])), (le, .inr (3, [.ref te, .ref ne, .ref mi, .int 0, .ref tr, .ref be, .int 0, .int 0, .int 0])), (te, .inl (cy 0, 7, .inl (fun _ => 0))), (ne, .inl (cy 0, 7, .inl (fun _ => 0))), (mi, .inl (cy 0, 7, .inl (fun _ => 0)))] := hD
    subst hr_
    refine W.widen (k := 0) (n := 0) (by first | exact Nat.le_of_ble_eq_true rfl | omega) (by first | exact Nat.le_of_ble_eq_true rfl | omega) ?_
    exact W.iret (v := (-1000001)) hx hb hr (fun t ht hW => ⟨⟨(-1000001), (), rfl, (lf_c_X11_lesson_3 a1 a2 a3 h_2), trivial⟩, hS.F ht⟩) hS.2.2 dX11_lesson_29
theorem kf_c_X11_learn_0 (aa : Int32) (c_5 : (-2) ≤ aa) (c_9 : ¬ aa = (-1)) (c_10 : ¬ aa = (-2)) (h9 : ¬ 0 ≤ aa) : False := by simp only [inR, Int32.le_iff_toInt_le, Int32.lt_iff_toInt_lt, ← Int32.toInt_inj] at *; simp at *; omega
theorem lf_c_X11_learn_1 (akn : Int32) (aw : Int32) (aa : Int32) (h_2 : inR akn 0 31) (h_4 : inR aw 0 31) (c_5 : (-2) ≤ aa) (h_8 : (aw &&& (akn ^^^ (-1))) = 0) (c_9 : ¬ aa = (-1)) (c_10 : ¬ aa = (-2)) (c_11 : 0 ≤ aa) : ((-1000002) : Int32) = (F_learn akn aw aa) := by first | (simp only [F_learn]; rw [if_pos ⟨h_2, h_4, c_5⟩, if_neg]; exact fun q => absurd q.2 (Int32.not_lt.mpr (by assumption))) | (simp only [F_learn, *, and_true, true_and, and_false, false_and, if_true, if_false]; done) | (simp [F_learn, *]; done) | (subst_vars; simp [F_learn, *]; done) | (simp only [F_learn]; simp_all; done)
theorem lf_c_X11_learn_2 (akn : Int32) (aw : Int32) (aa : Int32) (h_2 : inR akn 0 31) (h_4 : inR aw 0 31) (c_5 : (-2) ≤ aa) (h_8 : (aw &&& (akn ^^^ (-1))) = 0) (c_9 : ¬ aa = (-1)) (c_10 : aa = (-2)) : (0 : Int32) = (F_learn akn aw aa) := by first | (simp only [F_learn]; rw [if_pos ⟨h_2, h_4, c_5⟩, if_neg]; exact fun q => absurd q.2 (Int32.not_lt.mpr (by assumption))) | (simp only [F_learn, *, and_true, true_and, and_false, false_and, if_true, if_false]; done) | (simp [F_learn, *]; done) | (subst_vars; simp [F_learn, *]; done) | (simp only [F_learn]; simp_all; done)
theorem lf_c_X11_learn_3 (akn : Int32) (aw : Int32) (aa : Int32) (h_2 : inR akn 0 31) (h_4 : inR aw 0 31) (c_5 : (-2) ≤ aa) (h_8 : (aw &&& (akn ^^^ (-1))) = 0) (c_9 : aa = (-1)) : (0 : Int32) = (F_learn akn aw aa) := by first | (simp only [F_learn]; rw [if_pos ⟨h_2, h_4, c_5⟩, if_neg]; exact fun q => absurd q.2 (Int32.not_lt.mpr (by assumption))) | (simp only [F_learn, *, and_true, true_and, and_false, false_and, if_true, if_false]; done) | (simp [F_learn, *]; done) | (subst_vars; simp [F_learn, *]; done) | (simp only [F_learn]; simp_all; done)
theorem lf_c_X11_learn_4 (akn : Int32) (aw : Int32) (aa : Int32) (h_2 : inR akn 0 31) (h_4 : inR aw 0 31) (c_5 : (-2) ≤ aa) (h_8 : ¬ (aw &&& (akn ^^^ (-1))) = 0) : ((-1000002) : Int32) = (F_learn akn aw aa) := by first | (simp only [F_learn]; rw [if_pos ⟨h_2, h_4, c_5⟩, if_neg]; exact fun q => absurd q.2 (Int32.not_lt.mpr (by assumption))) | (simp only [F_learn, *, and_true, true_and, and_false, false_and, if_true, if_false]; done) | (simp [F_learn, *]; done) | (subst_vars; simp [F_learn, *]; done) | (simp only [F_learn]; simp_all; done)
theorem lf_c_X11_learn_5 (akn : Int32) (aw : Int32) (aa : Int32) (h_2 : inR akn 0 31) (h_4 : inR aw 0 31) (c_5 : ¬ (-2) ≤ aa) : ((-1000001) : Int32) = (F_learn akn aw aa) := by first | (simp only [F_learn]; rw [if_pos ⟨h_2, h_4, c_5⟩, if_neg]; exact fun q => absurd q.2 (Int32.not_lt.mpr (by assumption))) | (simp only [F_learn, *, and_true, true_and, and_false, false_and, if_true, if_false]; done) | (simp [F_learn, *]; done) | (subst_vars; simp [F_learn, *]; done) | (simp only [F_learn]; simp_all; done)
theorem lf_c_X11_learn_6 (akn : Int32) (aw : Int32) (aa : Int32) (h_2 : inR akn 0 31) (h_4 : ¬ inR aw 0 31) : ((-1000001) : Int32) = (F_learn akn aw aa) := by first | (simp only [F_learn]; rw [if_pos ⟨h_2, h_4, c_5⟩, if_neg]; exact fun q => absurd q.2 (Int32.not_lt.mpr (by assumption))) | (simp only [F_learn, *, and_true, true_and, and_false, false_and, if_true, if_false]; done) | (simp [F_learn, *]; done) | (subst_vars; simp [F_learn, *]; done) | (simp only [F_learn]; simp_all; done)
theorem lf_c_X11_learn_7 (akn : Int32) (aw : Int32) (aa : Int32) (h_2 : ¬ inR akn 0 31) : ((-1000001) : Int32) = (F_learn akn aw aa) := by first | (simp only [F_learn]; rw [if_pos ⟨h_2, h_4, c_5⟩, if_neg]; exact fun q => absurd q.2 (Int32.not_lt.mpr (by assumption))) | (simp only [F_learn, *, and_true, true_and, and_false, false_and, if_true, if_false]; done) | (simp [F_learn, *]; done) | (subst_vars; simp [F_learn, *]; done) | (simp only [F_learn]; simp_all; done)
set_option maxHeartbeats 4000000 in
set_option maxRecDepth 100000 in
theorem c_X11_learn (l : Launch) (G : va_G) (cy : Nat → ClassId) (sk : Nat → Nat) (sz : Nat) (x : Nat) (lv : Nat) (kp : Nat) (tr_ : Nat) (sh : Nat) (er : Nat) (re : Nat) (fi : Nat) (vo : Nat) (fe : Nat → Int32) (lv : Nat) (st : Nat) (la : Nat) (le : Nat) (ta : Nat) (wa : Nat) (wk : Nat) (te : Nat) (ne : Nat) (mi : Nat) (tr : Nat) (be : Nat) (rta7 : Nat) (rba7 : Nat) (akn : Int32) (aw : Int32) (aa : Int32)  : Met l yX11_learn (wsO yX11_learn cX11_learn 5 (some .int)) ({ frames := 4, cells := 0, slots := 0, locals := 82 }) (va_Pc [.ref x, .int akn, .int aw, .int aa] (PR G cy sk sz [(x, .inr (11, [.ref lv, .ref kp, .ref tr_, .ref sh, .ref er, .ref re, .ref fi, .ref vo, .int 0])), (er, .inl (cy 0, 7, .inl fe)), (lv, .inr (10, [.ref st, .ref la, .ref le, .ref ta, .ref wa, .ref wk, .int 0, .int 0])), (le, .inr (3, [.ref te, .ref ne, .ref mi, .int 0, .ref tr, .ref be, .int 0, .int 0, .int 0])), (te, .inl (cy 0, 7, .inl (fun _ => 0))), (ne, .inl (cy 0, 7, .inl (fun _ => 0))), (mi, .inl (cy 0, 7, .inl (fun _ => 0))), (tr, .inr (5, [.ref rta7, .int 0])), (rta7, .inl (cy 0, 7, .inl (fun _ => 0))), (be, .inr (5, [.ref rba7, .int 0])), (rba7, .inl (cy 0, 7, .inl (fun _ => 0)))])) (va_Qi (fun r (_ : Unit) => r = (F_learn akn aw aa)) (fun _ _ => True) (va_A [(x, .inr (11, [.ref lv, .ref kp, .ref tr_, .ref sh, .ref er, .ref re, .ref fi, .ref vo, .int 0])), (er, .inl (cy 0, 7, .inl fe)), (lv, .inr (10, [.ref st, .ref la, .ref le, .ref ta, .ref wa, .ref wk, .int 0, .int 0])), (le, .inr (3, [.ref te, .ref ne, .ref mi, .int 0, .ref tr, .ref be, .int 0, .int 0, .int 0])), (te, .inl (cy 0, 7, .inl (fun _ => 0))), (ne, .inl (cy 0, 7, .inl (fun _ => 0))), (mi, .inl (cy 0, 7, .inl (fun _ => 0))), (tr, .inr (5, [.ref rta7, .int 0])), (rta7, .inl (cy 0, 7, .inl (fun _ => 0))), (be, .inr (5, [.ref rba7, .int 0])), (rba7, .inl (cy 0, 7, .inl (fun _ => 0)))] sz)) 0 0 (va_A [(x, .inr (11, [.ref lv, .ref kp, .ref tr_, .ref sh, .ref er, .ref re, .ref fi, .ref vo, .int 0])), (er, .inl (cy 0, 7, .inl fe)), (lv, .inr (10, [.ref st, .ref la, .ref le, .ref ta, .ref wa, .ref wk, .int 0, .int 0])), (le, .inr (3, [.ref te, .ref ne, .ref mi, .int 0, .ref tr, .ref be, .int 0, .int 0, .int 0])), (te, .inl (cy 0, 7, .inl (fun _ => 0))), (ne, .inl (cy 0, 7, .inl (fun _ => 0))), (mi, .inl (cy 0, 7, .inl (fun _ => 0))), (tr, .inr (5, [.ref rta7, .int 0])), (rta7, .inl (cy 0, 7, .inl (fun _ => 0))), (be, .inr (5, [.ref rba7, .int 0])), (rba7, .inl (cy 0, 7, .inl (fun _ => 0)))] sz) := by
  refine mt (by decide) (Nat.le_of_ble_eq_true rfl) ?_
  intro p e s m below meth c ls hx hb hr hml hts hown hlocks hin hsz hP hE hD hl
  subst hsz
  have hl : lv_has ls 5 [(0, .ref x), (1, .int akn), (2, .int aw), (3, .int aa)] := hl
  have hD := hD.self (sz := s.heap.size)
  generalize hAe : va_A [(x, .inr (11, [.ref lv, .ref kp, .ref tr_, .ref sh, .ref er, .ref re, .ref fi, .ref vo, .int 0])), (er, .inl (cy 0, 7, .inl fe)), (lv, .inr (10, [.ref st, .ref la, .ref le, .ref ta, .ref wa, .ref wk, .int 0, .int 0])), (le, .inr (3, [.ref te, .ref ne, .ref mi, .int 0, .ref tr, .ref be, .int 0, .int 0, .int 0])), (te, .inl (cy 0, 7, .inl (fun _ => 0))), (ne, .inl (cy 0, 7, .inl (fun _ => 0))), (mi, .inl (cy 0, 7, .inl (fun _ => 0))), (tr, .inr (5, [.ref rta7, .int 0])), (rta7, .inl (cy 0, 7, .inl (fun _ => 0))), (be, .inr (5, [.ref rba7, .int 0])), (rba7, .inl (cy 0, 7, .inl (fun _ => 0)))] s.heap.size = A at hD ⊢
  have hA : ∀ q : Nat, s.heap.size ≤ q → A q := fun q h => by rw [← hAe]; exact Or.inr h
  have hS : va_S A s.heap s.heap [] := va_S.rf
  refine lv_iload_n hx hb dX11_learn_0 rfl (lv_at hl 1 rfl) ?_
  refine rS (rest := []) hx hb hml hown hts hE (c_X11_isBits l G cy sk s.heap.size akn) kS_X11_isBits m_1114 rfl rfl ⟨(Nat.le_of_ble_eq_true rfl), (Nat.le_of_ble_eq_true rfl)⟩ hP hD [] rfl rfl rfl rfl hl.1 (Nat.le_of_ble_eq_true rfl) dX11_learn_1 ⟨(Nat.le_of_ble_eq_true rfl), (Nat.le_of_ble_eq_true rfl)⟩ (fun r_1 hr_ => ?_)
  rcases hr_ with ⟨rfl, h_2⟩ | ⟨rfl, h_2⟩
  · refine lv_if_eq (tgt := 20) hx hb dX11_learn_4 (by decide) (fun h9 => absurd h9 (by decide)) (fun _ => ?_)
    refine lv_iload_n hx hb dX11_learn_7 rfl (lv_at hl 2 rfl) ?_
    refine rS (rest := []) hx hb hml hown hts hE (c_X11_isBits l G cy sk s.heap.size aw) kS_X11_isBits m_1114 rfl rfl ⟨(Nat.le_of_ble_eq_true rfl), (Nat.le_of_ble_eq_true rfl)⟩ hP hD [] rfl rfl rfl rfl hl.1 (Nat.le_of_ble_eq_true rfl) dX11_learn_8 ⟨(Nat.le_of_ble_eq_true rfl), (Nat.le_of_ble_eq_true rfl)⟩ (fun r_3 hr_ => ?_)
    rcases hr_ with ⟨rfl, h_4⟩ | ⟨rfl, h_4⟩
    · refine lv_if_eq (tgt := 20) hx hb dX11_learn_11 (by decide) (fun h9 => absurd h9 (by decide)) (fun _ => ?_)
      refine lv_iload_n hx hb dX11_learn_14 rfl (lv_at hl 3 rfl) ?_
      refine lv_bipush (v := (-2)) hx hb dX11_learn_15 (by decide) ?_
      refine lv_icmp_ge (tgt := 26) hx hb dX11_learn_17 (by decide) (fun c_5 => ?_) (fun c_5 => ?_)
      · refine lv_aload_n hx hb dX11_learn_26 rfl (lv_at hl 0 rfl) ?_
        refine va_get (D := G) (ci := 11) (v := .ref lv) (C := RX11) (T := TX11) (N := 9) hx hb hts inB11 hown hE.1 hP 0 rfl rfl 0 (by decide) (hts _ m_459) (fun _ h9 => h9) rfl dX11_learn_27 ?_
        refine va_getN (D := G) (ci := 10) (v := .ref le) (C := RX10) (T := TX10) (N := 8) hx hb hts inB10 hown hE.1 hP 2 rfl rfl 2 (by decide) (nf_RX11_313 hE) (fun _ h9 => h9) rfl dX11_learn_30 ?_
        refine lv_astore (lv' := [(4, .ref le), (0, .ref x), (1, .int akn), (2, .int aw), (3, .int aa)]) hx hb dX11_learn_33 hl (by decide) rfl (fun ls hl => ?_)
        refine lv_aload hx hb dX11_learn_35 (lv_at hl 0 rfl) ?_
        refine lv_iload_n hx hb dX11_learn_37 rfl (lv_at hl 2 rfl) ?_
        refine lv_iload_n hx hb dX11_learn_38 rfl (lv_at hl 3 rfl) ?_
        refine wV (B := (B_c_X3_findRow G cy (va_A [(le, .inr (3, [.ref te, .ref ne, .ref mi, .int 0, .ref tr, .ref be, .int 0, .int 0, .int 0])), (tr, .inr (5, [.ref rta7, .int 0])), (rta7, .inl (cy 0, 7, .inl (fun _ => 0))), (be, .inr (5, [.ref rba7, .int 0])), (rba7, .inl (cy 0, 7, .inl (fun _ => 0)))] s.heap.size) le te ne mi tr be rta7 rba7 (fun _ => 0) (fun _ => 0) akn aw 0)) (wr := [(x, .inr (11, [.ref lv, .ref kp, .ref tr_, .ref sh, .ref er, .ref re, .ref fi, .ref vo, .int 0])), (er, .inl (cy 0, 7, .inl fe)), (lv, .inr (10, [.ref st, .ref la, .ref le, .ref ta, .ref wa, .ref wk, .int 0, .int 0])), (te, .inl (cy 0, 7, .inl (fun _ => 0))), (ne, .inl (cy 0, 7, .inl (fun _ => 0))), (mi, .inl (cy 0, 7, .inl (fun _ => 0)))]) (rest := []) hx hb hml hown hts hE (c_X3_findRow l G cy sk s.heap.size le te ne mi tr be rta7 rba7 (fun _ => 0) (fun _ => 0) akn aw 0) kV_X3_findRow m_1129 rfl rfl ⟨(Nat.le_of_ble_eq_true rfl), (Nat.le_of_ble_eq_true rfl)⟩ hP hD hS hA 3 rfl rfl rfl [3, 7, 8, 9, 10] [0, 1, 2, 4, 5, 6] rfl rfl rfl rfl (by decide) rfl rfl hl.1 (Nat.le_of_ble_eq_true rfl) dX11_learn_39 ⟨(Nat.le_of_ble_eq_true rfl), (Nat.le_of_ble_eq_true rfl)⟩ (fun r_6 H locs hr_ haf hS => ?_)
        obtain ⟨xv7, hP1, hD1⟩ := haf.1
        obtain ⟨hP, hD⟩ := haf.2.1 _ hP1 hD1
        have hP : va_P G classes [(x, .inr (11, [.ref lv, .ref kp, .ref tr_, .ref sh, .ref er, .ref re, .ref fi, .ref vo, .int 0])), (er, .inl (cy 0, 7, .inl fe)), (lv, .inr (10, [.ref st, .ref la, .ref le, .ref ta, .ref wa, .ref wk, .int 0, .int 0])), (te, .inl (cy 0, 7, .inl (fun _ => 0))), (ne, .inl (cy 0, 7, .inl (fun _ => 0))), (mi, .inl (cy 0, 7, .inl (fun _ => 0))), (le, .inr (3, [.ref te, .ref ne, .ref mi, .int 0, .ref tr, .ref be, .int aw, .int 0, .int xv7])), (tr, .inr (5, [.ref rta7, .int 0])), (be, .inr (5, [.ref rba7, .int 0]))] H := hP
        have hD : va_D A [(x, .inr (11, [.ref lv, .ref kp, .ref tr_, .ref sh, .ref er, .ref re, .ref fi, .ref vo, .int 0])), (er, .inl (cy 0, 7, .inl fe)), (lv, .inr (10, [.ref st, .ref la, .ref le, .ref ta, .ref wa, .ref wk, .int 0, .int 0])), (te, .inl (cy 0, 7, .inl (fun _ => 0))), (ne, .inl (cy 0, 7, .inl (fun _ => 0))), (mi, .inl (cy 0, 7, .inl (fun _ => 0))), (le, .inr (3, [.ref te, .ref ne, .ref mi, .int 0, .ref tr, .ref be, .int aw, .int 0, .int xv7])), (tr, .inr (5, [.ref rta7, .int 0])), (be, .inr (5, [.ref rba7, .int 0]))] := hD
        rcases hr_ with ⟨rfl, h_8⟩ | ⟨rfl, h_8⟩
        · refine lv_if_ne (tgt := 51) hx hb dX11_learn_42 (by decide) (fun _ => ?_) (fun h9 => absurd h9 (by decide))
          refine lv_iload_n hx hb dX11_learn_51 rfl (lv_at hl 4 rfl) ?_
          refine lv_iconst (v := (-1)) hx hb dX11_learn_52 (by decide) ?_
          refine lv_icmp_ne (tgt := 62) hx hb dX11_learn_53 (by decide) (fun c_9 => ?_) (fun c_9 => ?_)
          · refine lv_iload_n hx hb dX11_learn_62 rfl (lv_at hl 4 rfl) ?_
            refine lv_bipush (v := (-2)) hx hb dX11_learn_63 (by decide) ?_
            refine lv_icmp_ne (tgt := 77) hx hb dX11_learn_65 (by decide) (fun c_10 => ?_) (fun c_10 => ?_)
            · refine lv_iload_n hx hb dX11_learn_77 rfl (lv_at hl 4 rfl) ?_
              refine lv_aload hx hb dX11_learn_78 (lv_at hl 0 rfl) ?_
              refine va_getN (D := G) (ci := 3) (v := .ref be) (C := RX3) (T := TX3) (N := 9) hx hb hts inB3 hown hE.1 hP 6 rfl rfl 5 (by decide) (nf_RX11_328 hE) (fun _ h9 => h9) rfl dX11_learn_80 ?_
              refine va_getN (D := G) (ci := 5) (v := .int 0) (C := RX5) (T := TX5) (N := 2) hx hb hts inB5 hown hE.1 hP 8 rfl rfl 1 (by decide) (nf_RX11_205 hE) (fun _ h9 => h9) rfl dX11_learn_83 ?_
              refine lv_icmp_ge (tgt := 101) hx hb dX11_learn_86 (by decide) (fun c_11 => ?_) (fun h9 => (kf_c_X11_learn_0 aa c_5 c_9 c_10 h9).elim)
              refine lv_aload_n hx hb dX11_learn_101 rfl (lv_at hl 1 rfl) ?_
              refine lv_iconst (v := 2) hx hb dX11_learn_102 (by decide) ?_
              refine wV (B := (fun _ => True)) (wr := [(lv, .inr (10, [.ref st, .ref la, .ref le, .ref ta, .ref wa, .ref wk, .int 0, .int 0])), (te, .inl (cy 0, 7, .inl (fun _ => 0))), (ne, .inl (cy 0, 7, .inl (fun _ => 0))), (mi, .inl (cy 0, 7, .inl (fun _ => 0))), (le, .inr (3, [.ref te, .ref ne, .ref mi, .int 0, .ref tr, .ref be, .int aw, .int 0, .int xv7])), (tr, .inr (5, [.ref rta7, .int 0])), (be, .inr (5, [.ref rba7, .int 0]))]) (rest := []) hx hb hml hown hts hE (c_X11_error l G cy sk H.size x lv kp tr_ sh er re fi vo fe 2 (-1000002) 0 (by first | decide | (unfold inR; decide)) (by decide)) kV_X11_error m_500 rfl rfl ⟨(Nat.le_of_ble_eq_true rfl), (Nat.le_of_ble_eq_true rfl)⟩ hP hD hS hA 0 rfl rfl rfl [0, 1] [2, 3, 4, 5, 6, 7, 8] rfl rfl rfl rfl (by decide) rfl rfl hl.1 (Nat.le_of_ble_eq_true rfl) dX11_learn_103 ⟨(Nat.le_of_ble_eq_true rfl), (Nat.le_of_ble_eq_true rfl)⟩ (fun r_12 H locs hr_ haf hS => ?_)
              obtain ⟨-, -, hP, hD⟩ := haf
              have hP : va_P G classes [(lv, .inr (10, [.ref st, .ref la, .ref le, .ref ta, .ref wa, .ref wk, .int 0, .int 0])), (te, .inl (cy 0, 7, .inl (fun _ => 0))), (ne, .inl (cy 0, 7, .inl (fun _ => 0))), (mi, .inl (cy 0, 7, .inl (fun _ => 0))), (le, .inr (3, [.ref te, .ref ne, .ref mi, .int 0, .ref tr, .ref be, .int aw, .int 0, .int xv7])), (tr, .inr (5, [.ref rta7, .int 0])), (be, .inr (5, [.ref rba7, .int 0]))] H := hP
              have hD : va_D A [(lv, .inr (10, [.ref st, .ref la, .ref le, .ref ta, .ref wa, .ref wk, .int 0, .int 0])), (te, .inl (cy 0, 7, .inl (fun _ => 0))), (ne, .inl (cy 0, 7, .inl (fun _ => 0))), (mi, .inl (cy 0, 7, .inl (fun _ => 0))), (le, .inr (3, [.ref te, .ref ne, .ref mi, .int 0, .ref tr, .ref be, .int aw, .int 0, .int xv7])), (tr, .inr (5, [.ref rta7, .int 0])), (be, .inr (5, [.ref rba7, .int 0]))] := hD
              subst hr_
              refine W.widen (k := 0) (n := 0) (by first | exact Nat.le_of_ble_eq_true rfl | omega) (by first | exact Nat.le_of_ble_eq_true rfl | omega) ?_
              exact W.iret (v := (-1000002)) hx hb hr (fun t ht hW => ⟨⟨(-1000002), (), rfl, (lf_c_X11_learn_1 akn aw aa h_2 h_4 c_5 h_8 c_9 c_10 c_11), trivial⟩, hS.F ht⟩) hS.2.2 dX11_learn_106
            · refine lv_aload hx hb dX11_learn_68 (lv_at hl 0 rfl) ?_
              refine va_getN (D := G) (ci := 3) (v := .ref be) (C := RX3) (T := TX3) (N := 9) hx hb hts inB3 hown hE.1 hP 6 rfl rfl 5 (by decide) (nf_RX11_328 hE) (fun _ h9 => h9) rfl dX11_learn_70 ?_
              refine va_getN (D := G) (ci := 5) (v := .int 0) (C := RX5) (T := TX5) (N := 2) hx hb hts inB5 hown hE.1 hP 8 rfl rfl 1 (by decide) (nf_RX11_205 hE) (fun _ h9 => h9) rfl dX11_learn_73 ?_
              refine W.widen (k := 0) (n := 0) (by first | exact Nat.le_of_ble_eq_true rfl | omega) (by first | exact Nat.le_of_ble_eq_true rfl | omega) ?_
              exact W.iret (v := 0) hx hb hr (fun t ht hW => ⟨⟨0, (), rfl, (lf_c_X11_learn_2 akn aw aa h_2 h_4 c_5 h_8 c_9 c_10), trivial⟩, hS.F ht⟩) hS.2.2 dX11_learn_76
          · refine lv_aload hx hb dX11_learn_56 (lv_at hl 0 rfl) ?_
            refine va_getN (D := G) (ci := 3) (v := .int 0) (C := RX3) (T := TX3) (N := 9) hx hb hts inB3 hown hE.1 hP 6 rfl rfl 7 (by decide) (nf_RX11_325 hE) (fun _ h9 => h9) rfl dX11_learn_58 ?_
            refine W.widen (k := 0) (n := 0) (by first | exact Nat.le_of_ble_eq_true rfl | omega) (by first | exact Nat.le_of_ble_eq_true rfl | omega) ?_
            exact W.iret (v := 0) hx hb hr (fun t ht hW => ⟨⟨0, (), rfl, (lf_c_X11_learn_3 akn aw aa h_2 h_4 c_5 h_8 c_9), trivial⟩, hS.F ht⟩) hS.2.2 dX11_learn_61
        · refine lv_if_ne (tgt := 51) hx hb dX11_learn_42 (by decide) (fun h9 => absurd h9 (by decide)) (fun _ => ?_)
          refine lv_aload_n hx hb dX11_learn_45 rfl (lv_at hl 1 rfl) ?_
          refine lv_iconst (v := 2) hx hb dX11_learn_46 (by decide) ?_
          refine wV (B := (fun _ => True)) (wr := [(lv, .inr (10, [.ref st, .ref la, .ref le, .ref ta, .ref wa, .ref wk, .int 0, .int 0])), (te, .inl (cy 0, 7, .inl (fun _ => 0))), (ne, .inl (cy 0, 7, .inl (fun _ => 0))), (mi, .inl (cy 0, 7, .inl (fun _ => 0))), (le, .inr (3, [.ref te, .ref ne, .ref mi, .int 0, .ref tr, .ref be, .int aw, .int 0, .int xv7])), (tr, .inr (5, [.ref rta7, .int 0])), (be, .inr (5, [.ref rba7, .int 0]))]) (rest := []) hx hb hml hown hts hE (c_X11_error l G cy sk H.size x lv kp tr_ sh er re fi vo fe 2 (-1000002) 0 (by first | decide | (unfold inR; decide)) (by decide)) kV_X11_error m_500 rfl rfl ⟨(Nat.le_of_ble_eq_true rfl), (Nat.le_of_ble_eq_true rfl)⟩ hP hD hS hA 0 rfl rfl rfl [0, 1] [2, 3, 4, 5, 6, 7, 8] rfl rfl rfl rfl (by decide) rfl rfl hl.1 (Nat.le_of_ble_eq_true rfl) dX11_learn_47 ⟨(Nat.le_of_ble_eq_true rfl), (Nat.le_of_ble_eq_true rfl)⟩ (fun r_13 H locs hr_ haf hS => ?_)
          obtain ⟨-, -, hP, hD⟩ := haf
          have hP : va_P G classes [(lv, .inr (10, [.ref st, .ref la, .ref le, .ref ta, .ref wa, .ref wk, .int 0, .int 0])), (te, .inl (cy 0, 7, .inl (fun _ => 0))), (ne, .inl (cy 0, 7, .inl (fun _ => 0))), (mi, .inl (cy 0, 7, .inl (fun _ => 0))), (le, .inr (3, [.ref te, .ref ne, .ref mi, .int 0, .ref tr, .ref be, .int aw, .int 0, .int xv7])), (tr, .inr (5, [.ref rta7, .int 0])), (be, .inr (5, [.ref rba7, .int 0]))] H := hP
          have hD : va_D A [(lv, .inr (10, [.ref st, .ref la, .ref le, .ref ta, .ref wa, .ref wk, .int 0, .int 0])), (te, .inl (cy 0, 7, .inl (fun _ => 0))), (ne, .inl (cy 0, 7, .inl (fun _ => 0))), (mi, .inl (cy 0, 7, .inl (fun _ => 0))), (le, .inr (3, [.ref te, .ref ne, .ref mi, .int 0, .ref tr, .ref be, .int aw, .int 0, .int xv7])), (tr, .inr (5, [.ref rta7, .int 0])), (be, .inr (5, [.ref rba7, .int 0]))] := hD
          subst hr_
          refine W.widen (k := 0) (n := 0) (by first | exact Nat.le_of_ble_eq_true rfl | omega) (by first | exact Nat.le_of_ble_eq_true rfl | omega) ?_
          exact W.iret (v := (-1000002)) hx hb hr (fun t ht hW => ⟨⟨(-1000002), (), rfl, (lf_c_X11_learn_4 akn aw aa h_2 h_4 c_5 h_8), trivial⟩, hS.F ht⟩) hS.2.2 dX11_learn_50
      · refine lv_aload_n hx hb dX11_learn_20 rfl (lv_at hl 0 rfl) ?_
        refine lv_iconst (v := 1) hx hb dX11_learn_21 (by decide) ?_
        refine wV (B := (fun _ => True)) (wr := [(lv, .inr (10, [.ref st, .ref la, .ref le, .ref ta, .ref wa, .ref wk, .int 0, .int 0])), (le, .inr (3, [.ref te, .ref ne, .ref mi, .int 0, .ref tr, .ref be, .int 0, .int 0, .int 0])), (te, .inl (cy 0, 7, .inl (fun _ => 0))), (ne, .inl (cy 0, 7, .inl (fun _ => 0))), (mi, .inl (cy 0, 7, .inl (fun _ => 0))), (tr, .inr (5, [.ref rta7, .int 0])), (rta7, .inl (cy 0, 7, .inl (fun _ => 0))), (be, .inr (5, [.ref rba7, .int 0])), (rba7, .inl (cy 0, 7, .inl (fun _ => 0)))]) (rest := []) hx hb hml hown hts hE (c_X11_error l G cy sk s.heap.size x lv kp tr_ sh er re fi vo fe 1 (-1000001) 0 (by first | decide | (unfold inR; decide)) (by decide)) kV_X11_error m_500 rfl rfl ⟨(Nat.le_of_ble_eq_true rfl), (Nat.le_of_ble_eq_true rfl)⟩ hP hD hS hA 0 rfl rfl rfl [0, 1] [2, 3, 4, 5, 6, 7, 8, 9, 10] rfl rfl rfl rfl (by decide) rfl rfl hl.1 (Nat.le_of_ble_eq_true rfl) dX11_learn_22 ⟨(Nat.le_of_ble_eq_true rfl), (Nat.le_of_ble_eq_true rfl)⟩ (fun r_14 H locs hr_ haf hS => ?_)
        obtain ⟨-, -, hP, hD⟩ := haf
        have hP : va_P G classes [(lv, .inr (10, [.ref st, .ref la, .ref le, .ref ta, .ref wa, .ref wk, .int 0, .int 0])), (le, .inr (3, [.ref te, .ref ne, .ref mi, .int 0, .ref tr, .ref be, .int 0, .int 0, .int 0])), (te, .inl (cy 0, 7, .inl (fun _ => 0))), (ne, .inl (cy 0, 7, .inl (fun _ => 0))), (mi, .inl (cy 0, 7, .inl (fun _ => 0))), (tr, .inr (5, [.ref rta7, .int 0])), (rta7, .inl (cy 0, 7, .inl (fun _ => 0))), (be, .inr (5, [.ref rba7, .int 0])), (rba7, .inl (cy 0, 7, .inl (fun _ => 0)))] H := hP
        have hD : va_D A [(lv, .inr (10, [.ref st, .ref la, .ref le, .ref ta, .ref wa, .ref wk, .int 0, .int 0])), (le, .inr (3, [.ref te, .ref ne, .ref mi, .int 0, .ref tr, .ref be, .int 0, .int 0, .int 0])), (te, .inl (cy 0, 7, .inl (fun _ => 0))), (ne, .inl (cy 0, 7, .inl (fun _ => 0))), (mi, .inl (cy 0, 7, .inl (fun _ => 0))), (tr, .inr (5, [.ref rta7, .int 0])), (rta7, .inl (cy 0, 7, .inl (fun _ => 0))), (be, .inr (5, [.ref rba7, .int 0])), (rba7, .inl (cy 0, 7, .inl (fun _ => 0)))] := hD
        subst hr_
        refine W.widen (k := 0) (n := 0) (by first | exact Nat.le_of_ble_eq_true rfl | omega) (by first | exact Nat.le_of_ble_eq_true rfl | omega) ?_
        exact W.iret (v := (-1000001)) hx hb hr (fun t ht hW => ⟨⟨(-1000001), (), rfl, (lf_c_X11_learn_5 akn aw aa h_2 h_4 c_5), trivial⟩, hS.F ht⟩) hS.2.2 dX11_learn_25
    · refine lv_if_eq (tgt := 20) hx hb dX11_learn_11 (by decide) (fun _ => ?_) (fun h9 => absurd h9 (by decide))
      refine lv_aload_n hx hb dX11_learn_20 rfl (lv_at hl 0 rfl) ?_
      refine lv_iconst (v := 1) hx hb dX11_learn_21 (by decide) ?_
      refine wV (B := (fun _ => True)) (wr := [(lv, .inr (10, [.ref st, .ref la, .ref le, .ref ta, .ref wa, .ref wk, .int 0, .int 0])), (le, .inr (3, [.ref te, .ref ne, .ref mi, .int 0, .ref tr, .ref be, .int 0, .int 0, .int 0])), (te, .inl (cy 0, 7, .inl (fun _ => 0))), (ne, .inl (cy 0, 7, .inl (fun _ => 0))), (mi, .inl (cy 0, 7, .inl (fun _ => 0))), (tr, .inr (5, [.ref rta7, .int 0])), (rta7, .inl (cy 0, 7, .inl (fun _ => 0))), (be, .inr (5, [.ref rba7, .int 0])), (rba7, .inl (cy 0, 7, .inl (fun _ => 0)))]) (rest := []) hx hb hml hown hts hE (c_X11_error l G cy sk s.heap.size x lv kp tr_ sh er re fi vo fe 1 (-1000001) 0 (by first | decide | (unfold inR; decide)) (by decide)) kV_X11_error m_500 rfl rfl ⟨(Nat.le_of_ble_eq_true rfl), (Nat.le_of_ble_eq_true rfl)⟩ hP hD hS hA 0 rfl rfl rfl [0, 1] [2, 3, 4, 5, 6, 7, 8, 9, 10] rfl rfl rfl rfl (by decide) rfl rfl hl.1 (Nat.le_of_ble_eq_true rfl) dX11_learn_22 ⟨(Nat.le_of_ble_eq_true rfl), (Nat.le_of_ble_eq_true rfl)⟩ (fun r_15 H locs hr_ haf hS => ?_)
      obtain ⟨-, -, hP, hD⟩ := haf
      have hP : va_P G classes [(lv, .inr (10, [.ref st, .ref la, .ref le, .ref ta, .ref wa, .ref wk, .int 0, .int 0])), (le, .inr (3, [.ref te, .ref ne, .ref mi, .int 0, .ref tr, .ref be, .int 0, .int 0, .int 0])), (te, .inl (cy 0, 7, .inl (fun _ => 0))), (ne, .inl (cy 0, 7, .inl (fun _ => 0))), (mi, .inl (cy 0, 7, .inl (fun _ => 0))), (tr, .inr (5, [.ref rta7, .int 0])), (rta7, .inl (cy 0, 7, .inl (fun _ => 0))), (be, .inr (5, [.ref rba7, .int 0])), (rba7, .inl (cy 0, 7, .inl (fun _ => 0)))] H := hP
      have hD : va_D A [(lv, .inr (10, [.ref st, .ref la, .ref le, .ref ta, .ref wa, .ref wk, .int 0, .int 0])), (le, .inr (3, [.ref te, .ref ne, .ref mi, .int 0, .ref tr, .ref be, .int 0, .int 0, .int 0])), (te, .inl (cy 0, 7, .inl (fun _ => 0))), (ne, .inl (cy 0, 7, .inl (fun _ => 0))), (mi, .inl (cy 0, 7, .inl (fun _ => 0))), (tr, .inr (5, [.ref rta7, .int 0])), (rta7, .inl (cy 0, 7, .inl (fun _ => 0))), (be, .inr (5, [.ref rba7, .int 0])), (rba7, .inl (cy 0, 7, .inl (fun _ => 0)))] := hD
      subst hr_
      refine W.widen (k := 0) (n := 0) (by first | exact Nat.le_of_ble_eq_true rfl | omega) (by first | exact Nat.le_of_ble_eq_true rfl | omega) ?_
      exact W.iret (v := (-1000001)) hx hb hr (fun t ht hW => ⟨⟨(-1000001), (), rfl, (lf_c_X11_learn_6 akn aw aa h_2 h_4), trivial⟩, hS.F ht⟩) hS.2.2 dX11_learn_25
  · refine lv_if_eq (tgt := 20) hx hb dX11_learn_4 (by decide) (fun _ => ?_) (fun h9 => absurd h9 (by decide))
    refine lv_aload_n hx hb dX11_learn_20 rfl (lv_at hl 0 rfl) ?_
    refine lv_iconst (v := 1) hx hb dX11_learn_21 (by decide) ?_
    refine wV (B := (fun _ => True)) (wr := [(lv, .inr (10, [.ref st, .ref la, .ref le, .ref ta, .ref wa, .ref wk, .int 0, .int 0])), (le, .inr (3, [.ref te, .ref ne, .ref mi, .int 0, .ref tr, .ref be, .int 0, .int 0, .int 0])), (te, .inl (cy 0, 7, .inl (fun _ => 0))), (ne, .inl (cy 0, 7, .inl (fun _ => 0))), (mi, .inl (cy 0, 7, .inl (fun _ => 0))), (tr, .inr (5, [.ref rta7, .int 0])), (rta7, .inl (cy 0, 7, .inl (fun _ => 0))), (be, .inr (5, [.ref rba7, .int 0])), (rba7, .inl (cy 0, 7, .inl (fun _ => 0)))]) (rest := []) hx hb hml hown hts hE (c_X11_error l G cy sk s.heap.size x lv kp tr_ sh er re fi vo fe 1 (-1000001) 0 (by first | decide | (unfold inR; decide)) (by decide)) kV_X11_error m_500 rfl rfl ⟨(Nat.le_of_ble_eq_true rfl), (Nat.le_of_ble_eq_true rfl)⟩ hP hD hS hA 0 rfl rfl rfl [0, 1] [2, 3, 4, 5, 6, 7, 8, 9, 10] rfl rfl rfl rfl (by decide) rfl rfl hl.1 (Nat.le_of_ble_eq_true rfl) dX11_learn_22 ⟨(Nat.le_of_ble_eq_true rfl), (Nat.le_of_ble_eq_true rfl)⟩ (fun r_16 H locs hr_ haf hS => ?_)
    obtain ⟨-, -, hP, hD⟩ := haf
    have hP : va_P G classes [(lv, .inr (10, [.ref st, .ref la, .ref le, .ref ta, .ref wa, .ref wk, .int 0, .int 0])), (le, .inr (3, [.ref te, .ref ne, .ref mi, .int 0, .ref tr, .ref be, .int 0, .int 0, .int 0])), (te, .inl (cy 0, 7, .inl (fun _ => 0))), (ne, .inl (cy 0, 7, .inl (fun _ => 0))), (mi, .inl (cy 0, 7, .inl (fun _ => 0))), (tr, .inr (5, [.ref rta7, .int 0])), (rta7, .inl (cy 0, 7, .inl (fun _ => 0))), (be, .inr (5, [.ref rba7, .int 0])), (rba7, .inl (cy 0, 7, .inl (fun _ => 0)))] H := hP
    have hD : va_D A [(lv, .inr (10, [.ref st, .ref la, .ref le, .ref ta, .ref wa, .ref wk, .int 0, .int 0])), (le, .inr (3, [.ref te, .ref ne, .ref mi, .int 0, .ref tr, .ref be, .int 0, .int 0, .int 0])), (te, .inl (cy 0, 7, .inl (fun _ => 0))), (ne, .inl (cy 0, 7, .inl (fun _ => 0))), (mi, .inl (cy 0, 7, .inl (fun _ => 0))), (tr, .inr (5, [.ref rta7, .int 0])), (rta7, .inl (cy 0, 7, .inl (fun _ => 0))), (be, .inr (5, [.ref rba7, .int 0])), (rba7, .inl (cy 0, 7, .inl (fun _ => 0)))] := hD
    subst hr_
    refine W.widen (k := 0) (n := 0) (by first | exact Nat.le_of_ble_eq_true rfl | omega) (by first | exact Nat.le_of_ble_eq_true rfl | omega) ?_
    exact W.iret (v := (-1000001)) hx hb hr (fun t ht hW => ⟨⟨(-1000001), (), rfl, (lf_c_X11_learn_7 akn aw aa h_2), trivial⟩, hS.F ht⟩) hS.2.2 dX11_learn_25
