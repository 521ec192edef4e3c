theorem lf_c_X12_at_0 (ac : Int32) (h_2 : inR ac 0 191) : ((-1) : Int32) = (F_at ac) := by first | (simp only [F_at, *, and_true, true_and, and_false, false_and, if_true, if_false]; done) | (simp [F_at, *]; done) | (unfold F_at; simp_all; done)
theorem lf_c_X12_at_1 (ac : Int32) (h_2 : ¬ inR ac 0 191) : ((-1000001) : Int32) = (F_at ac) := by first | (simp only [F_at, *, and_true, true_and, and_false, false_and, if_true, if_false]; done) | (simp [F_at, *]; done) | (unfold F_at; simp_all; done)
set_option maxHeartbeats 4000000 in
set_option maxRecDepth 100000 in
theorem c_X12_at (l : Launch) (G : va_G) (cy : Nat → ClassId) (sk : Nat → Nat) (sz : Nat) (mo : Nat) (nw : Nat) (nk : Nat) (na : Nat) (fd : Nat) (ea : Nat) (so : Nat) (nd : Nat) (cd : Nat) (nmd : Nat) (pl : Nat) (tl : Nat) (fr_ : Nat) (rw_ : Nat) (brw : Nat) (po : Nat) (trc : Nat) (wi : Nat) (sz_ : Nat) (nu : Nat) (ca : Nat) (ff : Nat → Int32) (ac : Int32)  : Met l yX12_at (wsO yX12_at cX12_at 2 (some .int)) ({ frames := 2, cells := 0, slots := 0, locals := 42 }) (va_Pc [.ref mo, .int ac] (PR G cy sk sz [(mo, .inr (12, [.ref nw, .ref nk, .ref na, .int 0, .ref fd, .ref ea, .ref so, .int (-1), .ref nd, .int 0, .int 0, .int 0, .int 0, .int 0, .int 0, .ref cd, .ref nmd, .ref pl, .ref tl, .ref fr_, .ref rw_, .ref brw, .int 0, .int 0, .ref po, .ref trc, .int 0, .int 0, .int 0, .ref wi, .ref sz_, .ref nu, .ref ca])), (nw, .inl (cy 0, 3567, .inl nw0)), (fd, .inl (cy 0, 7, .inl ff))])) (va_Qi (fun r (_ : Unit) => r = (F_at ac)) (fun _ _ => True) (va_A [(mo, .inr (12, [.ref nw, .ref nk, .ref na, .int 0, .ref fd, .ref ea, .ref so, .int (-1), .ref nd, .int 0, .int 0, .int 0, .int 0, .int 0, .int 0, .ref cd, .ref nmd, .ref pl, .ref tl, .ref fr_, .ref rw_, .ref brw, .int 0, .int 0, .ref po, .ref trc, .int 0, .int 0, .int 0, .ref wi, .ref sz_, .ref nu, .ref ca])), (nw, .inl (cy 0, 3567, .inl nw0)), (fd, .inl (cy 0, 7, .inl ff))] sz)) 0 0 (va_A [(mo, .inr (12, [.ref nw, .ref nk, .ref na, .int 0, .ref fd, .ref ea, .ref so, .int (-1), .ref nd, .int 0, .int 0, .int 0, .int 0, .int 0, .int 0, .ref cd, .ref nmd, .ref pl, .ref tl, .ref fr_, .ref rw_, .ref brw, .int 0, .int 0, .ref po, .ref trc, .int 0, .int 0, .int 0, .ref wi, .ref sz_, .ref nu, .ref ca])), (nw, .inl (cy 0, 3567, .inl nw0)), (fd, .inl (cy 0, 7, .inl ff))] sz) := by
  refine mt (by decide) (Nat.le_of_ble_eq_true rfl) ?_
  intro p e s m below meth c ls hx hb hr hml hts hown hlocks hin hsz hP hE hD hl
  subst hsz
  have hl : lv_has ls 2 [(0, .ref mo), (1, .int ac)] := hl
  have hD := hD.self (sz := s.heap.size)
  generalize hAe : va_A [(mo, .inr (12, [.ref nw, .ref nk, .ref na, .int 0, .ref fd, .ref ea, .ref so, .int (-1), .ref nd, .int 0, .int 0, .int 0, .int 0, .int 0, .int 0, .ref cd, .ref nmd, .ref pl, .ref tl, .ref fr_, .ref rw_, .ref brw, .int 0, .int 0, .ref po, .ref trc, .int 0, .int 0, .int 0, .ref wi, .ref sz_, .ref nu, .ref ca])), (nw, .inl (cy 0, 3567, .inl nw0)), (fd, .inl (cy 0, 7, .inl ff))] s.heap.size = A at hD ⊢
  have hA : ∀ q : Nat, s.heap.size ≤ q → A q := fun q h => by rw [← hAe]; exact Or.inr h
  have hS : va_S A s.heap s.heap [] := va_S.rf
  refine lv_iload_n hx hb dX12_at_0 rfl (lv_at hl 1 rfl) ?_
  refine rS (rest := []) hx hb hml hown hts hE (c_X12_isCell l G cy sk s.heap.size ac) kS_X12_isCell m_1430 rfl rfl ⟨(Nat.le_of_ble_eq_true rfl), (Nat.le_of_ble_eq_true rfl)⟩ hP hD [] rfl rfl rfl rfl hl.1 (Nat.le_of_ble_eq_true rfl) dX12_at_1 ⟨(Nat.le_of_ble_eq_true rfl), (Nat.le_of_ble_eq_true rfl)⟩ (fun r_1 hr_ => ?_)
  rcases hr_ with ⟨rfl, h_2⟩ | ⟨rfl, h_2⟩
  · refine lv_if_eq (tgt := 15) hx hb dX12_at_4 (by decide) (fun h9 => absurd h9 (by decide)) (fun _ => ?_)
    refine lv_aload_n hx hb dX12_at_7 rfl (lv_at hl 0 rfl) ?_
    refine lv_iload_n hx hb dX12_at_8 rfl (lv_at hl 1 rfl) ?_
    refine rV (rest := []) hx hb hml hown hts hE (c_X12_in l G cy sk s.heap.size mo nw nk na fd ea so nd cd nmd pl tl fr_ rw_ brw po trc wi sz_ nu ca 0 (-1) 0 0 0 0 0 0 0 0 0 0 0 nw0 ac rfl rfl) kV_X12_in m_1443 rfl rfl ⟨(Nat.le_of_ble_eq_true rfl), (Nat.le_of_ble_eq_true rfl)⟩ hP hD 0 rfl rfl rfl [0, 1] rfl rfl rfl rfl hl.1 (Nat.le_of_ble_eq_true rfl) dX12_at_9 ⟨(Nat.le_of_ble_eq_true rfl), (Nat.le_of_ble_eq_true rfl)⟩ (fun r_3 hr_ => ?_)
    subst hr_
    refine lv_goto (tgt := 21) hx hb dX12_at_12 (by decide) ?_
    refine W.widen (k := 0) (n := 0) (by first | exact Nat.le_of_ble_eq_true rfl | omega) (by first | exact Nat.le_of_ble_eq_true rfl | omega) ?_
    exact W.iret (v := (-1)) hx hb hr (fun t ht hW => ⟨⟨(-1), (), rfl, (lf_c_X12_at_0 ac h_2), trivial⟩, hS.F ht⟩) hS.2.2 dX12_at_21
  · refine lv_if_eq (tgt := 15) hx hb dX12_at_4 (by decide) (fun _ => ?_) (fun h9 => absurd h9 (by decide))
    refine lv_aload_n hx hb dX12_at_15 rfl (lv_at hl 0 rfl) ?_
    refine lv_ldc (v := (-1000001)) hx hb hown (hts _ m_1433) dX12_at_16 ?_
    refine wV (B := (fun _ => True)) (wr := [(nw, .inl (cy 0, 3567, .inl nw0))]) (rest := []) hx hb hml hown hts hE (c_X12_finding l G cy sk s.heap.size mo nw nk na fd ea so nd cd nmd pl tl fr_ rw_ brw po trc wi sz_ nu ca 0 (-1) 0 0 0 0 0 0 0 0 0 0 0 ff (-1000001) 1 (by decide) (vinL (by decide))) kV_X12_finding m_1434 rfl rfl ⟨(Nat.le_of_ble_eq_true rfl), (Nat.le_of_ble_eq_true rfl)⟩ hP hD hS hA 0 rfl rfl rfl [0, 2] [1] rfl rfl rfl rfl (by decide) rfl rfl hl.1 (Nat.le_of_ble_eq_true rfl) dX12_at_18 ⟨(Nat.le_of_ble_eq_true rfl), (Nat.le_of_ble_eq_true rfl)⟩ (fun r_4 H locs hr_ haf hS => ?_)
    obtain ⟨-, -, hP, hD⟩ := haf
    have hP : va_P G classes [(nw, .inl (cy 0, 3567, .inl nw0))] H := hP
    have hD : va_D A [(nw, .inl (cy 0, 3567, .inl nw0))] := hD
    subst hr_
    refine W.widen (k := 0) (n := 0) (by first | exact Nat.le_of_ble_eq_true rfl | omega) (by first | exact Nat.le_of_ble_eq_true rfl | omega) ?_
    exact W.iret (v := (-1000001)) hx hb hr (fun t ht hW => ⟨⟨(-1000001), (), rfl, (lf_c_X12_at_1 ac h_2), trivial⟩, hS.F ht⟩) hS.2.2 dX12_at_21
theorem lf_c_X12_lays_0 (ah : Int32) (ay : Int32) (h_2 : inR ah 0 3) (h_4 : inR ay 0 11) : ((-1000002) : Int32) = (F_lays ah ay) := by first | (simp only [F_lays, *, and_true, true_and, and_false, false_and, if_true, if_false]; done) | (simp [F_lays, *]; done) | (unfold F_lays; simp_all; done)
theorem lf_c_X12_lays_1 (ah : Int32) (ay : Int32) (h_2 : inR ah 0 3) (h_4 : ¬ inR ay 0 11) : ((-1000001) : Int32) = (F_lays ah ay) := by first | (simp only [F_lays, *, and_true, true_and, and_false, false_and, if_true, if_false]; done) | (simp [F_lays, *]; done) | (unfold F_lays; simp_all; done)
theorem lf_c_X12_lays_2 (ah : Int32) (ay : Int32) (h_2 : ¬ inR ah 0 3) : ((-1000001) : Int32) = (F_lays ah ay) := by first | (simp only [F_lays, *, and_true, true_and, and_false, false_and, if_true, if_false]; done) | (simp [F_lays, *]; done) | (unfold F_lays; simp_all; done)
set_option maxHeartbeats 4000000 in
set_option maxRecDepth 100000 in
theorem c_X12_lays (l : Launch) (G : va_G) (cy : Nat → ClassId) (sk : Nat → Nat) (sz : Nat) (mo : Nat) (nw : Nat) (nk : Nat) (na : Nat) (fd : Nat) (ea : Nat) (so : Nat) (nd : Nat) (cd : Nat) (nmd : Nat) (pl : Nat) (tl : Nat) (fr_ : Nat) (rw_ : Nat) (brw : Nat) (po : Nat) (trc : Nat) (wi : Nat) (sz_ : Nat) (nu : Nat) (ca : Nat) (ff : Nat → Int32) (ah : Int32) (ay : Int32)  : Met l yX12_lays (wsO yX12_lays cX12_lays 6 (some .int)) ({ frames := 2, cells := 0, slots := 0, locals := 42 }) (va_Pc [.ref mo, .int ah, .int ay] (PR G cy sk sz [(mo, .inr (12, [.ref nw, .ref nk, .ref na, .int 0, .ref fd, .ref ea, .ref so, .int (-1), .ref nd, .int 0, .int 0, .int 0, .int 0, .int 0, .int 0, .ref cd, .ref nmd, .ref pl, .ref tl, .ref fr_, .ref rw_, .ref brw, .int 0, .int 0, .ref po, .ref trc, .int 0, .int 0, .int 0, .ref wi, .ref sz_, .ref nu, .ref ca])), (nw, .inl (cy 0, 3567, .inl nw0)), (fd, .inl (cy 0, 7, .inl ff)), (wi, .inl (cy 0, 4, .inl (fun _ => 0)))])) (va_Qi (fun r (_ : Unit) => r = (F_lays ah ay)) (fun _ _ => True) (va_A [(mo, .inr (12, [.ref nw, .ref nk, .ref na, .int 0, .ref fd, .ref ea, .ref so, .int (-1), .ref nd, .int 0, .int 0, .int 0, .int 0, .int 0, .int 0, .ref cd, .ref nmd, .ref pl, .ref tl, .ref fr_, .ref rw_, .ref brw, .int 0, .int 0, .ref po, .ref trc, .int 0, .int 0, .int 0, .ref wi, .ref sz_, .ref nu, .ref ca])), (nw, .inl (cy 0, 3567, .inl nw0)), (fd, .inl (cy 0, 7, .inl ff)), (wi, .inl (cy 0, 4, .inl (fun _ => 0)))] sz)) 0 0 (va_A [(mo, .inr (12, [.ref nw, .ref nk, .ref na, .int 0, .ref fd, .ref ea, .ref so, .int (-1), .ref nd, .int 0, .int 0, .int 0, .int 0, .int 0, .int 0, .ref cd, .ref nmd, .ref pl, .ref tl, .ref fr_, .ref rw_, .ref brw, .int 0, .int 0, .ref po, .ref trc, .int 0, .int 0, .int 0, .ref wi, .ref sz_, .ref nu, .ref ca])), (nw, .inl (cy 0, 3567, .inl nw0)), (fd, .inl (cy 0, 7, .inl ff)), (wi, .inl (cy 0, 4, .inl (fun _ => 0)))] sz) := by
  refine mt (by decide) (Nat.le_of_ble_eq_true rfl) ?_
  intro p e s m below meth c ls hx hb hr hml hts hown hlocks hin hsz hP hE hD hl
  subst hsz
  have hl : lv_has ls 6 [(0, .ref mo), (1, .int ah), (2, .int ay)] := hl
  have hD := hD.self (sz := s.heap.size)
  generalize hAe : va_A [(mo, .inr (12, [.ref nw, .ref nk, .ref na, .int 0, .ref fd, .ref ea, .ref so, .int (-1), .ref nd, .int 0, .int 0, .int 0, .int 0, .int 0, .int 0, .ref cd, .ref nmd, .ref pl, .ref tl, .ref fr_, .ref rw_, .ref brw, .int 0, .int 0, .ref po, .ref trc, .int 0, .int 0, .int 0, .ref wi, .ref sz_, .ref nu, .ref ca])), (nw, .inl (cy 0, 3567, .inl nw0)), (fd, .inl (cy 0, 7, .inl ff)), (wi, .inl (cy 0, 4, .inl (fun _ => 0)))] s.heap.size = A at hD ⊢
  have hA : ∀ q : Nat, s.heap.size ≤ q → A q := fun q h => by rw [← hAe]; exact Or.inr h
  have hS : va_S A s.heap s.heap [] := va_S.rf
  refine lv_iload_n hx hb dX12_lays_0 rfl (lv_at hl 1 rfl) ?_
  refine rS (rest := []) hx hb hml hown hts hE (c_X12_isSheet l G cy sk s.heap.size ah) kS_X12_isSheet m_1497 rfl rfl ⟨(Nat.le_of_ble_eq_true rfl), (Nat.le_of_ble_eq_true rfl)⟩ hP hD [] rfl rfl rfl rfl hl.1 (Nat.le_of_ble_eq_true rfl) dX12_lays_1 ⟨(Nat.le_of_ble_eq_true rfl), (Nat.le_of_ble_eq_true rfl)⟩ (fun r_1 hr_ => ?_)
  rcases hr_ with ⟨rfl, h_2⟩ | ⟨rfl, h_2⟩
  · refine lv_if_eq (tgt := 17) hx hb dX12_lays_4 (by decide) (fun h9 => absurd h9 (by decide)) (fun _ => ?_)
    refine lv_iload_n hx hb dX12_lays_7 rfl (lv_at hl 2 rfl) ?_
    refine lv_iconst (v := 0) hx hb dX12_lays_8 (by decide) ?_
    refine lv_bipush (v := 11) hx hb dX12_lays_9 (by decide) ?_
    refine rS (rest := []) hx hb hml hown hts hE (c_X12_within l G cy sk s.heap.size ay 0 11) kS_X12_within m_1427 rfl rfl ⟨(Nat.le_of_ble_eq_true rfl), (Nat.le_of_ble_eq_true rfl)⟩ hP hD [] rfl rfl rfl rfl hl.1 (Nat.le_of_ble_eq_true rfl) dX12_lays_11 ⟨(Nat.le_of_ble_eq_true rfl), (Nat.le_of_ble_eq_true rfl)⟩ (fun r_3 hr_ => ?_)
    rcases hr_ with ⟨rfl, h_4⟩ | ⟨rfl, h_4⟩
    · refine lv_if_ne (tgt := 24) hx hb dX12_lays_14 (by decide) (fun _ => ?_) (fun h9 => absurd h9 (by decide))
      refine lv_aload_n hx hb dX12_lays_24 rfl (lv_at hl 0 rfl) ?_
      refine va_get (D := G) (ci := 12) (v := .ref wi) (C := RX12) (T := TX12) (N := 33) hx hb hts inB12 hown hE.1 hP 0 rfl rfl 29 (by decide) (hts _ m_1352) (fun _ h9 => h9) rfl dX12_lays_25 ?_
      refine lv_iload_n hx hb dX12_lays_28 rfl (lv_at hl 1 rfl) ?_
      refine va_iald hx hb hE.1 hP 3 0 rfl rfl (vinB h_2 (by decide) (by decide)) dX12_lays_29 ?_
      refine tp (v := 0) rfl ?_
      refine lv_if_ne (tgt := 40) hx hb dX12_lays_30 (by decide) (fun h9 => absurd h9 (by decide)) (fun _ => ?_)
      refine lv_aload_n hx hb dX12_lays_33 rfl (lv_at hl 0 rfl) ?_
      refine lv_ldc (v := (-1000002)) hx hb hown (hts _ m_1500) dX12_lays_34 ?_
      refine wV (B := (fun _ => True)) (wr := [(nw, .inl (cy 0, 3567, .inl nw0)), (wi, .inl (cy 0, 4, .inl (fun _ => 0)))]) (rest := []) hx hb hml hown hts hE (c_X12_finding l G cy sk s.heap.size mo nw nk na fd ea so nd cd nmd pl tl fr_ rw_ brw po trc wi sz_ nu ca 0 (-1) 0 0 0 0 0 0 0 0 0 0 0 ff (-1000002) 2 (by decide) (vinL (by decide))) kV_X12_finding m_1434 rfl rfl ⟨(Nat.le_of_ble_eq_true rfl), (Nat.le_of_ble_eq_true rfl)⟩ hP hD hS hA 0 rfl rfl rfl [0, 2] [1, 3] rfl rfl rfl rfl (by decide) rfl rfl hl.1 (Nat.le_of_ble_eq_true rfl) dX12_lays_36 ⟨(Nat.le_of_ble_eq_true rfl), (Nat.le_of_ble_eq_true rfl)⟩ (fun r_5 H locs hr_ haf hS => ?_)
      obtain ⟨-, -, hP, hD⟩ := haf
      have hP : va_P G classes [(nw, .inl (cy 0, 3567, .inl nw0)), (wi, .inl (cy 0, 4, .inl (fun _ => 0)))] H := hP
      have hD : va_D A [(nw, .inl (cy 0, 3567, .inl nw0)), (wi, .inl (cy 0, 4, .inl (fun _ => 0)))] := hD
      subst hr_
      refine W.widen (k := 0) (n := 0) (by first | exact Nat.le_of_ble_eq_true rfl | omega) (by first | exact Nat.le_of_ble_eq_true rfl | omega) ?_
      exact W.iret (v := (-1000002)) hx hb hr (fun t ht hW => ⟨⟨(-1000002), (), rfl, (lf_c_X12_lays_0 ah ay h_2 h_4), trivial⟩, hS.F ht⟩) hS.2.2 dX12_lays_39
    · refine lv_if_ne (tgt := 24) hx hb dX12_lays_14 (by decide) (fun h9 => absurd h9 (by decide)) (fun _ => ?_)
      refine lv_aload_n hx hb dX12_lays_17 rfl (lv_at hl 0 rfl) ?_
      refine lv_ldc (v := (-1000001)) hx hb hown (hts _ m_1433) dX12_lays_18 ?_
      refine wV (B := (fun _ => True)) (wr := [(nw, .inl (cy 0, 3567, .inl nw0)), (wi, .inl (cy 0, 4, .inl (fun _ => 0)))]) (rest := []) hx hb hml hown hts hE (c_X12_finding l G cy sk s.heap.size mo nw nk na fd ea so nd cd nmd pl tl fr_ rw_ brw po trc wi sz_ nu ca 0 (-1) 0 0 0 0 0 0 0 0 0 0 0 ff (-1000001) 1 (by decide) (vinL (by decide))) kV_X12_finding m_1434 rfl rfl ⟨(Nat.le_of_ble_eq_true rfl), (Nat.le_of_ble_eq_true rfl)⟩ hP hD hS hA 0 rfl rfl rfl [0, 2] [1, 3] rfl rfl rfl rfl (by decide) rfl rfl hl.1 (Nat.le_of_ble_eq_true rfl) dX12_lays_20 ⟨(Nat.le_of_ble_eq_true rfl), (Nat.le_of_ble_eq_true rfl)⟩ (fun r_6 H locs hr_ haf hS => ?_)
      obtain ⟨-, -, hP, hD⟩ := haf
      have hP : va_P G classes [(nw, .inl (cy 0, 3567, .inl nw0)), (wi, .inl (cy 0, 4, .inl (fun _ => 0)))] H := hP
      have hD : va_D A [(nw, .inl (cy 0, 3567, .inl nw0)), (wi, .inl (cy 0, 4, .inl (fun _ => 0)))] := hD
      subst hr_
      refine W.widen (k := 0) (n := 0) (by first | exact Nat.le_of_ble_eq_true rfl | omega) (by first | exact Nat.le_of_ble_eq_true rfl | omega) ?_
      exact W.iret (v := (-1000001)) hx hb hr (fun t ht hW => ⟨⟨(-1000001), (), rfl, (lf_c_X12_lays_1 ah ay h_2 h_4), trivial⟩, hS.F ht⟩) hS.2.2 dX12_lays_23
  · refine lv_if_eq (tgt := 17) hx hb dX12_lays_4 (by decide) (fun _ => ?_) (fun h9 => absurd h9 (by decide))
    refine lv_aload_n hx hb dX12_lays_17 rfl (lv_at hl 0 rfl) ?_
    refine lv_ldc (v := (-1000001)) hx hb hown (hts _ m_1433) dX12_lays_18 ?_
    refine wV (B := (fun _ => True)) (wr := [(nw, .inl (cy 0, 3567, .inl nw0)), (wi, .inl (cy 0, 4, .inl (fun _ => 0)))]) (rest := []) hx hb hml hown hts hE (c_X12_finding l G cy sk s.heap.size mo nw nk na fd ea so nd cd nmd pl tl fr_ rw_ brw po trc wi sz_ nu ca 0 (-1) 0 0 0 0 0 0 0 0 0 0 0 ff (-1000001) 1 (by decide) (vinL (by decide))) kV_X12_finding m_1434 rfl rfl ⟨(Nat.le_of_ble_eq_true rfl), (Nat.le_of_ble_eq_true rfl)⟩ hP hD hS hA 0 rfl rfl rfl [0, 2] [1, 3] rfl rfl rfl rfl (by decide) rfl rfl hl.1 (Nat.le_of_ble_eq_true rfl) dX12_lays_20 ⟨(Nat.le_of_ble_eq_true rfl), (Nat.le_of_ble_eq_true rfl)⟩ (fun r_7 H locs hr_ haf hS => ?_)
    obtain ⟨-, -, hP, hD⟩ := haf
    have hP : va_P G classes [(nw, .inl (cy 0, 3567, .inl nw0)), (wi, .inl (cy 0, 4, .inl (fun _ => 0)))] H := hP
    have hD : va_D A [(nw, .inl (cy 0, 3567, .inl nw0)), (wi, .inl (cy 0, 4, .inl (fun _ => 0)))] := hD
    subst hr_
    refine W.widen (k := 0) (n := 0) (by first | exact Nat.le_of_ble_eq_true rfl | omega) (by first | exact Nat.le_of_ble_eq_true rfl | omega) ?_
    exact W.iret (v := (-1000001)) hx hb hr (fun t ht hW => ⟨⟨(-1000001), (), rfl, (lf_c_X12_lays_2 ah ay h_2), trivial⟩, hS.F ht⟩) hS.2.2 dX12_lays_23
theorem lf_c_X12_air_0 (aw : Int32) (av : Int32) (c_1 : ¬ aw = 0) (c_2 : ¬ aw = 1) (c_3 : ¬ aw = 2) : ((-1000001) : Int32) = (F_air aw av) := by first | (simp [F_air, in002, in012, in022, *]; done) | (subst_vars; simp [F_air, in002, in012, in022, *]; done) | (rw [F_air, if_neg (fun q => nin3 (by assumption) (by assumption) (by assumption) q.1)]; done)
theorem lf_c_X12_air_1 (av : Int32) (h_6 : inR av 0 1) : (0 : Int32) = (F_air 2 av) := by first | (simp [F_air, in002, in012, in022, *]; done) | (subst_vars; simp [F_air, in002, in012, in022, *]; done) | (rw [F_air, if_neg (fun q => nin3 (by assumption) (by assumption) (by assumption) q.1)]; done)
theorem lf_c_X12_air_2 (aw : Int32) (av : Int32) (c_1 : ¬ aw = 0) (c_2 : ¬ aw = 1) (c_3 : aw = 2) (h_6 : ¬ inR av 0 1) : ((-1000001) : Int32) = (F_air aw av) := by first | (simp [F_air, in002, in012, in022, *]; done) | (subst_vars; simp [F_air, in002, in012, in022, *]; done) | (rw [F_air, if_neg (fun q => nin3 (by assumption) (by assumption) (by assumption) q.1)]; done)
theorem lf_c_X12_air_3 (av : Int32) (h_10 : inR av 0 90) : (9 : Int32) = (F_air 1 av) := by first | (simp [F_air, in002, in012, in022, *]; done) | (subst_vars; simp [F_air, in002, in012, in022, *]; done) | (rw [F_air, if_neg (fun q => nin3 (by assumption) (by assumption) (by assumption) q.1)]; done)
theorem lf_c_X12_air_4 (aw : Int32) (av : Int32) (c_1 : ¬ aw = 0) (c_2 : aw = 1) (h_10 : ¬ inR av 0 90) : ((-1000001) : Int32) = (F_air aw av) := by first | (simp [F_air, in002, in012, in022, *]; done) | (subst_vars; simp [F_air, in002, in012, in022, *]; done) | (rw [F_air, if_neg (fun q => nin3 (by assumption) (by assumption) (by assumption) q.1)]; done)
theorem lf_c_X12_air_5 (av : Int32) (h_14 : inR av 0 99) : (5 : Int32) = (F_air 0 av) := by first | (simp [F_air, in002, in012, in022, *]; done) | (subst_vars; simp [F_air, in002, in012, in022, *]; done) | (rw [F_air, if_neg (fun q => nin3 (by assumption) (by assumption) (by assumption) q.1)]; done)
theorem lf_c_X12_air_6 (aw : Int32) (av : Int32) (c_1 : aw = 0) (h_14 : ¬ inR av 0 99) : ((-1000001) : Int32) = (F_air aw av) := by first | (simp [F_air, in002, in012, in022, *]; done) | (subst_vars; simp [F_air, in002, in012, in022, *]; done) | (rw [F_air, if_neg (fun q => nin3 (by assumption) (by assumption) (by assumption) q.1)]; done)
set_option maxHeartbeats 4000000 in
set_option maxRecDepth 100000 in
theorem c_X12_air (l : Launch) (G : va_G) (cy : Nat → ClassId) (sk : Nat → Nat) (sz : Nat) (mo : Nat) (nw : Nat) (nk : Nat) (na : Nat) (fd : Nat) (ea : Nat) (so : Nat) (nd : Nat) (cd : Nat) (nmd : Nat) (pl : Nat) (tl : Nat) (fr_ : Nat) (rw_ : Nat) (brw : Nat) (po : Nat) (trc : Nat) (wi : Nat) (sz_ : Nat) (nu : Nat) (ca : Nat) (ff : Nat → Int32) (aw : Int32) (av : Int32)  : Met l yX12_air (wsO yX12_air cX12_air 4 (some .int)) ({ frames := 1, cells := 0, slots := 0, locals := 23 }) (va_Pc [.ref mo, .int aw, .int av] (PR G cy sk sz [(mo, .inr (12, [.ref nw, .ref nk, .ref na, .int 0, .ref fd, .ref ea, .ref so, .int (-1), .ref nd, .int 0, .int 0, .int 0, .int 0, .int 0, .int 0, .ref cd, .ref nmd, .ref pl, .ref tl, .ref fr_, .ref rw_, .ref brw, .int 0, .int 0, .ref po, .ref trc, .int 0, .int 0, .int 0, .ref wi, .ref sz_, .ref nu, .ref ca])), (nw, .inl (cy 0, 3567, .inl nw0)), (fd, .inl (cy 0, 7, .inl ff))])) (va_Qi (fun r (_ : Unit) => r = (F_air aw av)) (fun _ _ => True) (va_A [(mo, .inr (12, [.ref nw, .ref nk, .ref na, .int 0, .ref fd, .ref ea, .ref so, .int (-1), .ref nd, .int 0, .int 0, .int 0, .int 0, .int 0, .int 0, .ref cd, .ref nmd, .ref pl, .ref tl, .ref fr_, .ref rw_, .ref brw, .int 0, .int 0, .ref po, .ref trc, .int 0, .int 0, .int 0, .ref wi, .ref sz_, .ref nu, .ref ca])), (nw, .inl (cy 0, 3567, .inl nw0)), (fd, .inl (cy 0, 7, .inl ff))] sz)) 0 0 (va_A [(mo, .inr (12, [.ref nw, .ref nk, .ref na, .int 0, .ref fd, .ref ea, .ref so, .int (-1), .ref nd, .int 0, .int 0, .int 0, .int 0, .int 0, .int 0, .ref cd, .ref nmd, .ref pl, .ref tl, .ref fr_, .ref rw_, .ref brw, .int 0, .int 0, .ref po, .ref trc, .int 0, .int 0, .int 0, .ref wi, .ref sz_, .ref nu, .ref ca])), (nw, .inl (cy 0, 3567, .inl nw0)), (fd, .inl (cy 0, 7, .inl ff))] sz) := by
  refine mt (by decide) (Nat.le_of_ble_eq_true rfl) ?_
  intro p e s m below meth c ls hx hb hr hml hts hown hlocks hin hsz hP hE hD hl
  subst hsz
  have hl : lv_has ls 4 [(0, .ref mo), (1, .int aw), (2, .int av)] := hl
  have hD := hD.self (sz := s.heap.size)
  generalize hAe : va_A [(mo, .inr (12, [.ref nw, .ref nk, .ref na, .int 0, .ref fd, .ref ea, .ref so, .int (-1), .ref nd, .int 0, .int 0, .int 0, .int 0, .int 0, .int 0, .ref cd, .ref nmd, .ref pl, .ref tl, .ref fr_, .ref rw_, .ref brw, .int 0, .int 0, .ref po, .ref trc, .int 0, .int 0, .int 0, .ref wi, .ref sz_, .ref nu, .ref ca])), (nw, .inl (cy 0, 3567, .inl nw0)), (fd, .inl (cy 0, 7, .inl ff))] s.heap.size = A at hD ⊢
  have hA : ∀ q : Nat, s.heap.size ≤ q → A q := fun q h => by rw [← hAe]; exact Or.inr h
  have hS : va_S A s.heap s.heap [] := va_S.rf
  refine lv_iload_n hx hb dX12_air_0 rfl (lv_at hl 1 rfl) ?_
  refine lv_if_ne (tgt := 14) hx hb dX12_air_1 (by decide) (fun c_1 => ?_) (fun c_1 => ?_)
  · refine lv_iload_n hx hb dX12_air_14 rfl (lv_at hl 1 rfl) ?_
    refine lv_iconst (v := 1) hx hb dX12_air_15 (by decide) ?_
    refine lv_icmp_ne (tgt := 29) hx hb dX12_air_16 (by decide) (fun c_2 => ?_) (fun c_2 => ?_)
    · refine lv_iload_n hx hb dX12_air_29 rfl (lv_at hl 1 rfl) ?_
      refine lv_iconst (v := 2) hx hb dX12_air_30 (by decide) ?_
      refine lv_icmp_ne (tgt := 47) hx hb dX12_air_31 (by decide) (fun c_3 => ?_) (fun c_3 => ?_)
      · refine lv_iconst (v := 0) hx hb dX12_air_47 (by decide) ?_
        refine lv_istore_n (lv' := [(3, .int 0), (0, .ref mo), (1, .int aw), (2, .int av)]) hx hb dX12_air_48 rfl hl (by decide) rfl (fun ls hl => ?_)
        refine lv_iload_n hx hb dX12_air_49 rfl (lv_at hl 0 rfl) ?_
        refine lv_if_eq (tgt := 65) hx hb dX12_air_50 (by decide) (fun _ => ?_) (fun h9 => absurd h9 (by decide))
        refine lv_aload_n hx hb dX12_air_65 rfl (lv_at hl 1 rfl) ?_
        refine lv_ldc (v := (-1000001)) hx hb hown (hts _ m_1433) dX12_air_66 ?_
        refine wV (B := (fun _ => True)) (wr := [(nw, .inl (cy 0, 3567, .inl nw0))]) (rest := []) hx hb hml hown hts hE (c_X12_finding l G cy sk s.heap.size mo nw nk na fd ea so nd cd nmd pl tl fr_ rw_ brw po trc wi sz_ nu ca 0 (-1) 0 0 0 0 0 0 0 0 0 0 0 ff (-1000001) 1 (by decide) (vinL (by decide))) kV_X12_finding m_1434 rfl rfl ⟨(Nat.le_of_ble_eq_true rfl), (Nat.le_of_ble_eq_true rfl)⟩ hP hD hS hA 0 rfl rfl rfl [0, 2] [1] rfl rfl rfl rfl (by decide) rfl rfl hl.1 (Nat.le_of_ble_eq_true rfl) dX12_air_68 ⟨(Nat.le_of_ble_eq_true rfl), (Nat.le_of_ble_eq_true rfl)⟩ (fun r_4 H locs hr_ haf hS => ?_)
        obtain ⟨-, -, hP, hD⟩ := haf
        have hP : va_P G classes [(nw, .inl (cy 0, 3567, .inl nw0))] H := hP
        have hD : va_D A [(nw, .inl (cy 0, 3567, .inl nw0))] := hD
        subst hr_
        refine W.widen (k := 0) (n := 0) (by first | exact Nat.le_of_ble_eq_true rfl | omega) (by first | exact Nat.le_of_ble_eq_true rfl | omega) ?_
        exact W.iret (v := (-1000001)) hx hb hr (fun t ht hW => ⟨⟨(-1000001), (), rfl, (lf_c_X12_air_0 aw av c_1 c_2 c_3), trivial⟩, hS.F ht⟩) hS.2.2 dX12_air_71
      · refine lv_iload_n hx hb dX12_air_34 rfl (lv_at hl 2 rfl) ?_
        refine lv_iconst (v := 0) hx hb dX12_air_35 (by decide) ?_
        refine lv_iconst (v := 1) hx hb dX12_air_36 (by decide) ?_
        refine rS (rest := []) hx hb hml hown hts hE (c_X12_within l G cy sk s.heap.size av 0 1) kS_X12_within m_1427 rfl rfl ⟨(Nat.le_of_ble_eq_true rfl), (Nat.le_of_ble_eq_true rfl)⟩ hP hD [] rfl rfl rfl rfl hl.1 (Nat.le_of_ble_eq_true rfl) dX12_air_37 ⟨(Nat.le_of_ble_eq_true rfl), (Nat.le_of_ble_eq_true rfl)⟩ (fun r_5 hr_ => ?_)
        rcases hr_ with ⟨rfl, h_6⟩ | ⟨rfl, h_6⟩
        · refine lv_if_eq (tgt := 47) hx hb dX12_air_40 (by decide) (fun h9 => absurd h9 (by decide)) (fun _ => ?_)
          refine lv_iconst (v := 1) hx hb dX12_air_43 (by decide) ?_
          refine lv_goto (tgt := 48) hx hb dX12_air_44 (by decide) ?_
          refine lv_istore_n (lv' := [(3, .int 1), (0, .ref mo), (1, .int aw), (2, .int av)]) hx hb dX12_air_48 rfl hl (by decide) rfl (fun ls hl => ?_)
          refine lv_iload_n hx hb dX12_air_49 rfl (lv_at hl 0 rfl) ?_
          refine lv_if_eq (tgt := 65) hx hb dX12_air_50 (by decide) (fun h9 => absurd h9 (by decide)) (fun _ => ?_)
          subst c_3
          refine lv_aload_n hx hb dX12_air_53 rfl (lv_at hl 1 rfl) ?_
          refine lv_bipush (v := 6) hx hb dX12_air_54 (by decide) ?_
          refine lv_iload_n hx hb dX12_air_56 rfl (lv_at hl 2 rfl) ?_
          refine lv_iadd hx hb dX12_air_57 ?_
          refine tp (v := 8) (by decide) ?_
          refine lv_iload_n hx hb dX12_air_58 rfl (lv_at hl 3 rfl) ?_
          refine wV (B := (fun _ => True)) (wr := [(fd, .inl (cy 0, 7, .inl ff))]) (rest := []) hx hb hml hown hts hE (c_X12_become l G cy sk s.heap.size mo nw nk na fd ea so nd cd nmd pl tl fr_ rw_ brw po trc wi sz_ nu ca 0 (-1) 0 0 0 0 0 0 0 0 0 0 0 nw0 8 av 0 (vinL (by decide)) rfl) kV_X12_become m_1481 rfl rfl ⟨(Nat.le_of_ble_eq_true rfl), (Nat.le_of_ble_eq_true rfl)⟩ hP hD hS hA 0 rfl rfl rfl [0, 1] [2] rfl rfl rfl rfl (by decide) rfl rfl hl.1 (Nat.le_of_ble_eq_true rfl) dX12_air_59 ⟨(Nat.le_of_ble_eq_true rfl), (Nat.le_of_ble_eq_true rfl)⟩ (fun r_7 H locs hr_ haf hS => ?_)
          obtain ⟨-, -, hP, hD⟩ := haf
          have hP : va_P G classes [(fd, .inl (cy 0, 7, .inl ff))] H := hP
          have hD : va_D A [(fd, .inl (cy 0, 7, .inl ff))] := hD
          subst hr_
          refine lv_goto (tgt := 71) hx hb dX12_air_62 (by decide) ?_
          refine W.widen (k := 0) (n := 0) (by first | exact Nat.le_of_ble_eq_true rfl | omega) (by first | exact Nat.le_of_ble_eq_true rfl | omega) ?_
          exact W.iret (v := 0) hx hb hr (fun t ht hW => ⟨⟨0, (), rfl, (lf_c_X12_air_1 av h_6), trivial⟩, hS.F ht⟩) hS.2.2 dX12_air_71
        · refine lv_if_eq (tgt := 47) hx hb dX12_air_40 (by decide) (fun _ => ?_) (fun h9 => absurd h9 (by decide))
          refine lv_iconst (v := 0) hx hb dX12_air_47 (by decide) ?_
          refine lv_istore_n (lv' := [(3, .int 0), (0, .ref mo), (1, .int aw), (2, .int av)]) hx hb dX12_air_48 rfl hl (by decide) rfl (fun ls hl => ?_)
          refine lv_iload_n hx hb dX12_air_49 rfl (lv_at hl 0 rfl) ?_
          refine lv_if_eq (tgt := 65) hx hb dX12_air_50 (by decide) (fun _ => ?_) (fun h9 => absurd h9 (by decide))
          refine lv_aload_n hx hb dX12_air_65 rfl (lv_at hl 1 rfl) ?_
          refine lv_ldc (v := (-1000001)) hx hb hown (hts _ m_1433) dX12_air_66 ?_
          refine wV (B := (fun _ => True)) (wr := [(nw, .inl (cy 0, 3567, .inl nw0))]) (rest := []) hx hb hml hown hts hE (c_X12_finding l G cy sk s.heap.size mo nw nk na fd ea so nd cd nmd pl tl fr_ rw_ brw po trc wi sz_ nu ca 0 (-1) 0 0 0 0 0 0 0 0 0 0 0 ff (-1000001) 1 (by decide) (vinL (by decide))) kV_X12_finding m_1434 rfl rfl ⟨(Nat.le_of_ble_eq_true rfl), (Nat.le_of_ble_eq_true rfl)⟩ hP hD hS hA 0 rfl rfl rfl [0, 2] [1] rfl rfl rfl rfl (by decide) rfl rfl hl.1 (Nat.le_of_ble_eq_true rfl) dX12_air_68 ⟨(Nat.le_of_ble_eq_true rfl), (Nat.le_of_ble_eq_true rfl)⟩ (fun r_8 H locs hr_ haf hS => ?_)
          obtain ⟨-, -, hP, hD⟩ := haf
          have hP : va_P G classes [(nw, .inl (cy 0, 3567, .inl nw0))] H := hP
          have hD : va_D A [(nw, .inl (cy 0, 3567, .inl nw0))] := hD
          subst hr_
          refine W.widen (k := 0) (n := 0) (by first | exact Nat.le_of_ble_eq_true rfl | omega) (by first | exact Nat.le_of_ble_eq_true rfl | omega) ?_
          exact W.iret (v := (-1000001)) hx hb hr (fun t ht hW => ⟨⟨(-1000001), (), rfl, (lf_c_X12_air_2 aw av c_1 c_2 c_3 h_6), trivial⟩, hS.F ht⟩) hS.2.2 dX12_air_71
    · refine lv_iload_n hx hb dX12_air_19 rfl (lv_at hl 2 rfl) ?_
      refine lv_iconst (v := 0) hx hb dX12_air_20 (by decide) ?_
      refine lv_bipush (v := 90) hx hb dX12_air_21 (by decide) ?_
      refine rS (rest := []) hx hb hml hown hts hE (c_X12_within l G cy sk s.heap.size av 0 90) kS_X12_within m_1427 rfl rfl ⟨(Nat.le_of_ble_eq_true rfl), (Nat.le_of_ble_eq_true rfl)⟩ hP hD [] rfl rfl rfl rfl hl.1 (Nat.le_of_ble_eq_true rfl) dX12_air_23 ⟨(Nat.le_of_ble_eq_true rfl), (Nat.le_of_ble_eq_true rfl)⟩ (fun r_9 hr_ => ?_)
      rcases hr_ with ⟨rfl, h_10⟩ | ⟨rfl, h_10⟩
      · refine lv_goto (tgt := 48) hx hb dX12_air_26 (by decide) ?_
        refine lv_istore_n (lv' := [(3, .int 1), (0, .ref mo), (1, .int aw), (2, .int av)]) hx hb dX12_air_48 rfl hl (by decide) rfl (fun ls hl => ?_)
        refine lv_iload_n hx hb dX12_air_49 rfl (lv_at hl 0 rfl) ?_
        refine lv_if_eq (tgt := 65) hx hb dX12_air_50 (by decide) (fun h9 => absurd h9 (by decide)) (fun _ => ?_)
        subst c_2
        refine lv_aload_n hx hb dX12_air_53 rfl (lv_at hl 1 rfl) ?_
        refine lv_bipush (v := 6) hx hb dX12_air_54 (by decide) ?_
        refine lv_iload_n hx hb dX12_air_56 rfl (lv_at hl 2 rfl) ?_
        refine lv_iadd hx hb dX12_air_57 ?_
        refine tp (v := 7) (by decide) ?_
        refine lv_iload_n hx hb dX12_air_58 rfl (lv_at hl 3 rfl) ?_
        refine wV (B := (fun _ => True)) (wr := [(fd, .inl (cy 0, 7, .inl ff))]) (rest := []) hx hb hml hown hts hE (c_X12_become l G cy sk s.heap.size mo nw nk na fd ea so nd cd nmd pl tl fr_ rw_ brw po trc wi sz_ nu ca 0 (-1) 0 0 0 0 0 0 0 0 0 0 0 nw0 7 av 9 (vinL (by decide)) rfl) kV_X12_become m_1481 rfl rfl ⟨(Nat.le_of_ble_eq_true rfl), (Nat.le_of_ble_eq_true rfl)⟩ hP hD hS hA 0 rfl rfl rfl [0, 1] [2] rfl rfl rfl rfl (by decide) rfl rfl hl.1 (Nat.le_of_ble_eq_true rfl) dX12_air_59 ⟨(Nat.le_of_ble_eq_true rfl), (Nat.le_of_ble_eq_true rfl)⟩ (fun r_11 H locs hr_ haf hS => ?_)
        obtain ⟨-, -, hP, hD⟩ := haf
        have hP : va_P G classes [(fd, .inl (cy 0, 7, .inl ff))] H := hP
        have hD : va_D A [(fd, .inl (cy 0, 7, .inl ff))] := hD
        subst hr_
        refine lv_goto (tgt := 71) hx hb dX12_air_62 (by decide) ?_
        refine W.widen (k := 0) (n := 0) (by first | exact Nat.le_of_ble_eq_true rfl | omega) (by first | exact Nat.le_of_ble_eq_true rfl | omega) ?_
        exact W.iret (v := 9) hx hb hr (fun t ht hW => ⟨⟨9, (), rfl, (lf_c_X12_air_3 av h_10), trivial⟩, hS.F ht⟩) hS.2.2 dX12_air_71
      · refine lv_goto (tgt := 48) hx hb dX12_air_26 (by decide) ?_
        refine lv_istore_n (lv' := [(3, .int 0), (0, .ref mo), (1, .int aw), (2, .int av)]) hx hb dX12_air_48 rfl hl (by decide) rfl (fun ls hl => ?_)
        refine lv_iload_n hx hb dX12_air_49 rfl (lv_at hl 0 rfl) ?_
        refine lv_if_eq (tgt := 65) hx hb dX12_air_50 (by decide) (fun _ => ?_) (fun h9 => absurd h9 (by decide))
        refine lv_aload_n hx hb dX12_air_65 rfl (lv_at hl 1 rfl) ?_
        refine lv_ldc (v := (-1000001)) hx hb hown (hts _ m_1433) dX12_air_66 ?_
        refine wV (B := (fun _ => True)) (wr := [(nw, .inl (cy 0, 3567, .inl nw0))]) (rest := []) hx hb hml hown hts hE (c_X12_finding l G cy sk s.heap.size mo nw nk na fd ea so nd cd nmd pl tl fr_ rw_ brw po trc wi sz_ nu ca 0 (-1) 0 0 0 0 0 0 0 0 0 0 0 ff (-1000001) 1 (by decide) (vinL (by decide))) kV_X12_finding m_1434 rfl rfl ⟨(Nat.le_of_ble_eq_true rfl), (Nat.le_of_ble_eq_true rfl)⟩ hP hD hS hA 0 rfl rfl rfl [0, 2] [1] rfl rfl rfl rfl (by decide) rfl rfl hl.1 (Nat.le_of_ble_eq_true rfl) dX12_air_68 ⟨(Nat.le_of_ble_eq_true rfl), (Nat.le_of_ble_eq_true rfl)⟩ (fun r_12 H locs hr_ haf hS => ?_)
        obtain ⟨-, -, hP, hD⟩ := haf
        have hP : va_P G classes [(nw, .inl (cy 0, 3567, .inl nw0))] H := hP
        have hD : va_D A [(nw, .inl (cy 0, 3567, .inl nw0))] := hD
        subst hr_
        refine W.widen (k := 0) (n := 0) (by first | exact Nat.le_of_ble_eq_true rfl | omega) (by first | exact Nat.le_of_ble_eq_true rfl | omega) ?_
        exact W.iret (v := (-1000001)) hx hb hr (fun t ht hW => ⟨⟨(-1000001), (), rfl, (lf_c_X12_air_4 aw av c_1 c_2 h_10), trivial⟩, hS.F ht⟩) hS.2.2 dX12_air_71
  · refine lv_iload_n hx hb dX12_air_4 rfl (lv_at hl 2 rfl) ?_
    refine lv_iconst (v := 0) hx hb dX12_air_5 (by decide) ?_
    refine lv_bipush (v := 99) hx hb dX12_air_6 (by decide) ?_
    refine rS (rest := []) hx hb hml hown hts hE (c_X12_within l G cy sk s.heap.size av 0 99) kS_X12_within m_1427 rfl rfl ⟨(Nat.le_of_ble_eq_true rfl), (Nat.le_of_ble_eq_true rfl)⟩ hP hD [] rfl rfl rfl rfl hl.1 (Nat.le_of_ble_eq_true rfl) dX12_air_8 ⟨(Nat.le_of_ble_eq_true rfl), (Nat.le_of_ble_eq_true rfl)⟩ (fun r_13 hr_ => ?_)
    rcases hr_ with ⟨rfl, h_14⟩ | ⟨rfl, h_14⟩
    · refine lv_goto (tgt := 48) hx hb dX12_air_11 (by decide) ?_
      refine lv_istore_n (lv' := [(3, .int 1), (0, .ref mo), (1, .int aw), (2, .int av)]) hx hb dX12_air_48 rfl hl (by decide) rfl (fun ls hl => ?_)
      refine lv_iload_n hx hb dX12_air_49 rfl (lv_at hl 0 rfl) ?_
      refine lv_if_eq (tgt := 65) hx hb dX12_air_50 (by decide) (fun h9 => absurd h9 (by decide)) (fun _ => ?_)
      subst c_1
      refine lv_aload_n hx hb dX12_air_53 rfl (lv_at hl 1 rfl) ?_
      refine lv_bipush (v := 6) hx hb dX12_air_54 (by decide) ?_
      refine lv_iload_n hx hb dX12_air_56 rfl (lv_at hl 2 rfl) ?_
      refine lv_iadd hx hb dX12_air_57 ?_
      refine tp (v := 6) (by decide) ?_
      refine lv_iload_n hx hb dX12_air_58 rfl (lv_at hl 3 rfl) ?_
      refine wV (B := (fun _ => True)) (wr := [(fd, .inl (cy 0, 7, .inl ff))]) (rest := []) hx hb hml hown hts hE (c_X12_become l G cy sk s.heap.size mo nw nk na fd ea so nd cd nmd pl tl fr_ rw_ brw po trc wi sz_ nu ca 0 (-1) 0 0 0 0 0 0 0 0 0 0 0 nw0 6 av 5 (vinL (by decide)) rfl) kV_X12_become m_1481 rfl rfl ⟨(Nat.le_of_ble_eq_true rfl), (Nat.le_of_ble_eq_true rfl)⟩ hP hD hS hA 0 rfl rfl rfl [0, 1] [2] rfl rfl rfl rfl (by decide) rfl rfl hl.1 (Nat.le_of_ble_eq_true rfl) dX12_air_59 ⟨(Nat.le_of_ble_eq_true rfl), (Nat.le_of_ble_eq_true rfl)⟩ (fun r_15 H locs hr_ haf hS => ?_)
      obtain ⟨-, -, hP, hD⟩ := haf
      have hP : va_P G classes [(fd, .inl (cy 0, 7, .inl ff))] H := hP
      have hD : va_D A [(fd, .inl (cy 0, 7, .inl ff))] := hD
      subst hr_
      refine lv_goto (tgt := 71) hx hb dX12_air_62 (by decide) ?_
      refine W.widen (k := 0) (n := 0) (by first | exact Nat.le_of_ble_eq_true rfl | omega) (by first | exact Nat.le_of_ble_eq_true rfl | omega) ?_
      exact W.iret (v := 5) hx hb hr (fun t ht hW => ⟨⟨5, (), rfl, (lf_c_X12_air_5 av h_14), trivial⟩, hS.F ht⟩) hS.2.2 dX12_air_71
    · refine lv_goto (tgt := 48) hx hb dX12_air_11 (by decide) ?_
      refine lv_istore_n (lv' := [(3, .int 0), (0, .ref mo), (1, .int aw), (2, .int av)]) hx hb dX12_air_48 rfl hl (by decide) rfl (fun ls hl => ?_)
      refine lv_iload_n hx hb dX12_air_49 rfl (lv_at hl 0 rfl) ?_
      refine lv_if_eq (tgt := 65) hx hb dX12_air_50 (by decide) (fun _ => ?_) (fun h9 => absurd h9 (by decide))
      refine lv_aload_n hx hb dX12_air_65 rfl (lv_at hl 1 rfl) ?_
      refine lv_ldc (v := (-1000001)) hx hb hown (hts _ m_1433) dX12_air_66 ?_
      refine wV (B := (fun _ => True)) (wr := [(nw, .inl (cy 0, 3567, .inl nw0))]) (rest := []) hx hb hml hown hts hE (c_X12_finding l G cy sk s.heap.size mo nw nk na fd ea so nd cd nmd pl tl fr_ rw_ brw po trc wi sz_ nu ca 0 (-1) 0 0 0 0 0 0 0 0 0 0 0 ff (-1000001) 1 (by decide) (vinL (by decide))) kV_X12_finding m_1434 rfl rfl ⟨(Nat.le_of_ble_eq_true rfl), (Nat.le_of_ble_eq_true rfl)⟩ hP hD hS hA 0 rfl rfl rfl [0, 2] [1] rfl rfl rfl rfl (by decide) rfl rfl hl.1 (Nat.le_of_ble_eq_true rfl) dX12_air_68 ⟨(Nat.le_of_ble_eq_true rfl), (Nat.le_of_ble_eq_true rfl)⟩ (fun r_16 H locs hr_ haf hS => ?_)
      obtain ⟨-, -, hP, hD⟩ := haf
      have hP : va_P G classes [(nw, .inl (cy 0, 3567, .inl nw0))] H := hP
      have hD : va_D A [(nw, .inl (cy 0, 3567, .inl nw0))] := hD
      subst hr_
      refine W.widen (k := 0) (n := 0) (by first | exact Nat.le_of_ble_eq_true rfl | omega) (by first | exact Nat.le_of_ble_eq_true rfl | omega) ?_
      exact W.iret (v := (-1000001)) hx hb hr (fun t ht hW => ⟨⟨(-1000001), (), rfl, (lf_c_X12_air_6 aw av c_1 h_14), trivial⟩, hS.F ht⟩) hS.2.2 dX12_air_71
theorem lf_c_X12_walker_0 (ak : Int32) (ac : Int32) (ad : Int32) (h_2 : inR ak 0 7) (h_4 : inR ac 0 191) (h_6 : inR ad 0 7) : (0 : Int32) = (F_walker ak ac ad) := by first | (simp only [F_walker, *, and_true, true_and, and_false, false_and, if_true, if_false]; done) | (simp [F_walker, *]; done) | (unfold F_walker; simp_all; done)
theorem lf_c_X12_walker_1 (ak : Int32) (ac : Int32) (ad : Int32) (h_2 : inR ak 0 7) (h_4 : inR ac 0 191) (h_6 : ¬ inR ad 0 7) : ((-1000001) : Int32) = (F_walker ak ac ad) := by first | (simp only [F_walker, *, and_true, true_and, and_false, false_and, if_true, if_false]; done) | (simp [F_walker, *]; done) | (unfold F_walker; simp_all; done)
theorem lf_c_X12_walker_2 (ak : Int32) (ac : Int32) (ad : Int32) (h_2 : inR ak 0 7) (h_4 : ¬ inR ac 0 191) : ((-1000001) : Int32) = (F_walker ak ac ad) := by first | (simp only [F_walker, *, and_true, true_and, and_false, false_and, if_true, if_false]; done) | (simp [F_walker, *]; done) | (unfold F_walker; simp_all; done)
theorem lf_c_X12_walker_3 (ak : Int32) (ac : Int32) (ad : Int32) (h_2 : ¬ inR ak 0 7) : ((-1000001) : Int32) = (F_walker ak ac ad) := by first | (simp only [F_walker, *, and_true, true_and, and_false, false_and, if_true, if_false]; done) | (simp [F_walker, *]; done) | (unfold F_walker; simp_all; done)
set_option maxHeartbeats 4000000 in
set_option maxRecDepth 100000 in
theorem c_X12_walker (l : Launch) (G : va_G) (cy : Nat → ClassId) (sk : Nat → Nat) (sz : Nat) (mo : Nat) (nw : Nat) (nk : Nat) (na : Nat) (fd : Nat) (ea : Nat) (so : Nat) (nd : Nat) (cd : Nat) (nmd : Nat) (pl : Nat) (tl : Nat) (fr_ : Nat) (rw_ : Nat) (brw : Nat) (po : Nat) (trc : Nat) (wi : Nat) (sz_ : Nat) (nu : Nat) (ca : Nat) (ff : Nat → Int32) (ak : Int32) (ac : Int32) (ad : Int32)  : Met l yX12_walker (wsO yX12_walker cX12_walker 6 (some .int)) ({ frames := 2, cells := 0, slots := 0, locals := 43 }) (va_Pc [.ref mo, .int ak, .int ac, .int ad] (PR G cy sk sz [(mo, .inr (12, [.ref nw, .ref nk, .ref na, .int 0, .ref fd, .ref ea, .ref so, .int (-1), .ref nd, .int 0, .int 0, .int 0, .int 0, .int 0, .int 0, .ref cd, .ref nmd, .ref pl, .ref tl, .ref fr_, .ref rw_, .ref brw, .int 0, .int 0, .ref po, .ref trc, .int 0, .int 0, .int 0, .ref wi, .ref sz_, .ref nu, .ref ca])), (nw, .inl (cy 0, 3567, .inl nw0)), (fd, .inl (cy 0, 7, .inl ff))])) (va_Qi (fun r (_ : Unit) => r = (F_walker ak ac ad)) (fun _ _ => True) (va_A [(mo, .inr (12, [.ref nw, .ref nk, .ref na, .int 0, .ref fd, .ref ea, .ref so, .int (-1), .ref nd, .int 0, .int 0, .int 0, .int 0, .int 0, .int 0, .ref cd, .ref nmd, .ref pl, .ref tl, .ref fr_, .ref rw_, .ref brw, .int 0, .int 0, .ref po, .ref trc, .int 0, .int 0, .int 0, .ref wi, .ref sz_, .ref nu, .ref ca])), (nw, .inl (cy 0, 3567, .inl nw0)), (fd, .inl (cy 0, 7, .inl ff))] sz)) 0 0 (va_A [(mo, .inr (12, [.ref nw, .ref nk, .ref na, .int 0, .ref fd, .ref ea, .ref so, .int (-1), .ref nd, .int 0, .int 0, .int 0, .int 0, .int 0, .int 0, .ref cd, .ref nmd, .ref pl, .ref tl, .ref fr_, .ref rw_, .ref brw, .int 0, .int 0, .ref po, .ref trc, .int 0, .int 0, .int 0, .ref wi, .ref sz_, .ref nu, .ref ca])), (nw, .inl (cy 0, 3567, .inl nw0)), (fd, .inl (cy 0, 7, .inl ff))] sz) := by
  refine mt (by decide) (Nat.le_of_ble_eq_true rfl) ?_
  intro p e s m below meth c ls hx hb hr hml hts hown hlocks hin hsz hP hE hD hl
  subst hsz
  have hl : lv_has ls 6 [(0, .ref mo), (1, .int ak), (2, .int ac), (3, .int ad)] := hl
  have hD := hD.self (sz := s.heap.size)
  generalize hAe : va_A [(mo, .inr (12, [.ref nw, .ref nk, .ref na, .int 0, .ref fd, .ref ea, .ref so, .int (-1), .ref nd, .int 0, .int 0, .int 0, .int 0, .int 0, .int 0, .ref cd, .ref nmd, .ref pl, .ref tl, .ref fr_, .ref rw_, .ref brw, .int 0, .int 0, .ref po, .ref trc, .int 0, .int 0, .int 0, .ref wi, .ref sz_, .ref nu, .ref ca])), (nw, .inl (cy 0, 3567, .inl nw0)), (fd, .inl (cy 0, 7, .inl ff))] s.heap.size = A at hD ⊢
  have hA : ∀ q : Nat, s.heap.size ≤ q → A q := fun q h => by rw [← hAe]; exact Or.inr h
  have hS : va_S A s.heap s.heap [] := va_S.rf
  refine lv_iload_n hx hb dX12_walker_0 rfl (lv_at hl 1 rfl) ?_
  refine lv_iconst (v := 0) hx hb dX12_walker_1 (by decide) ?_
  refine lv_bipush (v := 7) hx hb dX12_walker_2 (by decide) ?_
  refine rS (rest := []) hx hb hml hown hts hE (c_X12_within l G cy sk s.heap.size ak 0 7) kS_X12_within m_1427 rfl rfl ⟨(Nat.le_of_ble_eq_true rfl), (Nat.le_of_ble_eq_true rfl)⟩ hP hD [] rfl rfl rfl rfl hl.1 (Nat.le_of_ble_eq_true rfl) dX12_walker_4 ⟨(Nat.le_of_ble_eq_true rfl), (Nat.le_of_ble_eq_true rfl)⟩ (fun r_1 hr_ => ?_)
  rcases hr_ with ⟨rfl, h_2⟩ | ⟨rfl, h_2⟩
  · refine lv_if_eq (tgt := 24) hx hb dX12_walker_7 (by decide) (fun h9 => absurd h9 (by decide)) (fun _ => ?_)
    refine lv_iload_n hx hb dX12_walker_10 rfl (lv_at hl 2 rfl) ?_
    refine rS (rest := []) hx hb hml hown hts hE (c_X12_isCell l G cy sk s.heap.size ac) kS_X12_isCell m_1430 rfl rfl ⟨(Nat.le_of_ble_eq_true rfl), (Nat.le_of_ble_eq_true rfl)⟩ hP hD [] rfl rfl rfl rfl hl.1 (Nat.le_of_ble_eq_true rfl) dX12_walker_11 ⟨(Nat.le_of_ble_eq_true rfl), (Nat.le_of_ble_eq_true rfl)⟩ (fun r_3 hr_ => ?_)
    rcases hr_ with ⟨rfl, h_4⟩ | ⟨rfl, h_4⟩
    · refine lv_if_eq (tgt := 24) hx hb dX12_walker_14 (by decide) (fun h9 => absurd h9 (by decide)) (fun _ => ?_)
      refine lv_iload_n hx hb dX12_walker_17 rfl (lv_at hl 3 rfl) ?_
      refine rS (rest := []) hx hb hml hown hts hE (c_X12_isSide l G cy sk s.heap.size ad) kS_X12_isSide m_1473 rfl rfl ⟨(Nat.le_of_ble_eq_true rfl), (Nat.le_of_ble_eq_true rfl)⟩ hP hD [] rfl rfl rfl rfl hl.1 (Nat.le_of_ble_eq_true rfl) dX12_walker_18 ⟨(Nat.le_of_ble_eq_true rfl), (Nat.le_of_ble_eq_true rfl)⟩ (fun r_5 hr_ => ?_)
      rcases hr_ with ⟨rfl, h_6⟩ | ⟨rfl, h_6⟩
      · refine lv_if_ne (tgt := 31) hx hb dX12_walker_21 (by decide) (fun _ => ?_) (fun h9 => absurd h9 (by decide))
        refine lv_aload_n hx hb dX12_walker_31 rfl (lv_at hl 0 rfl) ?_
        refine lv_iload_n hx hb dX12_walker_32 rfl (lv_at hl 2 rfl) ?_
        refine rV (rest := []) hx hb hml hown hts hE (c_X12_isFree l G cy sk s.heap.size mo nw nk na fd ea so nd cd nmd pl tl fr_ rw_ brw po trc wi sz_ nu ca 0 (-1) 0 0 0 0 0 0 0 0 0 0 0 nw0 ac rfl rfl) kV_X12_isFree m_1439 rfl rfl ⟨(Nat.le_of_ble_eq_true rfl), (Nat.le_of_ble_eq_true rfl)⟩ hP hD 0 rfl rfl rfl [0, 1] rfl rfl rfl rfl hl.1 (Nat.le_of_ble_eq_true rfl) dX12_walker_33 ⟨(Nat.le_of_ble_eq_true rfl), (Nat.le_of_ble_eq_true rfl)⟩ (fun r_7 hr_ => ?_)
        subst hr_
        refine lv_if_ne (tgt := 46) hx hb dX12_walker_36 (by decide) (fun _ => ?_) (fun h9 => absurd h9 (by decide))
        refine lv_aload_n hx hb dX12_walker_46 rfl (lv_at hl 0 rfl) ?_
        refine va_get (D := G) (ci := 12) (v := .ref nw) (C := RX12) (T := TX12) (N := 33) hx hb hts inB12 hown hE.1 hP 0 rfl rfl 0 (by decide) (hts _ m_1323) (fun _ h9 => h9) rfl dX12_walker_47 ?_
        refine lv_iconst (v := 2) hx hb dX12_walker_50 (by decide) ?_
        refine va_iald hx hb hE.1 hP 1 0 rfl rfl (vinL (by decide)) dX12_walker_51 ?_
        refine tp (v := 0) rfl ?_
        refine lv_istore (lv' := [(4, .int 0), (0, .ref mo), (1, .int ak), (2, .int ac), (3, .int ad)]) hx hb dX12_walker_52 hl (by decide) rfl (fun ls hl => ?_)
        refine lv_iload hx hb dX12_walker_54 (lv_at hl 0 rfl) ?_
        refine lv_bipush (v := 8) hx hb dX12_walker_56 (by decide) ?_
        refine lv_icmp_ne (tgt := 68) hx hb dX12_walker_58 (by decide) (fun _ => ?_) (fun h9 => absurd h9 (by decide))
        refine lv_aload_n hx hb dX12_walker_68 rfl (lv_at hl 1 rfl) ?_
        refine lv_iload hx hb dX12_walker_69 (lv_at hl 0 rfl) ?_
        refine rV (rest := []) hx hb hml hown hts hE (c_X12_goer l G cy sk s.heap.size mo nw nk na fd ea so nd cd nmd pl tl fr_ rw_ brw po trc wi sz_ nu ca 0 (-1) 0 0 0 0 0 0 0 0 0 0 0 0 180 (by decide)) kV_X12_goer m_1451 rfl rfl ⟨(Nat.le_of_ble_eq_true rfl), (Nat.le_of_ble_eq_true rfl)⟩ hP hD 0 rfl rfl rfl [0] rfl rfl rfl rfl hl.1 (Nat.le_of_ble_eq_true rfl) dX12_walker_71 ⟨(Nat.le_of_ble_eq_true rfl), (Nat.le_of_ble_eq_true rfl)⟩ (fun r_8 hr_ => ?_)
        subst hr_
        refine lv_istore (lv' := [(5, .int 180), (4, .int 0), (0, .ref mo), (1, .int ak), (2, .int ac), (3, .int ad)]) hx hb dX12_walker_74 hl (by decide) rfl (fun ls hl => ?_)
        refine lv_aload_n hx hb dX12_walker_76 rfl (lv_at hl 2 rfl) ?_
        refine va_get (D := G) (ci := 12) (v := .ref nw) (C := RX12) (T := TX12) (N := 33) hx hb hts inB12 hown hE.1 hP 0 rfl rfl 0 (by decide) (hts _ m_1323) (fun _ h9 => h9) rfl dX12_walker_77 ?_
        refine lv_iload hx hb dX12_walker_80 (lv_at hl 0 rfl) ?_
        refine lv_iconst (v := 0) hx hb dX12_walker_82 (by decide) ?_
        refine lv_iadd hx hb dX12_walker_83 ?_
        refine tp (v := 180) (by decide) ?_
        refine lv_iload_n hx hb dX12_walker_84 rfl (lv_at hl 3 rfl) ?_
        refine va_iast hx hb hE.1 hP hD hS 1 0 rfl rfl (vinL (by decide)) dX12_walker_85 (fun H locs hP hD hS => ?_)
        have hP : va_P G classes [(mo, .inr (12, [.ref nw, .ref nk, .ref na, .int 0, .ref fd, .ref ea, .ref so, .int (-1), .ref nd, .int 0, .int 0, .int 0, .int 0, .int 0, .int 0, .ref cd, .ref nmd, .ref pl, .ref tl, .ref fr_, .ref rw_, .ref brw, .int 0, .int 0, .ref po, .ref trc, .int 0, .int 0, .int 0, .ref wi, .ref sz_, .ref nu, .ref ca])), (nw, .inl (cy 0, 3567, .inl (upd nw0 180 ak))), (fd, .inl (cy 0, 7, .inl ff))] H := hP
        have hD : va_D A [(mo, .inr (12, [.ref nw, .ref nk, .ref na, .int 0, .ref fd, .ref ea, .ref so, .int (-1), .ref nd, .int 0, .int 0, .int 0, .int 0, .int 0, .int 0, .ref cd, .ref nmd, .ref pl, .ref tl, .ref fr_, .ref rw_, .ref brw, .int 0, .int 0, .ref po, .ref trc, .int 0, .int 0, .int 0, .ref wi, .ref sz_, .ref nu, .ref ca])), (nw, .inl (cy 0, 3567, .inl (upd nw0 180 ak))), (fd, .inl (cy 0, 7, .inl ff))] := hD
        refine lv_aload_n hx hb dX12_walker_86 rfl (lv_at hl 2 rfl) ?_
        refine va_get (D := G) (ci := 12) (v := .ref nw) (C := RX12) (T := TX12) (N := 33) hx hb hts inB12 hown hE.1 hP 0 rfl rfl 0 (by decide) (hts _ m_1323) (fun _ h9 => h9) rfl dX12_walker_87 ?_
        refine lv_iload hx hb dX12_walker_90 (lv_at hl 0 rfl) ?_
        refine lv_iconst (v := 1) hx hb dX12_walker_92 (by decide) ?_
        refine lv_iadd hx hb dX12_walker_93 ?_
        refine tp (v := 181) (by decide) ?_
        refine lv_iload_n hx hb dX12_walker_94 rfl (lv_at hl 4 rfl) ?_
        refine va_iast hx hb hE.1 hP hD hS 1 0 rfl rfl (vinL (by decide)) dX12_walker_95 (fun H locs hP hD hS => ?_)
        have hP : va_P G classes [(mo, .inr (12, [.ref nw, .ref nk, .ref na, .int 0, .ref fd, .ref ea, .ref so, .int (-1), .ref nd, .int 0, .int 0, .int 0, .int 0, .int 0, .int 0, .ref cd, .ref nmd, .ref pl, .ref tl, .ref fr_, .ref rw_, .ref brw, .int 0, .int 0, .ref po, .ref trc, .int 0, .int 0, .int 0, .ref wi, .ref sz_, .ref nu, .ref ca])), (nw, .inl (cy 0, 3567, .inl (upd (upd nw0 180 ak) 181 ac))), (fd, .inl (cy 0, 7, .inl ff))] H := hP
        have hD : va_D A [(mo, .inr (12, [.ref nw, .ref nk, .ref na, .int 0, .ref fd, .ref ea, .ref so, .int (-1), .ref nd, .int 0, .int 0, .int 0, .int 0, .int 0, .int 0, .ref cd, .ref nmd, .ref pl, .ref tl, .ref fr_, .ref rw_, .ref brw, .int 0, .int 0, .ref po, .ref trc, .int 0, .int 0, .int 0, .ref wi, .ref sz_, .ref nu, .ref ca])), (nw, .inl (cy 0, 3567, .inl (upd (upd nw0 180 ak) 181 ac))), (fd, .inl (cy 0, 7, .inl ff))] := hD
        refine lv_aload_n hx hb dX12_walker_96 rfl (lv_at hl 2 rfl) ?_
        refine va_get (D := G) (ci := 12) (v := .ref nw) (C := RX12) (T := TX12) (N := 33) hx hb hts inB12 hown hE.1 hP 0 rfl rfl 0 (by decide) (hts _ m_1323) (fun _ h9 => h9) rfl dX12_walker_97 ?_
        refine lv_iload hx hb dX12_walker_100 (lv_at hl 0 rfl) ?_
        refine lv_iconst (v := 2) hx hb dX12_walker_102 (by decide) ?_
        refine lv_iadd hx hb dX12_walker_103 ?_
        refine tp (v := 182) (by decide) ?_
        refine lv_iload_n hx hb dX12_walker_104 rfl (lv_at hl 5 rfl) ?_
        refine va_iast hx hb hE.1 hP hD hS 1 0 rfl rfl (vinL (by decide)) dX12_walker_105 (fun H locs hP hD hS => ?_)
        have hP : va_P G classes [(mo, .inr (12, [.ref nw, .ref nk, .ref na, .int 0, .ref fd, .ref ea, .ref so, .int (-1), .ref nd, .int 0, .int 0, .int 0, .int 0, .int 0, .int 0, .ref cd, .ref nmd, .ref pl, .ref tl, .ref fr_, .ref rw_, .ref brw, .int 0, .int 0, .ref po, .ref trc, .int 0, .int 0, .int 0, .ref wi, .ref sz_, .ref nu, .ref ca])), (nw, .inl (cy 0, 3567, .inl (upd (upd (upd nw0 180 ak) 181 ac) 182 ad))), (fd, .inl (cy 0, 7, .inl ff))] H := hP
        have hD : va_D A [(mo, .inr (12, [.ref nw, .ref nk, .ref na, .int 0, .ref fd, .ref ea, .ref so, .int (-1), .ref nd, .int 0, .int 0, .int 0, .int 0, .int 0, .int 0, .ref cd, .ref nmd, .ref pl, .ref tl, .ref fr_, .ref rw_, .ref brw, .int 0, .int 0, .ref po, .ref trc, .int 0, .int 0, .int 0, .ref wi, .ref sz_, .ref nu, .ref ca])), (nw, .inl (cy 0, 3567, .inl (upd (upd (upd nw0 180 ak) 181 ac) 182 ad))), (fd, .inl (cy 0, 7, .inl ff))] := hD
        refine lv_aload_n hx hb dX12_walker_106 rfl (lv_at hl 2 rfl) ?_
        refine va_get (D := G) (ci := 12) (v := .ref nw) (C := RX12) (T := TX12) (N := 33) hx hb hts inB12 hown hE.1 hP 0 rfl rfl 0 (by decide) (hts _ m_1323) (fun _ h9 => h9) rfl dX12_walker_107 ?_
        refine lv_iload hx hb dX12_walker_110 (lv_at hl 0 rfl) ?_
        refine lv_iconst (v := 3) hx hb dX12_walker_112 (by decide) ?_
        refine lv_iadd hx hb dX12_walker_113 ?_
        refine tp (v := 183) (by decide) ?_
        refine lv_iconst (v := 5) hx hb dX12_walker_114 (by decide) ?_
        refine va_iast hx hb hE.1 hP hD hS 1 0 rfl rfl (vinL (by decide)) dX12_walker_115 (fun H locs hP hD hS => ?_)
        have hP : va_P G classes [(mo, .inr (12, [.ref nw, .ref nk, .ref na, .int 0, .ref fd, .ref ea, .ref so, .int (-1), .ref nd, .int 0, .int 0, .int 0, .int 0, .int 0, .int 0, .ref cd, .ref nmd, .ref pl, .ref tl, .ref fr_, .ref rw_, .ref brw, .int 0, .int 0, .ref po, .ref trc, .int 0, .int 0, .int 0, .ref wi, .ref sz_, .ref nu, .ref ca])), (nw, .inl (cy 0, 3567, .inl (upd (upd (upd (upd nw0 180 ak) 181 ac) 182 ad) 183 5))), (fd, .inl (cy 0, 7, .inl ff))] H := hP
        have hD : va_D A [(mo, .inr (12, [.ref nw, .ref nk, .ref na, .int 0, .ref fd, .ref ea, .ref so, .int (-1), .ref nd, .int 0, .int 0, .int 0, .int 0, .int 0, .int 0, .ref cd, .ref nmd, .ref pl, .ref tl, .ref fr_, .ref rw_, .ref brw, .int 0, .int 0, .ref po, .ref trc, .int 0, .int 0, .int 0, .ref wi, .ref sz_, .ref nu, .ref ca])), (nw, .inl (cy 0, 3567, .inl (upd (upd (upd (upd nw0 180 ak) 181 ac) 182 ad) 183 5))), (fd, .inl (cy 0, 7, .inl ff))] := hD
        refine lv_aload_n hx hb dX12_walker_116 rfl (lv_at hl 2 rfl) ?_
        refine va_get (D := G) (ci := 12) (v := .ref nw) (C := RX12) (T := TX12) (N := 33) hx hb hts inB12 hown hE.1 hP 0 rfl rfl 0 (by decide) (hts _ m_1323) (fun _ h9 => h9) rfl dX12_walker_117 ?_
        refine lv_iload hx hb dX12_walker_120 (lv_at hl 0 rfl) ?_
        refine lv_iconst (v := 4) hx hb dX12_walker_122 (by decide) ?_
        refine lv_iadd hx hb dX12_walker_123 ?_
        refine tp (v := 184) (by decide) ?_
        refine lv_bipush (v := 60) hx hb dX12_walker_124 (by decide) ?_
        refine va_iast hx hb hE.1 hP hD hS 1 0 rfl rfl (vinL (by decide)) dX12_walker_126 (fun H locs hP hD hS => ?_)
        have hP : va_P G classes [(mo, .inr (12, [.ref nw, .ref nk, .ref na, .int 0, .ref fd, .ref ea, .ref so, .int (-1), .ref nd, .int 0, .int 0, .int 0, .int 0, .int 0, .int 0, .ref cd, .ref nmd, .ref pl, .ref tl, .ref fr_, .ref rw_, .ref brw, .int 0, .int 0, .ref po, .ref trc, .int 0, .int 0, .int 0, .ref wi, .ref sz_, .ref nu, .ref ca])), (nw, .inl (cy 0, 3567, .inl (upd (upd (upd (upd (upd nw0 180 ak) 181 ac) 182 ad) 183 5) 184 60))), (fd, .inl (cy 0, 7, .inl ff))] H := hP
        have hD : va_D A [(mo, .inr (12, [.ref nw, .ref nk, .ref na, .int 0, .ref fd, .ref ea, .ref so, .int (-1), .ref nd, .int 0, .int 0, .int 0, .int 0, .int 0, .int 0, .ref cd, .ref nmd, .ref pl, .ref tl, .ref fr_, .ref rw_, .ref brw, .int 0, .int 0, .ref po, .ref trc, .int 0, .int 0, .int 0, .ref wi, .ref sz_, .ref nu, .ref ca])), (nw, .inl (cy 0, 3567, .inl (upd (upd (upd (upd (upd nw0 180 ak) 181 ac) 182 ad) 183 5) 184 60))), (fd, .inl (cy 0, 7, .inl ff))] := hD
        refine lv_aload_n hx hb dX12_walker_127 rfl (lv_at hl 2 rfl) ?_
        refine va_get (D := G) (ci := 12) (v := .ref nw) (C := RX12) (T := TX12) (N := 33) hx hb hts inB12 hown hE.1 hP 0 rfl rfl 0 (by decide) (hts _ m_1323) (fun _ h9 => h9) rfl dX12_walker_128 ?_
        refine lv_iconst (v := 2) hx hb dX12_walker_131 (by decide) ?_
        refine lv_dup2_11 hx hb dX12_walker_132 rfl rfl ?_
        refine va_iald hx hb hE.1 hP 1 0 rfl rfl (vinL (by decide)) dX12_walker_133 ?_
        refine tp (v := 0) rfl ?_
        refine lv_iconst (v := 1) hx hb dX12_walker_134 (by decide) ?_
        refine lv_iadd hx hb dX12_walker_135 ?_
        refine tp (v := 1) (by decide) ?_
        refine va_iast hx hb hE.1 hP hD hS 1 0 rfl rfl (vinL (by decide)) dX12_walker_136 (fun H locs hP hD hS => ?_)
        have hP : va_P G classes [(mo, .inr (12, [.ref nw, .ref nk, .ref na, .int 0, .ref fd, .ref ea, .ref so, .int (-1), .ref nd, .int 0, .int 0, .int 0, .int 0, .int 0, .int 0, .ref cd, .ref nmd, .ref pl, .ref tl, .ref fr_, .ref rw_, .ref brw, .int 0, .int 0, .ref po, .ref trc, .int 0, .int 0, .int 0, .ref wi, .ref sz_, .ref nu, .ref ca])), (nw, .inl (cy 0, 3567, .inl (upd (upd (upd (upd (upd (upd nw0 180 ak) 181 ac) 182 ad) 183 5) 184 60) 2 1))), (fd, .inl (cy 0, 7, .inl ff))] H := hP
        have hD : va_D A [(mo, .inr (12, [.ref nw, .ref nk, .ref na, .int 0, .ref fd, .ref ea, .ref so, .int (-1), .ref nd, .int 0, .int 0, .int 0, .int 0, .int 0, .int 0, .ref cd, .ref nmd, .ref pl, .ref tl, .ref fr_, .ref rw_, .ref brw, .int 0, .int 0, .ref po, .ref trc, .int 0, .int 0, .int 0, .ref wi, .ref sz_, .ref nu, .ref ca])), (nw, .inl (cy 0, 3567, .inl (upd (upd (upd (upd (upd (upd nw0 180 ak) 181 ac) 182 ad) 183 5) 184 60) 2 1))), (fd, .inl (cy 0, 7, .inl ff))] := hD
        refine lv_iload hx hb dX12_walker_137 (lv_at hl 1 rfl) ?_
        refine W.widen (k := 0) (n := 0) (by first | exact Nat.le_of_ble_eq_true rfl | omega) (by first | exact Nat.le_of_ble_eq_true rfl | omega) ?_
        exact W.iret (v := 0) hx hb hr (fun t ht hW => ⟨⟨0, (), rfl, (lf_c_X12_walker_0 ak ac ad h_2 h_4 h_6), trivial⟩, hS.F ht⟩) hS.2.2 dX12_walker_139
      · refine lv_if_ne (tgt := 31) hx hb dX12_walker_21 (by decide) (fun h9 => absurd h9 (by decide)) (fun _ => ?_)
        refine lv_aload_n hx hb dX12_walker_24 rfl (lv_at hl 0 rfl) ?_
        refine lv_ldc (v := (-1000001)) hx hb hown (hts _ m_1433) dX12_walker_25 ?_
        refine wV (B := (fun _ => True)) (wr := [(nw, .inl (cy 0, 3567, .inl nw0))]) (rest := []) hx hb hml hown hts hE (c_X12_finding l G cy sk s.heap.size mo nw nk na fd ea so nd cd nmd pl tl fr_ rw_ brw po trc wi sz_ nu ca 0 (-1) 0 0 0 0 0 0 0 0 0 0 0 ff (-1000001) 1 (by decide) (vinL (by decide))) kV_X12_finding m_1434 rfl rfl ⟨(Nat.le_of_ble_eq_true rfl), (Nat.le_of_ble_eq_true rfl)⟩ hP hD hS hA 0 rfl rfl rfl [0, 2] [1] rfl rfl rfl rfl (by decide) rfl rfl hl.1 (Nat.le_of_ble_eq_true rfl) dX12_walker_27 ⟨(Nat.le_of_ble_eq_true rfl), (Nat.le_of_ble_eq_true rfl)⟩ (fun r_9 H locs hr_ haf hS => ?_)
        obtain ⟨-, -, hP, hD⟩ := haf
        have hP : va_P G classes [(nw, .inl (cy 0, 3567, .inl nw0))] H := hP
        have hD : va_D A [(nw, .inl (cy 0, 3567, .inl nw0))] := hD
        subst hr_
        refine W.widen (k := 0) (n := 0) (by first | exact Nat.le_of_ble_eq_true rfl | omega) (by first | exact Nat.le_of_ble_eq_true rfl | omega) ?_
        exact W.iret (v := (-1000001)) hx hb hr (fun t ht hW => ⟨⟨(-1000001), (), rfl, (lf_c_X12_walker_1 ak ac ad h_2 h_4 h_6), trivial⟩, hS.F ht⟩) hS.2.2 dX12_walker_30
    · refine lv_if_eq (tgt := 24) hx hb dX12_walker_14 (by decide) (fun _ => ?_) (fun h9 => absurd h9 (by decide))
      refine lv_aload_n hx hb dX12_walker_24 rfl (lv_at hl 0 rfl) ?_
      refine lv_ldc (v := (-1000001)) hx hb hown (hts _ m_1433) dX12_walker_25 ?_
      refine wV (B := (fun _ => True)) (wr := [(nw, .inl (cy 0, 3567, .inl nw0))]) (rest := []) hx hb hml hown hts hE (c_X12_finding l G cy sk s.heap.size mo nw nk na fd ea so nd cd nmd pl tl fr_ rw_ brw po trc wi sz_ nu ca 0 (-1) 0 0 0 0 0 0 0 0 0 0 0 ff (-1000001) 1 (by decide) (vinL (by decide))) kV_X12_finding m_1434 rfl rfl ⟨(Nat.le_of_ble_eq_true rfl), (Nat.le_of_ble_eq_true rfl)⟩ hP hD hS hA 0 rfl rfl rfl [0, 2] [1] rfl rfl rfl rfl (by decide) rfl rfl hl.1 (Nat.le_of_ble_eq_true rfl) dX12_walker_27 ⟨(Nat.le_of_ble_eq_true rfl), (Nat.le_of_ble_eq_true rfl)⟩ (fun r_10 H locs hr_ haf hS => ?_)
      obtain ⟨-, -, hP, hD⟩ := haf
      have hP : va_P G classes [(nw, .inl (cy 0, 3567, .inl nw0))] H := hP
      have hD : va_D A [(nw, .inl (cy 0, 3567, .inl nw0))] := hD
      subst hr_
      refine W.widen (k := 0) (n := 0) (by first | exact Nat.le_of_ble_eq_true rfl | omega) (by first | exact Nat.le_of_ble_eq_true rfl | omega) ?_
      exact W.iret (v := (-1000001)) hx hb hr (fun t ht hW => ⟨⟨(-1000001), (), rfl, (lf_c_X12_walker_2 ak ac ad h_2 h_4), trivial⟩, hS.F ht⟩) hS.2.2 dX12_walker_30
  · refine lv_if_eq (tgt := 24) hx hb dX12_walker_7 (by decide) (fun _ => ?_) (fun h9 => absurd h9 (by decide))
    refine lv_aload_n hx hb dX12_walker_24 rfl (lv_at hl 0 rfl) ?_
    refine lv_ldc (v := (-1000001)) hx hb hown (hts _ m_1433) dX12_walker_25 ?_
    refine wV (B := (fun _ => True)) (wr := [(nw, .inl (cy 0, 3567, .inl nw0))]) (rest := []) hx hb hml hown hts hE (c_X12_finding l G cy sk s.heap.size mo nw nk na fd ea so nd cd nmd pl tl fr_ rw_ brw po trc wi sz_ nu ca 0 (-1) 0 0 0 0 0 0 0 0 0 0 0 ff (-1000001) 1 (by decide) (vinL (by decide))) kV_X12_finding m_1434 rfl rfl ⟨(Nat.le_of_ble_eq_true rfl), (Nat.le_of_ble_eq_true rfl)⟩ hP hD hS hA 0 rfl rfl rfl [0, 2] [1] rfl rfl rfl rfl (by decide) rfl rfl hl.1 (Nat.le_of_ble_eq_true rfl) dX12_walker_27 ⟨(Nat.le_of_ble_eq_true rfl), (Nat.le_of_ble_eq_true rfl)⟩ (fun r_11 H locs hr_ haf hS => ?_)
    obtain ⟨-, -, hP, hD⟩ := haf
    have hP : va_P G classes [(nw, .inl (cy 0, 3567, .inl nw0))] H := hP
    have hD : va_D A [(nw, .inl (cy 0, 3567, .inl nw0))] := hD
    subst hr_
    refine W.widen (k := 0) (n := 0) (by first | exact Nat.le_of_ble_eq_true rfl | omega) (by first | exact Nat.le_of_ble_eq_true rfl | omega) ?_
    exact W.iret (v := (-1000001)) hx hb hr (fun t ht hW => ⟨⟨(-1000001), (), rfl, (lf_c_X12_walker_3 ak ac ad h_2), trivial⟩, hS.F ht⟩) hS.2.2 dX12_walker_30
