set_option maxHeartbeats 4000000 in
set_option maxRecDepth 100000 in
theorem c_X12_thingIs (l : Launch) (G : va_G) (cy : Nat → ClassId) (sk : Nat → Nat) (sz : Nat) (mo : Nat) (nw : Nat) (nk : Nat) (na : Nat) (fd : Nat) (ea : Nat) (so : Nat) (nd : Nat) (cd : Nat) (nmd : Nat) (pl : Nat) (tl : Nat) (fr_ : Nat) (rw_ : Nat) (brw : Nat) (po : Nat) (trc : Nat) (wi : Nat) (sz_ : Nat) (nu : Nat) (ca : Nat) (ff : Nat → Int32) (a1 : Int32) (a2 : Int32)  : Met l yX12_thingIs (wsO yX12_thingIs cX12_thingIs 3 (some .int)) ({ frames := 2, cells := 0, slots := 0, locals := 44 }) (va_Pc [.ref mo, .int a1, .int a2] (PR G cy sk sz [(mo, .inr (12, [.ref nw, .ref nk, .ref na, .int 0, .ref fd, .ref ea, .ref so, .int (-1), .ref nd, .int 0, .int 0, .int 0, .int 0, .int 0, .int 0, .ref cd, .ref nmd, .ref pl, .ref tl, .ref fr_, .ref rw_, .ref brw, .int 0, .int 0, .ref po, .ref trc, .int 0, .int 0, .int 0, .ref wi, .ref sz_, .ref nu, .ref ca])), (nw, .inl (cy 0, 3567, .inl nw0)), (fd, .inl (cy 0, 7, .inl ff))])) (va_Qi (fun r (_ : Unit) => r = (-1000001)) (fun _ _ => True) (va_A [(mo, .inr (12, [.ref nw, .ref nk, .ref na, .int 0, .ref fd, .ref ea, .ref so, .int (-1), .ref nd, .int 0, .int 0, .int 0, .int 0, .int 0, .int 0, .ref cd, .ref nmd, .ref pl, .ref tl, .ref fr_, .ref rw_, .ref brw, .int 0, .int 0, .ref po, .ref trc, .int 0, .int 0, .int 0, .ref wi, .ref sz_, .ref nu, .ref ca])), (nw, .inl (cy 0, 3567, .inl nw0)), (fd, .inl (cy 0, 7, .inl ff))] sz)) 0 0 (va_A [(mo, .inr (12, [.ref nw, .ref nk, .ref na, .int 0, .ref fd, .ref ea, .ref so, .int (-1), .ref nd, .int 0, .int 0, .int 0, .int 0, .int 0, .int 0, .ref cd, .ref nmd, .ref pl, .ref tl, .ref fr_, .ref rw_, .ref brw, .int 0, .int 0, .ref po, .ref trc, .int 0, .int 0, .int 0, .ref wi, .ref sz_, .ref nu, .ref ca])), (nw, .inl (cy 0, 3567, .inl nw0)), (fd, .inl (cy 0, 7, .inl ff))] sz) := by
  refine mt (by decide) (Nat.le_of_ble_eq_true rfl) ?_
  intro p e s m below meth c ls hx hb hr hml hts hown hlocks hin hsz hP hE hD hl
  subst hsz
  have hl : lv_has ls 3 [(0, .ref mo), (1, .int a1), (2, .int a2)] := hl
  have hD := hD.self (sz := s.heap.size)
  generalize hAe : va_A [(mo, .inr (12, [.ref nw, .ref nk, .ref na, .int 0, .ref fd, .ref ea, .ref so, .int (-1), .ref nd, .int 0, .int 0, .int 0, .int 0, .int 0, .int 0, .ref cd, .ref nmd, .ref pl, .ref tl, .ref fr_, .ref rw_, .ref brw, .int 0, .int 0, .ref po, .ref trc, .int 0, .int 0, .int 0, .ref wi, .ref sz_, .ref nu, .ref ca])), (nw, .inl (cy 0, 3567, .inl nw0)), (fd, .inl (cy 0, 7, .inl ff))] s.heap.size = A at hD ⊢
  have hA : ∀ q : Nat, s.heap.size ≤ q → A q := fun q h => by rw [← hAe]; exact Or.inr h
  have hS : va_S A s.heap s.heap [] := va_S.rf
  refine lv_aload_n hx hb dX12_thingIs_0 rfl (lv_at hl 0 rfl) ?_
  refine lv_iload_n hx hb dX12_thingIs_1 rfl (lv_at hl 1 rfl) ?_
  refine lv_iconst (v := 1) hx hb dX12_thingIs_2 (by decide) ?_
  refine rV (rest := []) hx hb hml hown hts hE (c_X12_is l G cy sk s.heap.size mo nw nk na fd ea so nd cd nmd pl tl fr_ rw_ brw po trc wi sz_ nu ca 0 (-1) 0 0 0 0 0 0 0 0 0 0 0 nw0 a1 1 (vinL (by decide)) rfl) kV_X12_is m_1465 rfl rfl ⟨(Nat.le_of_ble_eq_true rfl), (Nat.le_of_ble_eq_true rfl)⟩ hP hD 0 rfl rfl rfl [0, 1] rfl rfl rfl rfl hl.1 (Nat.le_of_ble_eq_true rfl) dX12_thingIs_3 ⟨(Nat.le_of_ble_eq_true rfl), (Nat.le_of_ble_eq_true rfl)⟩ (fun r_1 hr_ => ?_)
  subst hr_
  refine lv_if_eq (tgt := 33) hx hb dX12_thingIs_6 (by decide) (fun _ => ?_) (fun h9 => absurd h9 (by decide))
  refine lv_aload_n hx hb dX12_thingIs_33 rfl (lv_at hl 0 rfl) ?_
  refine lv_ldc (v := (-1000001)) hx hb hown (hts _ m_1433) dX12_thingIs_34 ?_
  refine wV (B := (fun _ => True)) (wr := [(nw, .inl (cy 0, 3567, .inl nw0))]) (rest := []) hx hb hml hown hts hE (c_X12_finding l G cy sk s.heap.size mo nw nk na fd ea so nd cd nmd pl tl fr_ rw_ brw po trc wi sz_ nu ca 0 (-1) 0 0 0 0 0 0 0 0 0 0 0 ff (-1000001) 1 (by decide) (vinL (by decide))) kV_X12_finding m_1434 rfl rfl ⟨(Nat.le_of_ble_eq_true rfl), (Nat.le_of_ble_eq_true rfl)⟩ hP hD hS hA 0 rfl rfl rfl [0, 2] [1] rfl rfl rfl rfl (by decide) rfl rfl hl.1 (Nat.le_of_ble_eq_true rfl) dX12_thingIs_36 ⟨(Nat.le_of_ble_eq_true rfl), (Nat.le_of_ble_eq_true rfl)⟩ (fun r_2 H locs hr_ haf hS => ?_)
  obtain ⟨-, -, hP, hD⟩ := haf
  have hP : va_P G classes [(nw, .inl (cy 0, 3567, .inl nw0))] H := hP
  have hD : va_D A [(nw, .inl (cy 0, 3567, .inl nw0))] := hD
  subst hr_
  refine W.widen (k := 0) (n := 0) (by first | exact Nat.le_of_ble_eq_true rfl | omega) (by first | exact Nat.le_of_ble_eq_true rfl | omega) ?_
  exact W.iret (v := (-1000001)) hx hb hr (fun t ht hW => ⟨⟨(-1000001), (), rfl, rfl, trivial⟩, hS.F ht⟩) hS.2.2 dX12_thingIs_39
set_option maxHeartbeats 4000000 in
set_option maxRecDepth 100000 in
theorem c_X12_moves (l : Launch) (G : va_G) (cy : Nat → ClassId) (sk : Nat → Nat) (sz : Nat) (mo : Nat) (nw : Nat) (nk : Nat) (na : Nat) (fd : Nat) (ea : Nat) (so : Nat) (nd : Nat) (cd : Nat) (nmd : Nat) (pl : Nat) (tl : Nat) (fr_ : Nat) (rw_ : Nat) (brw : Nat) (po : Nat) (trc : Nat) (wi : Nat) (sz_ : Nat) (nu : Nat) (ca : Nat) (ff : Nat → Int32) (a1 : Int32) (a2 : Int32) (a3 : Int32)  : Met l yX12_moves (wsO yX12_moves cX12_moves 4 (some .int)) ({ frames := 2, cells := 0, slots := 0, locals := 44 }) (va_Pc [.ref mo, .int a1, .int a2, .int a3] (PR G cy sk sz [(mo, .inr (12, [.ref nw, .ref nk, .ref na, .int 0, .ref fd, .ref ea, .ref so, .int (-1), .ref nd, .int 0, .int 0, .int 0, .int 0, .int 0, .int 0, .ref cd, .ref nmd, .ref pl, .ref tl, .ref fr_, .ref rw_, .ref brw, .int 0, .int 0, .ref po, .ref trc, .int 0, .int 0, .int 0, .ref wi, .ref sz_, .ref nu, .ref ca])), (nw, .inl (cy 0, 3567, .inl nw0)), (fd, .inl (cy 0, 7, .inl ff))])) (va_Qi (fun r (_ : Unit) => r = (-1000001)) (fun _ _ => True) (va_A [(mo, .inr (12, [.ref nw, .ref nk, .ref na, .int 0, .ref fd, .ref ea, .ref so, .int (-1), .ref nd, .int 0, .int 0, .int 0, .int 0, .int 0, .int 0, .ref cd, .ref nmd, .ref pl, .ref tl, .ref fr_, .ref rw_, .ref brw, .int 0, .int 0, .ref po, .ref trc, .int 0, .int 0, .int 0, .ref wi, .ref sz_, .ref nu, .ref ca])), (nw, .inl (cy 0, 3567, .inl nw0)), (fd, .inl (cy 0, 7, .inl ff))] sz)) 0 0 (va_A [(mo, .inr (12, [.ref nw, .ref nk, .ref na, .int 0, .ref fd, .ref ea, .ref so, .int (-1), .ref nd, .int 0, .int 0, .int 0, .int 0, .int 0, .int 0, .ref cd, .ref nmd, .ref pl, .ref tl, .ref fr_, .ref rw_, .ref brw, .int 0, .int 0, .ref po, .ref trc, .int 0, .int 0, .int 0, .ref wi, .ref sz_, .ref nu, .ref ca])), (nw, .inl (cy 0, 3567, .inl nw0)), (fd, .inl (cy 0, 7, .inl ff))] sz) := by
  refine mt (by decide) (Nat.le_of_ble_eq_true rfl) ?_
  intro p e s m below meth c ls hx hb hr hml hts hown hlocks hin hsz hP hE hD hl
  subst hsz
  have hl : lv_has ls 4 [(0, .ref mo), (1, .int a1), (2, .int a2), (3, .int a3)] := hl
  have hD := hD.self (sz := s.heap.size)
  generalize hAe : va_A [(mo, .inr (12, [.ref nw, .ref nk, .ref na, .int 0, .ref fd, .ref ea, .ref so, .int (-1), .ref nd, .int 0, .int 0, .int 0, .int 0, .int 0, .int 0, .ref cd, .ref nmd, .ref pl, .ref tl, .ref fr_, .ref rw_, .ref brw, .int 0, .int 0, .ref po, .ref trc, .int 0, .int 0, .int 0, .ref wi, .ref sz_, .ref nu, .ref ca])), (nw, .inl (cy 0, 3567, .inl nw0)), (fd, .inl (cy 0, 7, .inl ff))] s.heap.size = A at hD ⊢
  have hA : ∀ q : Nat, s.heap.size ≤ q → A q := fun q h => by rw [← hAe]; exact Or.inr h
  have hS : va_S A s.heap s.heap [] := va_S.rf
  refine lv_aload_n hx hb dX12_moves_0 rfl (lv_at hl 0 rfl) ?_
  refine lv_iload_n hx hb dX12_moves_1 rfl (lv_at hl 1 rfl) ?_
  refine lv_iconst (v := 1) hx hb dX12_moves_2 (by decide) ?_
  refine rV (rest := []) hx hb hml hown hts hE (c_X12_is l G cy sk s.heap.size mo nw nk na fd ea so nd cd nmd pl tl fr_ rw_ brw po trc wi sz_ nu ca 0 (-1) 0 0 0 0 0 0 0 0 0 0 0 nw0 a1 1 (vinL (by decide)) rfl) kV_X12_is m_1465 rfl rfl ⟨(Nat.le_of_ble_eq_true rfl), (Nat.le_of_ble_eq_true rfl)⟩ hP hD 0 rfl rfl rfl [0, 1] rfl rfl rfl rfl hl.1 (Nat.le_of_ble_eq_true rfl) dX12_moves_3 ⟨(Nat.le_of_ble_eq_true rfl), (Nat.le_of_ble_eq_true rfl)⟩ (fun r_1 hr_ => ?_)
  subst hr_
  refine lv_if_eq (tgt := 26) hx hb dX12_moves_6 (by decide) (fun _ => ?_) (fun h9 => absurd h9 (by decide))
  refine lv_aload_n hx hb dX12_moves_26 rfl (lv_at hl 0 rfl) ?_
  refine lv_ldc (v := (-1000001)) hx hb hown (hts _ m_1433) dX12_moves_27 ?_
  refine wV (B := (fun _ => True)) (wr := [(nw, .inl (cy 0, 3567, .inl nw0))]) (rest := []) hx hb hml hown hts hE (c_X12_finding l G cy sk s.heap.size mo nw nk na fd ea so nd cd nmd pl tl fr_ rw_ brw po trc wi sz_ nu ca 0 (-1) 0 0 0 0 0 0 0 0 0 0 0 ff (-1000001) 1 (by decide) (vinL (by decide))) kV_X12_finding m_1434 rfl rfl ⟨(Nat.le_of_ble_eq_true rfl), (Nat.le_of_ble_eq_true rfl)⟩ hP hD hS hA 0 rfl rfl rfl [0, 2] [1] rfl rfl rfl rfl (by decide) rfl rfl hl.1 (Nat.le_of_ble_eq_true rfl) dX12_moves_29 ⟨(Nat.le_of_ble_eq_true rfl), (Nat.le_of_ble_eq_true rfl)⟩ (fun r_2 H locs hr_ haf hS => ?_)
  obtain ⟨-, -, hP, hD⟩ := haf
  have hP : va_P G classes [(nw, .inl (cy 0, 3567, .inl nw0))] H := hP
  have hD : va_D A [(nw, .inl (cy 0, 3567, .inl nw0))] := hD
  subst hr_
  refine W.widen (k := 0) (n := 0) (by first | exact Nat.le_of_ble_eq_true rfl | omega) (by first | exact Nat.le_of_ble_eq_true rfl | omega) ?_
  exact W.iret (v := (-1000001)) hx hb hr (fun t ht hW => ⟨⟨(-1000001), (), rfl, rfl, trivial⟩, hS.F ht⟩) hS.2.2 dX12_moves_32
set_option maxHeartbeats 4000000 in
set_option maxRecDepth 100000 in
theorem c_X12_away (l : Launch) (G : va_G) (cy : Nat → ClassId) (sk : Nat → Nat) (sz : Nat) (mo : Nat) (nw : Nat) (nk : Nat) (na : Nat) (fd : Nat) (ea : Nat) (so : Nat) (nd : Nat) (cd : Nat) (nmd : Nat) (pl : Nat) (tl : Nat) (fr_ : Nat) (rw_ : Nat) (brw : Nat) (po : Nat) (trc : Nat) (wi : Nat) (sz_ : Nat) (nu : Nat) (ca : Nat) (ff : Nat → Int32) (a1 : Int32)  : Met l yX12_away (wsO yX12_away cX12_away 2 (some .int)) ({ frames := 2, cells := 0, slots := 0, locals := 44 }) (va_Pc [.ref mo, .int a1] (PR G cy sk sz [(mo, .inr (12, [.ref nw, .ref nk, .ref na, .int 0, .ref fd, .ref ea, .ref so, .int (-1), .ref nd, .int 0, .int 0, .int 0, .int 0, .int 0, .int 0, .ref cd, .ref nmd, .ref pl, .ref tl, .ref fr_, .ref rw_, .ref brw, .int 0, .int 0, .ref po, .ref trc, .int 0, .int 0, .int 0, .ref wi, .ref sz_, .ref nu, .ref ca])), (nw, .inl (cy 0, 3567, .inl nw0)), (fd, .inl (cy 0, 7, .inl ff))])) (va_Qi (fun r (_ : Unit) => r = (-1000001)) (fun _ _ => True) (va_A [(mo, .inr (12, [.ref nw, .ref nk, .ref na, .int 0, .ref fd, .ref ea, .ref so, .int (-1), .ref nd, .int 0, .int 0, .int 0, .int 0, .int 0, .int 0, .ref cd, .ref nmd, .ref pl, .ref tl, .ref fr_, .ref rw_, .ref brw, .int 0, .int 0, .ref po, .ref trc, .int 0, .int 0, .int 0, .ref wi, .ref sz_, .ref nu, .ref ca])), (nw, .inl (cy 0, 3567, .inl nw0)), (fd, .inl (cy 0, 7, .inl ff))] sz)) 0 0 (va_A [(mo, .inr (12, [.ref nw, .ref nk, .ref na, .int 0, .ref fd, .ref ea, .ref so, .int (-1), .ref nd, .int 0, .int 0, .int 0, .int 0, .int 0, .int 0, .ref cd, .ref nmd, .ref pl, .ref tl, .ref fr_, .ref rw_, .ref brw, .int 0, .int 0, .ref po, .ref trc, .int 0, .int 0, .int 0, .ref wi, .ref sz_, .ref nu, .ref ca])), (nw, .inl (cy 0, 3567, .inl nw0)), (fd, .inl (cy 0, 7, .inl ff))] sz) := by
  refine mt (by decide) (Nat.le_of_ble_eq_true rfl) ?_
  intro p e s m below meth c ls hx hb hr hml hts hown hlocks hin hsz hP hE hD hl
  subst hsz
  have hl : lv_has ls 2 [(0, .ref mo), (1, .int a1)] := hl
  have hD := hD.self (sz := s.heap.size)
  generalize hAe : va_A [(mo, .inr (12, [.ref nw, .ref nk, .ref na, .int 0, .ref fd, .ref ea, .ref so, .int (-1), .ref nd, .int 0, .int 0, .int 0, .int 0, .int 0, .int 0, .ref cd, .ref nmd, .ref pl, .ref tl, .ref fr_, .ref rw_, .ref brw, .int 0, .int 0, .ref po, .ref trc, .int 0, .int 0, .int 0, .ref wi, .ref sz_, .ref nu, .ref ca])), (nw, .inl (cy 0, 3567, .inl nw0)), (fd, .inl (cy 0, 7, .inl ff))] s.heap.size = A at hD ⊢
  have hA : ∀ q : Nat, s.heap.size ≤ q → A q := fun q h => by rw [← hAe]; exact Or.inr h
  have hS : va_S A s.heap s.heap [] := va_S.rf
  refine lv_aload_n hx hb dX12_away_0 rfl (lv_at hl 0 rfl) ?_
  refine lv_iload_n hx hb dX12_away_1 rfl (lv_at hl 1 rfl) ?_
  refine lv_iconst (v := 1) hx hb dX12_away_2 (by decide) ?_
  refine rV (rest := []) hx hb hml hown hts hE (c_X12_is l G cy sk s.heap.size mo nw nk na fd ea so nd cd nmd pl tl fr_ rw_ brw po trc wi sz_ nu ca 0 (-1) 0 0 0 0 0 0 0 0 0 0 0 nw0 a1 1 (vinL (by decide)) rfl) kV_X12_is m_1465 rfl rfl ⟨(Nat.le_of_ble_eq_true rfl), (Nat.le_of_ble_eq_true rfl)⟩ hP hD 0 rfl rfl rfl [0, 1] rfl rfl rfl rfl hl.1 (Nat.le_of_ble_eq_true rfl) dX12_away_3 ⟨(Nat.le_of_ble_eq_true rfl), (Nat.le_of_ble_eq_true rfl)⟩ (fun r_1 hr_ => ?_)
  subst hr_
  refine lv_if_ne (tgt := 16) hx hb dX12_away_6 (by decide) (fun h9 => absurd h9 (by decide)) (fun _ => ?_)
  refine lv_aload_n hx hb dX12_away_9 rfl (lv_at hl 0 rfl) ?_
  refine lv_ldc (v := (-1000001)) hx hb hown (hts _ m_1433) dX12_away_10 ?_
  refine wV (B := (fun _ => True)) (wr := [(nw, .inl (cy 0, 3567, .inl nw0))]) (rest := []) hx hb hml hown hts hE (c_X12_finding l G cy sk s.heap.size mo nw nk na fd ea so nd cd nmd pl tl fr_ rw_ brw po trc wi sz_ nu ca 0 (-1) 0 0 0 0 0 0 0 0 0 0 0 ff (-1000001) 1 (by decide) (vinL (by decide))) kV_X12_finding m_1434 rfl rfl ⟨(Nat.le_of_ble_eq_true rfl), (Nat.le_of_ble_eq_true rfl)⟩ hP hD hS hA 0 rfl rfl rfl [0, 2] [1] rfl rfl rfl rfl (by decide) rfl rfl hl.1 (Nat.le_of_ble_eq_true rfl) dX12_away_12 ⟨(Nat.le_of_ble_eq_true rfl), (Nat.le_of_ble_eq_true rfl)⟩ (fun r_2 H locs hr_ haf hS => ?_)
  obtain ⟨-, -, hP, hD⟩ := haf
  have hP : va_P G classes [(nw, .inl (cy 0, 3567, .inl nw0))] H := hP
  have hD : va_D A [(nw, .inl (cy 0, 3567, .inl nw0))] := hD
  subst hr_
  refine W.widen (k := 0) (n := 0) (by first | exact Nat.le_of_ble_eq_true rfl | omega) (by first | exact Nat.le_of_ble_eq_true rfl | omega) ?_
  exact W.iret (v := (-1000001)) hx hb hr (fun t ht hW => ⟨⟨(-1000001), (), rfl, rfl, trivial⟩, hS.F ht⟩) hS.2.2 dX12_away_15
set_option maxHeartbeats 4000000 in
set_option maxRecDepth 100000 in
theorem c_X12_walkerIs (l : Launch) (G : va_G) (cy : Nat → ClassId) (sk : Nat → Nat) (sz : Nat) (mo : Nat) (nw : Nat) (nk : Nat) (na : Nat) (fd : Nat) (ea : Nat) (so : Nat) (nd : Nat) (cd : Nat) (nmd : Nat) (pl : Nat) (tl : Nat) (fr_ : Nat) (rw_ : Nat) (brw : Nat) (po : Nat) (trc : Nat) (wi : Nat) (sz_ : Nat) (nu : Nat) (ca : Nat) (ff : Nat → Int32) (a1 : Int32) (a2 : Int32)  : Met l yX12_walkerIs (wsO yX12_walkerIs cX12_walkerIs 3 (some .int)) ({ frames := 2, cells := 0, slots := 0, locals := 44 }) (va_Pc [.ref mo, .int a1, .int a2] (PR G cy sk sz [(mo, .inr (12, [.ref nw, .ref nk, .ref na, .int 0, .ref fd, .ref ea, .ref so, .int (-1), .ref nd, .int 0, .int 0, .int 0, .int 0, .int 0, .int 0, .ref cd, .ref nmd, .ref pl, .ref tl, .ref fr_, .ref rw_, .ref brw, .int 0, .int 0, .ref po, .ref trc, .int 0, .int 0, .int 0, .ref wi, .ref sz_, .ref nu, .ref ca])), (nw, .inl (cy 0, 3567, .inl nw0)), (fd, .inl (cy 0, 7, .inl ff))])) (va_Qi (fun r (_ : Unit) => r = (-1000001)) (fun _ _ => True) (va_A [(mo, .inr (12, [.ref nw, .ref nk, .ref na, .int 0, .ref fd, .ref ea, .ref so, .int (-1), .ref nd, .int 0, .int 0, .int 0, .int 0, .int 0, .int 0, .ref cd, .ref nmd, .ref pl, .ref tl, .ref fr_, .ref rw_, .ref brw, .int 0, .int 0, .ref po, .ref trc, .int 0, .int 0, .int 0, .ref wi, .ref sz_, .ref nu, .ref ca])), (nw, .inl (cy 0, 3567, .inl nw0)), (fd, .inl (cy 0, 7, .inl ff))] sz)) 0 0 (va_A [(mo, .inr (12, [.ref nw, .ref nk, .ref na, .int 0, .ref fd, .ref ea, .ref so, .int (-1), .ref nd, .int 0, .int 0, .int 0, .int 0, .int 0, .int 0, .ref cd, .ref nmd, .ref pl, .ref tl, .ref fr_, .ref rw_, .ref brw, .int 0, .int 0, .ref po, .ref trc, .int 0, .int 0, .int 0, .ref wi, .ref sz_, .ref nu, .ref ca])), (nw, .inl (cy 0, 3567, .inl nw0)), (fd, .inl (cy 0, 7, .inl ff))] sz) := by
  refine mt (by decide) (Nat.le_of_ble_eq_true rfl) ?_
  intro p e s m below meth c ls hx hb hr hml hts hown hlocks hin hsz hP hE hD hl
  subst hsz
  have hl : lv_has ls 3 [(0, .ref mo), (1, .int a1), (2, .int a2)] := hl
  have hD := hD.self (sz := s.heap.size)
  generalize hAe : va_A [(mo, .inr (12, [.ref nw, .ref nk, .ref na, .int 0, .ref fd, .ref ea, .ref so, .int (-1), .ref nd, .int 0, .int 0, .int 0, .int 0, .int 0, .int 0, .ref cd, .ref nmd, .ref pl, .ref tl, .ref fr_, .ref rw_, .ref brw, .int 0, .int 0, .ref po, .ref trc, .int 0, .int 0, .int 0, .ref wi, .ref sz_, .ref nu, .ref ca])), (nw, .inl (cy 0, 3567, .inl nw0)), (fd, .inl (cy 0, 7, .inl ff))] s.heap.size = A at hD ⊢
  have hA : ∀ q : Nat, s.heap.size ≤ q → A q := fun q h => by rw [← hAe]; exact Or.inr h
  have hS : va_S A s.heap s.heap [] := va_S.rf
  refine lv_aload_n hx hb dX12_walkerIs_0 rfl (lv_at hl 0 rfl) ?_
  refine lv_iload_n hx hb dX12_walkerIs_1 rfl (lv_at hl 1 rfl) ?_
  refine lv_iconst (v := 2) hx hb dX12_walkerIs_2 (by decide) ?_
  refine rV (rest := []) hx hb hml hown hts hE (c_X12_is l G cy sk s.heap.size mo nw nk na fd ea so nd cd nmd pl tl fr_ rw_ brw po trc wi sz_ nu ca 0 (-1) 0 0 0 0 0 0 0 0 0 0 0 nw0 a1 2 (vinL (by decide)) rfl) kV_X12_is m_1465 rfl rfl ⟨(Nat.le_of_ble_eq_true rfl), (Nat.le_of_ble_eq_true rfl)⟩ hP hD 0 rfl rfl rfl [0, 1] rfl rfl rfl rfl hl.1 (Nat.le_of_ble_eq_true rfl) dX12_walkerIs_3 ⟨(Nat.le_of_ble_eq_true rfl), (Nat.le_of_ble_eq_true rfl)⟩ (fun r_1 hr_ => ?_)
  subst hr_
  refine lv_if_eq (tgt := 19) hx hb dX12_walkerIs_6 (by decide) (fun _ => ?_) (fun h9 => absurd h9 (by decide))
  refine lv_aload_n hx hb dX12_walkerIs_19 rfl (lv_at hl 0 rfl) ?_
  refine lv_ldc (v := (-1000001)) hx hb hown (hts _ m_1433) dX12_walkerIs_20 ?_
  refine wV (B := (fun _ => True)) (wr := [(nw, .inl (cy 0, 3567, .inl nw0))]) (rest := []) hx hb hml hown hts hE (c_X12_finding l G cy sk s.heap.size mo nw nk na fd ea so nd cd nmd pl tl fr_ rw_ brw po trc wi sz_ nu ca 0 (-1) 0 0 0 0 0 0 0 0 0 0 0 ff (-1000001) 1 (by decide) (vinL (by decide))) kV_X12_finding m_1434 rfl rfl ⟨(Nat.le_of_ble_eq_true rfl), (Nat.le_of_ble_eq_true rfl)⟩ hP hD hS hA 0 rfl rfl rfl [0, 2] [1] rfl rfl rfl rfl (by decide) rfl rfl hl.1 (Nat.le_of_ble_eq_true rfl) dX12_walkerIs_22 ⟨(Nat.le_of_ble_eq_true rfl), (Nat.le_of_ble_eq_true rfl)⟩ (fun r_2 H locs hr_ haf hS => ?_)
  obtain ⟨-, -, hP, hD⟩ := haf
  have hP : va_P G classes [(nw, .inl (cy 0, 3567, .inl nw0))] H := hP
  have hD : va_D A [(nw, .inl (cy 0, 3567, .inl nw0))] := hD
  subst hr_
  refine W.widen (k := 0) (n := 0) (by first | exact Nat.le_of_ble_eq_true rfl | omega) (by first | exact Nat.le_of_ble_eq_true rfl | omega) ?_
  exact W.iret (v := (-1000001)) hx hb hr (fun t ht hW => ⟨⟨(-1000001), (), rfl, rfl, trivial⟩, hS.F ht⟩) hS.2.2 dX12_walkerIs_25
set_option maxHeartbeats 4000000 in
set_option maxRecDepth 100000 in
theorem c_X12_as (l : Launch) (G : va_G) (cy : Nat → ClassId) (sk : Nat → Nat) (sz : Nat) (mo : Nat) (nw : Nat) (nk : Nat) (na : Nat) (fd : Nat) (ea : Nat) (so : Nat) (nd : Nat) (cd : Nat) (nmd : Nat) (pl : Nat) (tl : Nat) (fr_ : Nat) (rw_ : Nat) (brw : Nat) (po : Nat) (trc : Nat) (wi : Nat) (sz_ : Nat) (nu : Nat) (ca : Nat) (ff : Nat → Int32) (a1 : Int32) (a2 : Int32)  : Met l yX12_as (wsO yX12_as cX12_as 3 (some .int)) ({ frames := 2, cells := 0, slots := 0, locals := 44 }) (va_Pc [.ref mo, .int a1, .int a2] (PR G cy sk sz [(mo, .inr (12, [.ref nw, .ref nk, .ref na, .int 0, .ref fd, .ref ea, .ref so, .int (-1), .ref nd, .int 0, .int 0, .int 0, .int 0, .int 0, .int 0, .ref cd, .ref nmd, .ref pl, .ref tl, .ref fr_, .ref rw_, .ref brw, .int 0, .int 0, .ref po, .ref trc, .int 0, .int 0, .int 0, .ref wi, .ref sz_, .ref nu, .ref ca])), (nw, .inl (cy 0, 3567, .inl nw0)), (fd, .inl (cy 0, 7, .inl ff))])) (va_Qi (fun r (_ : Unit) => r = (-1000001)) (fun _ _ => True) (va_A [(mo, .inr (12, [.ref nw, .ref nk, .ref na, .int 0, .ref fd, .ref ea, .ref so, .int (-1), .ref nd, .int 0, .int 0, .int 0, .int 0, .int 0, .int 0, .ref cd, .ref nmd, .ref pl, .ref tl, .ref fr_, .ref rw_, .ref brw, .int 0, .int 0, .ref po, .ref trc, .int 0, .int 0, .int 0, .ref wi, .ref sz_, .ref nu, .ref ca])), (nw, .inl (cy 0, 3567, .inl nw0)), (fd, .inl (cy 0, 7, .inl ff))] sz)) 0 0 (va_A [(mo, .inr (12, [.ref nw, .ref nk, .ref na, .int 0, .ref fd, .ref ea, .ref so, .int (-1), .ref nd, .int 0, .int 0, .int 0, .int 0, .int 0, .int 0, .ref cd, .ref nmd, .ref pl, .ref tl, .ref fr_, .ref rw_, .ref brw, .int 0, .int 0, .ref po, .ref trc, .int 0, .int 0, .int 0, .ref wi, .ref sz_, .ref nu, .ref ca])), (nw, .inl (cy 0, 3567, .inl nw0)), (fd, .inl (cy 0, 7, .inl ff))] sz) := by
  refine mt (by decide) (Nat.le_of_ble_eq_true rfl) ?_
  intro p e s m below meth c ls hx hb hr hml hts hown hlocks hin hsz hP hE hD hl
  subst hsz
  have hl : lv_has ls 3 [(0, .ref mo), (1, .int a1), (2, .int a2)] := hl
  have hD := hD.self (sz := s.heap.size)
  generalize hAe : va_A [(mo, .inr (12, [.ref nw, .ref nk, .ref na, .int 0, .ref fd, .ref ea, .ref so, .int (-1), .ref nd, .int 0, .int 0, .int 0, .int 0, .int 0, .int 0, .ref cd, .ref nmd, .ref pl, .ref tl, .ref fr_, .ref rw_, .ref brw, .int 0, .int 0, .ref po, .ref trc, .int 0, .int 0, .int 0, .ref wi, .ref sz_, .ref nu, .ref ca])), (nw, .inl (cy 0, 3567, .inl nw0)), (fd, .inl (cy 0, 7, .inl ff))] s.heap.size = A at hD ⊢
  have hA : ∀ q : Nat, s.heap.size ≤ q → A q := fun q h => by rw [← hAe]; exact Or.inr h
  have hS : va_S A s.heap s.heap [] := va_S.rf
  refine lv_aload_n hx hb dX12_as_0 rfl (lv_at hl 0 rfl) ?_
  refine lv_iload_n hx hb dX12_as_1 rfl (lv_at hl 1 rfl) ?_
  refine lv_iconst (v := 2) hx hb dX12_as_2 (by decide) ?_
  refine rV (rest := []) hx hb hml hown hts hE (c_X12_is l G cy sk s.heap.size mo nw nk na fd ea so nd cd nmd pl tl fr_ rw_ brw po trc wi sz_ nu ca 0 (-1) 0 0 0 0 0 0 0 0 0 0 0 nw0 a1 2 (vinL (by decide)) rfl) kV_X12_is m_1465 rfl rfl ⟨(Nat.le_of_ble_eq_true rfl), (Nat.le_of_ble_eq_true rfl)⟩ hP hD 0 rfl rfl rfl [0, 1] rfl rfl rfl rfl hl.1 (Nat.le_of_ble_eq_true rfl) dX12_as_3 ⟨(Nat.le_of_ble_eq_true rfl), (Nat.le_of_ble_eq_true rfl)⟩ (fun r_1 hr_ => ?_)
  subst hr_
  refine lv_if_eq (tgt := 19) hx hb dX12_as_6 (by decide) (fun _ => ?_) (fun h9 => absurd h9 (by decide))
  refine lv_aload_n hx hb dX12_as_19 rfl (lv_at hl 0 rfl) ?_
  refine lv_ldc (v := (-1000001)) hx hb hown (hts _ m_1433) dX12_as_20 ?_
  refine wV (B := (fun _ => True)) (wr := [(nw, .inl (cy 0, 3567, .inl nw0))]) (rest := []) hx hb hml hown hts hE (c_X12_finding l G cy sk s.heap.size mo nw nk na fd ea so nd cd nmd pl tl fr_ rw_ brw po trc wi sz_ nu ca 0 (-1) 0 0 0 0 0 0 0 0 0 0 0 ff (-1000001) 1 (by decide) (vinL (by decide))) kV_X12_finding m_1434 rfl rfl ⟨(Nat.le_of_ble_eq_true rfl), (Nat.le_of_ble_eq_true rfl)⟩ hP hD hS hA 0 rfl rfl rfl [0, 2] [1] rfl rfl rfl rfl (by decide) rfl rfl hl.1 (Nat.le_of_ble_eq_true rfl) dX12_as_22 ⟨(Nat.le_of_ble_eq_true rfl), (Nat.le_of_ble_eq_true rfl)⟩ (fun r_2 H locs hr_ haf hS => ?_)
  obtain ⟨-, -, hP, hD⟩ := haf
  have hP : va_P G classes [(nw, .inl (cy 0, 3567, .inl nw0))] H := hP
  have hD : va_D A [(nw, .inl (cy 0, 3567, .inl nw0))] := hD
  subst hr_
  refine W.widen (k := 0) (n := 0) (by first | exact Nat.le_of_ble_eq_true rfl | omega) (by first | exact Nat.le_of_ble_eq_true rfl | omega) ?_
  exact W.iret (v := (-1000001)) hx hb hr (fun t ht hW => ⟨⟨(-1000001), (), rfl, rfl, trivial⟩, hS.F ht⟩) hS.2.2 dX12_as_25
set_option maxHeartbeats 4000000 in
set_option maxRecDepth 100000 in
theorem c_X12_habit (l : Launch) (G : va_G) (cy : Nat → ClassId) (sk : Nat → Nat) (sz : Nat) (mo : Nat) (nw : Nat) (nk : Nat) (na : Nat) (fd : Nat) (ea : Nat) (so : Nat) (nd : Nat) (cd : Nat) (nmd : Nat) (pl : Nat) (tl : Nat) (fr_ : Nat) (rw_ : Nat) (brw : Nat) (po : Nat) (trc : Nat) (wi : Nat) (sz_ : Nat) (nu : Nat) (ca : Nat) (ff : Nat → Int32) (a1 : Int32) (a2 : Int32) (a3 : Int32) (a4 : Int32)  : Met l yX12_habit (wsO yX12_habit cX12_habit 5 (some .int)) ({ frames := 2, cells := 0, slots := 0, locals := 44 }) (va_Pc [.ref mo, .int a1, .int a2, .int a3, .int a4] (PR G cy sk sz [(mo, .inr (12, [.ref nw, .ref nk, .ref na, .int 0, .ref fd, .ref ea, .ref so, .int (-1), .ref nd, .int 0, .int 0, .int 0, .int 0, .int 0, .int 0, .ref cd, .ref nmd, .ref pl, .ref tl, .ref fr_, .ref rw_, .ref brw, .int 0, .int 0, .ref po, .ref trc, .int 0, .int 0, .int 0, .ref wi, .ref sz_, .ref nu, .ref ca])), (nw, .inl (cy 0, 3567, .inl nw0)), (fd, .inl (cy 0, 7, .inl ff))])) (va_Qi (fun r (_ : Unit) => r = (-1000001)) (fun _ _ => True) (va_A [(mo, .inr (12, [.ref nw, .ref nk, .ref na, .int 0, .ref fd, .ref ea, .ref so, .int (-1), .ref nd, .int 0, .int 0, .int 0, .int 0, .int 0, .int 0, .ref cd, .ref nmd, .ref pl, .ref tl, .ref fr_, .ref rw_, .ref brw, .int 0, .int 0, .ref po, .ref trc, .int 0, .int 0, .int 0, .ref wi, .ref sz_, .ref nu, .ref ca])), (nw, .inl (cy 0, 3567, .inl nw0)), (fd, .inl (cy 0, 7, .inl ff))] sz)) 0 0 (va_A [(mo, .inr (12, [.ref nw, .ref nk, .ref na, .int 0, .ref fd, .ref ea, .ref so, .int (-1), .ref nd, .int 0, .int 0, .int 0, .int 0, .int 0, .int 0, .ref cd, .ref nmd, .ref pl, .ref tl, .ref fr_, .ref rw_, .ref brw, .int 0, .int 0, .ref po, .ref trc, .int 0, .int 0, .int 0, .ref wi, .ref sz_, .ref nu, .ref ca])), (nw, .inl (cy 0, 3567, .inl nw0)), (fd, .inl (cy 0, 7, .inl ff))] sz) := by
  refine mt (by decide) (Nat.le_of_ble_eq_true rfl) ?_
  intro p e s m below meth c ls hx hb hr hml hts hown hlocks hin hsz hP hE hD hl
  subst hsz
  have hl : lv_has ls 5 [(0, .ref mo), (1, .int a1), (2, .int a2), (3, .int a3), (4, .int a4)] := hl
  have hD := hD.self (sz := s.heap.size)
  generalize hAe : va_A [(mo, .inr (12, [.ref nw, .ref nk, .ref na, .int 0, .ref fd, .ref ea, .ref so, .int (-1), .ref nd, .int 0, .int 0, .int 0, .int 0, .int 0, .int 0, .ref cd, .ref nmd, .ref pl, .ref tl, .ref fr_, .ref rw_, .ref brw, .int 0, .int 0, .ref po, .ref trc, .int 0, .int 0, .int 0, .ref wi, .ref sz_, .ref nu, .ref ca])), (nw, .inl (cy 0, 3567, .inl nw0)), (fd, .inl (cy 0, 7, .inl ff))] s.heap.size = A at hD ⊢
  have hA : ∀ q : Nat, s.heap.size ≤ q → A q := fun q h => by rw [← hAe]; exact Or.inr h
  have hS : va_S A s.heap s.heap [] := va_S.rf
  refine lv_aload_n hx hb dX12_habit_0 rfl (lv_at hl 0 rfl) ?_
  refine lv_iload_n hx hb dX12_habit_1 rfl (lv_at hl 1 rfl) ?_
  refine lv_iconst (v := 2) hx hb dX12_habit_2 (by decide) ?_
  refine rV (rest := []) hx hb hml hown hts hE (c_X12_is l G cy sk s.heap.size mo nw nk na fd ea so nd cd nmd pl tl fr_ rw_ brw po trc wi sz_ nu ca 0 (-1) 0 0 0 0 0 0 0 0 0 0 0 nw0 a1 2 (vinL (by decide)) rfl) kV_X12_is m_1465 rfl rfl ⟨(Nat.le_of_ble_eq_true rfl), (Nat.le_of_ble_eq_true rfl)⟩ hP hD 0 rfl rfl rfl [0, 1] rfl rfl rfl rfl hl.1 (Nat.le_of_ble_eq_true rfl) dX12_habit_3 ⟨(Nat.le_of_ble_eq_true rfl), (Nat.le_of_ble_eq_true rfl)⟩ (fun r_1 hr_ => ?_)
  subst hr_
  refine lv_if_eq (tgt := 40) hx hb dX12_habit_6 (by decide) (fun _ => ?_) (fun h9 => absurd h9 (by decide))
  refine lv_aload_n hx hb dX12_habit_40 rfl (lv_at hl 0 rfl) ?_
  refine lv_ldc (v := (-1000001)) hx hb hown (hts _ m_1433) dX12_habit_41 ?_
  refine wV (B := (fun _ => True)) (wr := [(nw, .inl (cy 0, 3567, .inl nw0))]) (rest := []) hx hb hml hown hts hE (c_X12_finding l G cy sk s.heap.size mo nw nk na fd ea so nd cd nmd pl tl fr_ rw_ brw po trc wi sz_ nu ca 0 (-1) 0 0 0 0 0 0 0 0 0 0 0 ff (-1000001) 1 (by decide) (vinL (by decide))) kV_X12_finding m_1434 rfl rfl ⟨(Nat.le_of_ble_eq_true rfl), (Nat.le_of_ble_eq_true rfl)⟩ hP hD hS hA 0 rfl rfl rfl [0, 2] [1] rfl rfl rfl rfl (by decide) rfl rfl hl.1 (Nat.le_of_ble_eq_true rfl) dX12_habit_43 ⟨(Nat.le_of_ble_eq_true rfl), (Nat.le_of_ble_eq_true rfl)⟩ (fun r_2 H locs hr_ haf hS => ?_)
  obtain ⟨-, -, hP, hD⟩ := haf
  have hP : va_P G classes [(nw, .inl (cy 0, 3567, .inl nw0))] H := hP
  have hD : va_D A [(nw, .inl (cy 0, 3567, .inl nw0))] := hD
  subst hr_
  refine W.widen (k := 0) (n := 0) (by first | exact Nat.le_of_ble_eq_true rfl | omega) (by first | exact Nat.le_of_ble_eq_true rfl | omega) ?_
  exact W.iret (v := (-1000001)) hx hb hr (fun t ht hW => ⟨⟨(-1000001), (), rfl, rfl, trivial⟩, hS.F ht⟩) hS.2.2 dX12_habit_46
set_option maxHeartbeats 4000000 in
set_option maxRecDepth 100000 in
theorem c_X12_face (l : Launch) (G : va_G) (cy : Nat → ClassId) (sk : Nat → Nat) (sz : Nat) (mo : Nat) (nw : Nat) (nk : Nat) (na : Nat) (fd : Nat) (ea : Nat) (so : Nat) (nd : Nat) (cd : Nat) (nmd : Nat) (pl : Nat) (tl : Nat) (fr_ : Nat) (rw_ : Nat) (brw : Nat) (po : Nat) (trc : Nat) (wi : Nat) (sz_ : Nat) (nu : Nat) (ca : Nat) (ff : Nat → Int32) (a1 : Int32) (a2 : Int32)  : Met l yX12_face (wsO yX12_face cX12_face 3 (some .int)) ({ frames := 2, cells := 0, slots := 0, locals := 44 }) (va_Pc [.ref mo, .int a1, .int a2] (PR G cy sk sz [(mo, .inr (12, [.ref nw, .ref nk, .ref na, .int 0, .ref fd, .ref ea, .ref so, .int (-1), .ref nd, .int 0, .int 0, .int 0, .int 0, .int 0, .int 0, .ref cd, .ref nmd, .ref pl, .ref tl, .ref fr_, .ref rw_, .ref brw, .int 0, .int 0, .ref po, .ref trc, .int 0, .int 0, .int 0, .ref wi, .ref sz_, .ref nu, .ref ca])), (nw, .inl (cy 0, 3567, .inl nw0)), (fd, .inl (cy 0, 7, .inl ff))])) (va_Qi (fun r (_ : Unit) => r = (-1000001)) (fun _ _ => True) (va_A [(mo, .inr (12, [.ref nw, .ref nk, .ref na, .int 0, .ref fd, .ref ea, .ref so, .int (-1), .ref nd, .int 0, .int 0, .int 0, .int 0, .int 0, .int 0, .ref cd, .ref nmd, .ref pl, .ref tl, .ref fr_, .ref rw_, .ref brw, .int 0, .int 0, .ref po, .ref trc, .int 0, .int 0, .int 0, .ref wi, .ref sz_, .ref nu, .ref ca])), (nw, .inl (cy 0, 3567, .inl nw0)), (fd, .inl (cy 0, 7, .inl ff))] sz)) 0 0 (va_A [(mo, .inr (12, [.ref nw, .ref nk, .ref na, .int 0, .ref fd, .ref ea, .ref so, .int (-1), .ref nd, .int 0, .int 0, .int 0, .int 0, .int 0, .int 0, .ref cd, .ref nmd, .ref pl, .ref tl, .ref fr_, .ref rw_, .ref brw, .int 0, .int 0, .ref po, .ref trc, .int 0, .int 0, .int 0, .ref wi, .ref sz_, .ref nu, .ref ca])), (nw, .inl (cy 0, 3567, .inl nw0)), (fd, .inl (cy 0, 7, .inl ff))] sz) := by
  refine mt (by decide) (Nat.le_of_ble_eq_true rfl) ?_
  intro p e s m below meth c ls hx hb hr hml hts hown hlocks hin hsz hP hE hD hl
  subst hsz
  have hl : lv_has ls 3 [(0, .ref mo), (1, .int a1), (2, .int a2)] := hl
  have hD := hD.self (sz := s.heap.size)
  generalize hAe : va_A [(mo, .inr (12, [.ref nw, .ref nk, .ref na, .int 0, .ref fd, .ref ea, .ref so, .int (-1), .ref nd, .int 0, .int 0, .int 0, .int 0, .int 0, .int 0, .ref cd, .ref nmd, .ref pl, .ref tl, .ref fr_, .ref rw_, .ref brw, .int 0, .int 0, .ref po, .ref trc, .int 0, .int 0, .int 0, .ref wi, .ref sz_, .ref nu, .ref ca])), (nw, .inl (cy 0, 3567, .inl nw0)), (fd, .inl (cy 0, 7, .inl ff))] s.heap.size = A at hD ⊢
  have hA : ∀ q : Nat, s.heap.size ≤ q → A q := fun q h => by rw [← hAe]; exact Or.inr h
  have hS : va_S A s.heap s.heap [] := va_S.rf
  refine lv_aload_n hx hb dX12_face_0 rfl (lv_at hl 0 rfl) ?_
  refine lv_iload_n hx hb dX12_face_1 rfl (lv_at hl 1 rfl) ?_
  refine lv_iconst (v := 2) hx hb dX12_face_2 (by decide) ?_
  refine rV (rest := []) hx hb hml hown hts hE (c_X12_is l G cy sk s.heap.size mo nw nk na fd ea so nd cd nmd pl tl fr_ rw_ brw po trc wi sz_ nu ca 0 (-1) 0 0 0 0 0 0 0 0 0 0 0 nw0 a1 2 (vinL (by decide)) rfl) kV_X12_is m_1465 rfl rfl ⟨(Nat.le_of_ble_eq_true rfl), (Nat.le_of_ble_eq_true rfl)⟩ hP hD 0 rfl rfl rfl [0, 1] rfl rfl rfl rfl hl.1 (Nat.le_of_ble_eq_true rfl) dX12_face_3 ⟨(Nat.le_of_ble_eq_true rfl), (Nat.le_of_ble_eq_true rfl)⟩ (fun r_1 hr_ => ?_)
  subst hr_
  refine lv_if_eq (tgt := 31) hx hb dX12_face_6 (by decide) (fun _ => ?_) (fun h9 => absurd h9 (by decide))
  refine lv_aload_n hx hb dX12_face_31 rfl (lv_at hl 0 rfl) ?_
  refine lv_ldc (v := (-1000001)) hx hb hown (hts _ m_1433) dX12_face_32 ?_
  refine wV (B := (fun _ => True)) (wr := [(nw, .inl (cy 0, 3567, .inl nw0))]) (rest := []) hx hb hml hown hts hE (c_X12_finding l G cy sk s.heap.size mo nw nk na fd ea so nd cd nmd pl tl fr_ rw_ brw po trc wi sz_ nu ca 0 (-1) 0 0 0 0 0 0 0 0 0 0 0 ff (-1000001) 1 (by decide) (vinL (by decide))) kV_X12_finding m_1434 rfl rfl ⟨(Nat.le_of_ble_eq_true rfl), (Nat.le_of_ble_eq_true rfl)⟩ hP hD hS hA 0 rfl rfl rfl [0, 2] [1] rfl rfl rfl rfl (by decide) rfl rfl hl.1 (Nat.le_of_ble_eq_true rfl) dX12_face_34 ⟨(Nat.le_of_ble_eq_true rfl), (Nat.le_of_ble_eq_true rfl)⟩ (fun r_2 H locs hr_ haf hS => ?_)
  obtain ⟨-, -, hP, hD⟩ := haf
  have hP : va_P G classes [(nw, .inl (cy 0, 3567, .inl nw0))] H := hP
  have hD : va_D A [(nw, .inl (cy 0, 3567, .inl nw0))] := hD
  subst hr_
  refine W.widen (k := 0) (n := 0) (by first | exact Nat.le_of_ble_eq_true rfl | omega) (by first | exact Nat.le_of_ble_eq_true rfl | omega) ?_
  exact W.iret (v := (-1000001)) hx hb hr (fun t ht hW => ⟨⟨(-1000001), (), rfl, rfl, trivial⟩, hS.F ht⟩) hS.2.2 dX12_face_37
set_option maxHeartbeats 4000000 in
set_option maxRecDepth 100000 in
theorem c_X12_goes (l : Launch) (G : va_G) (cy : Nat → ClassId) (sk : Nat → Nat) (sz : Nat) (mo : Nat) (nw : Nat) (nk : Nat) (na : Nat) (fd : Nat) (ea : Nat) (so : Nat) (nd : Nat) (cd : Nat) (nmd : Nat) (pl : Nat) (tl : Nat) (fr_ : Nat) (rw_ : Nat) (brw : Nat) (po : Nat) (trc : Nat) (wi : Nat) (sz_ : Nat) (nu : Nat) (ca : Nat) (ff : Nat → Int32) (a1 : Int32) (a2 : Int32)  : Met l yX12_goes (wsO yX12_goes cX12_goes 3 (some .int)) ({ frames := 2, cells := 0, slots := 0, locals := 44 }) (va_Pc [.ref mo, .int a1, .int a2] (PR G cy sk sz [(mo, .inr (12, [.ref nw, .ref nk, .ref na, .int 0, .ref fd, .ref ea, .ref so, .int (-1), .ref nd, .int 0, .int 0, .int 0, .int 0, .int 0, .int 0, .ref cd, .ref nmd, .ref pl, .ref tl, .ref fr_, .ref rw_, .ref brw, .int 0, .int 0, .ref po, .ref trc, .int 0, .int 0, .int 0, .ref wi, .ref sz_, .ref nu, .ref ca])), (nw, .inl (cy 0, 3567, .inl nw0)), (fd, .inl (cy 0, 7, .inl ff))])) (va_Qi (fun r (_ : Unit) => r = (-1000001)) (fun _ _ => True) (va_A [(mo, .inr (12, [.ref nw, .ref nk, .ref na, .int 0, .ref fd, .ref ea, .ref so, .int (-1), .ref nd, .int 0, .int 0, .int 0, .int 0, .int 0, .int 0, .ref cd, .ref nmd, .ref pl, .ref tl, .ref fr_, .ref rw_, .ref brw, .int 0, .int 0, .ref po, .ref trc, .int 0, .int 0, .int 0, .ref wi, .ref sz_, .ref nu, .ref ca])), (nw, .inl (cy 0, 3567, .inl nw0)), (fd, .inl (cy 0, 7, .inl ff))] sz)) 0 0 (va_A [(mo, .inr (12, [.ref nw, .ref nk, .ref na, .int 0, .ref fd, .ref ea, .ref so, .int (-1), .ref nd, .int 0, .int 0, .int 0, .int 0, .int 0, .int 0, .ref cd, .ref nmd, .ref pl, .ref tl, .ref fr_, .ref rw_, .ref brw, .int 0, .int 0, .ref po, .ref trc, .int 0, .int 0, .int 0, .ref wi, .ref sz_, .ref nu, .ref ca])), (nw, .inl (cy 0, 3567, .inl nw0)), (fd, .inl (cy 0, 7, .inl ff))] sz) := by
  refine mt (by decide) (Nat.le_of_ble_eq_true rfl) ?_
  intro p e s m below meth c ls hx hb hr hml hts hown hlocks hin hsz hP hE hD hl
  subst hsz
  have hl : lv_has ls 3 [(0, .ref mo), (1, .int a1), (2, .int a2)] := hl
  have hD := hD.self (sz := s.heap.size)
  generalize hAe : va_A [(mo, .inr (12, [.ref nw, .ref nk, .ref na, .int 0, .ref fd, .ref ea, .ref so, .int (-1), .ref nd, .int 0, .int 0, .int 0, .int 0, .int 0, .int 0, .ref cd, .ref nmd, .ref pl, .ref tl, .ref fr_, .ref rw_, .ref brw, .int 0, .int 0, .ref po, .ref trc, .int 0, .int 0, .int 0, .ref wi, .ref sz_, .ref nu, .ref ca])), (nw, .inl (cy 0, 3567, .inl nw0)), (fd, .inl (cy 0, 7, .inl ff))] s.heap.size = A at hD ⊢
  have hA : ∀ q : Nat, s.heap.size ≤ q → A q := fun q h => by rw [← hAe]; exact Or.inr h
  have hS : va_S A s.heap s.heap [] := va_S.rf
  refine lv_aload_n hx hb dX12_goes_0 rfl (lv_at hl 0 rfl) ?_
  refine lv_iload_n hx hb dX12_goes_1 rfl (lv_at hl 1 rfl) ?_
  refine lv_iconst (v := 2) hx hb dX12_goes_2 (by decide) ?_
  refine rV (rest := []) hx hb hml hown hts hE (c_X12_is l G cy sk s.heap.size mo nw nk na fd ea so nd cd nmd pl tl fr_ rw_ brw po trc wi sz_ nu ca 0 (-1) 0 0 0 0 0 0 0 0 0 0 0 nw0 a1 2 (vinL (by decide)) rfl) kV_X12_is m_1465 rfl rfl ⟨(Nat.le_of_ble_eq_true rfl), (Nat.le_of_ble_eq_true rfl)⟩ hP hD 0 rfl rfl rfl [0, 1] rfl rfl rfl rfl hl.1 (Nat.le_of_ble_eq_true rfl) dX12_goes_3 ⟨(Nat.le_of_ble_eq_true rfl), (Nat.le_of_ble_eq_true rfl)⟩ (fun r_1 hr_ => ?_)
  subst hr_
  refine lv_if_eq (tgt := 33) hx hb dX12_goes_6 (by decide) (fun _ => ?_) (fun h9 => absurd h9 (by decide))
  refine lv_aload_n hx hb dX12_goes_33 rfl (lv_at hl 0 rfl) ?_
  refine lv_ldc (v := (-1000001)) hx hb hown (hts _ m_1433) dX12_goes_34 ?_
  refine wV (B := (fun _ => True)) (wr := [(nw, .inl (cy 0, 3567, .inl nw0))]) (rest := []) hx hb hml hown hts hE (c_X12_finding l G cy sk s.heap.size mo nw nk na fd ea so nd cd nmd pl tl fr_ rw_ brw po trc wi sz_ nu ca 0 (-1) 0 0 0 0 0 0 0 0 0 0 0 ff (-1000001) 1 (by decide) (vinL (by decide))) kV_X12_finding m_1434 rfl rfl ⟨(Nat.le_of_ble_eq_true rfl), (Nat.le_of_ble_eq_true rfl)⟩ hP hD hS hA 0 rfl rfl rfl [0, 2] [1] rfl rfl rfl rfl (by decide) rfl rfl hl.1 (Nat.le_of_ble_eq_true rfl) dX12_goes_36 ⟨(Nat.le_of_ble_eq_true rfl), (Nat.le_of_ble_eq_true rfl)⟩ (fun r_2 H locs hr_ haf hS => ?_)
  obtain ⟨-, -, hP, hD⟩ := haf
  have hP : va_P G classes [(nw, .inl (cy 0, 3567, .inl nw0))] H := hP
  have hD : va_D A [(nw, .inl (cy 0, 3567, .inl nw0))] := hD
  subst hr_
  refine W.widen (k := 0) (n := 0) (by first | exact Nat.le_of_ble_eq_true rfl | omega) (by first | exact Nat.le_of_ble_eq_true rfl | omega) ?_
  exact W.iret (v := (-1000001)) hx hb hr (fun t ht hW => ⟨⟨(-1000001), (), rfl, rfl, trivial⟩, hS.F ht⟩) hS.2.2 dX12_goes_39
set_option maxHeartbeats 4000000 in
set_option maxRecDepth 100000 in
theorem c_X12_echo (l : Launch) (G : va_G) (cy : Nat → ClassId) (sk : Nat → Nat) (sz : Nat) (mo : Nat) (nw : Nat) (nk : Nat) (na : Nat) (fd : Nat) (ea : Nat) (so : Nat) (nd : Nat) (cd : Nat) (nmd : Nat) (pl : Nat) (tl : Nat) (fr_ : Nat) (rw_ : Nat) (brw : Nat) (po : Nat) (trc : Nat) (wi : Nat) (sz_ : Nat) (nu : Nat) (ca : Nat) (ff : Nat → Int32) (a1 : Int32) (a2 : Int32) (a3 : Int32) (a4 : Int32)  : Met l yX12_echo (wsO yX12_echo cX12_echo 10 (some .int)) ({ frames := 2, cells := 0, slots := 0, locals := 44 }) (va_Pc [.ref mo, .int a1, .int a2, .int a3, .int a4] (PR G cy sk sz [(mo, .inr (12, [.ref nw, .ref nk, .ref na, .int 0, .ref fd, .ref ea, .ref so, .int (-1), .ref nd, .int 0, .int 0, .int 0, .int 0, .int 0, .int 0, .ref cd, .ref nmd, .ref pl, .ref tl, .ref fr_, .ref rw_, .ref brw, .int 0, .int 0, .ref po, .ref trc, .int 0, .int 0, .int 0, .ref wi, .ref sz_, .ref nu, .ref ca])), (nw, .inl (cy 0, 3567, .inl nw0)), (fd, .inl (cy 0, 7, .inl ff))])) (va_Qi (fun r (_ : Unit) => r = (-1000001)) (fun _ _ => True) (va_A [(mo, .inr (12, [.ref nw, .ref nk, .ref na, .int 0, .ref fd, .ref ea, .ref so, .int (-1), .ref nd, .int 0, .int 0, .int 0, .int 0, .int 0, .int 0, .ref cd, .ref nmd, .ref pl, .ref tl, .ref fr_, .ref rw_, .ref brw, .int 0, .int 0, .ref po, .ref trc, .int 0, .int 0, .int 0, .ref wi, .ref sz_, .ref nu, .ref ca])), (nw, .inl (cy 0, 3567, .inl nw0)), (fd, .inl (cy 0, 7, .inl ff))] sz)) 0 0 (va_A [(mo, .inr (12, [.ref nw, .ref nk, .ref na, .int 0, .ref fd, .ref ea, .ref so, .int (-1), .ref nd, .int 0, .int 0, .int 0, .int 0, .int 0, .int 0, .ref cd, .ref nmd, .ref pl, .ref tl, .ref fr_, .ref rw_, .ref brw, .int 0, .int 0, .ref po, .ref trc, .int 0, .int 0, .int 0, .ref wi, .ref sz_, .ref nu, .ref ca])), (nw, .inl (cy 0, 3567, .inl nw0)), (fd, .inl (cy 0, 7, .inl ff))] sz) := by
  refine mt (by decide) (Nat.le_of_ble_eq_true rfl) ?_
  intro p e s m below meth c ls hx hb hr hml hts hown hlocks hin hsz hP hE hD hl
  subst hsz
  have hl : lv_has ls 10 [(0, .ref mo), (1, .int a1), (2, .int a2), (3, .int a3), (4, .int a4)] := hl
  have hD := hD.self (sz := s.heap.size)
  generalize hAe : va_A [(mo, .inr (12, [.ref nw, .ref nk, .ref na, .int 0, .ref fd, .ref ea, .ref so, .int (-1), .ref nd, .int 0, .int 0, .int 0, .int 0, .int 0, .int 0, .ref cd, .ref nmd, .ref pl, .ref tl, .ref fr_, .ref rw_, .ref brw, .int 0, .int 0, .ref po, .ref trc, .int 0, .int 0, .int 0, .ref wi, .ref sz_, .ref nu, .ref ca])), (nw, .inl (cy 0, 3567, .inl nw0)), (fd, .inl (cy 0, 7, .inl ff))] s.heap.size = A at hD ⊢
  have hA : ∀ q : Nat, s.heap.size ≤ q → A q := fun q h => by rw [← hAe]; exact Or.inr h
  have hS : va_S A s.heap s.heap [] := va_S.rf
  refine lv_aload_n hx hb dX12_echo_0 rfl (lv_at hl 0 rfl) ?_
  refine lv_iload_n hx hb dX12_echo_1 rfl (lv_at hl 1 rfl) ?_
  refine lv_iconst (v := 2) hx hb dX12_echo_2 (by decide) ?_
  refine rV (rest := []) hx hb hml hown hts hE (c_X12_is l G cy sk s.heap.size mo nw nk na fd ea so nd cd nmd pl tl fr_ rw_ brw po trc wi sz_ nu ca 0 (-1) 0 0 0 0 0 0 0 0 0 0 0 nw0 a1 2 (vinL (by decide)) rfl) kV_X12_is m_1465 rfl rfl ⟨(Nat.le_of_ble_eq_true rfl), (Nat.le_of_ble_eq_true rfl)⟩ hP hD 0 rfl rfl rfl [0, 1] rfl rfl rfl rfl hl.1 (Nat.le_of_ble_eq_true rfl) dX12_echo_3 ⟨(Nat.le_of_ble_eq_true rfl), (Nat.le_of_ble_eq_true rfl)⟩ (fun r_1 hr_ => ?_)
  subst hr_
  refine lv_if_eq (tgt := 34) hx hb dX12_echo_6 (by decide) (fun _ => ?_) (fun h9 => absurd h9 (by decide))
  refine lv_aload_n hx hb dX12_echo_34 rfl (lv_at hl 0 rfl) ?_
  refine lv_ldc (v := (-1000001)) hx hb hown (hts _ m_1433) dX12_echo_35 ?_
  refine wV (B := (fun _ => True)) (wr := [(nw, .inl (cy 0, 3567, .inl nw0))]) (rest := []) hx hb hml hown hts hE (c_X12_finding l G cy sk s.heap.size mo nw nk na fd ea so nd cd nmd pl tl fr_ rw_ brw po trc wi sz_ nu ca 0 (-1) 0 0 0 0 0 0 0 0 0 0 0 ff (-1000001) 1 (by decide) (vinL (by decide))) kV_X12_finding m_1434 rfl rfl ⟨(Nat.le_of_ble_eq_true rfl), (Nat.le_of_ble_eq_true rfl)⟩ hP hD hS hA 0 rfl rfl rfl [0, 2] [1] rfl rfl rfl rfl (by decide) rfl rfl hl.1 (Nat.le_of_ble_eq_true rfl) dX12_echo_37 ⟨(Nat.le_of_ble_eq_true rfl), (Nat.le_of_ble_eq_true rfl)⟩ (fun r_2 H locs hr_ haf hS => ?_)
  obtain ⟨-, -, hP, hD⟩ := haf
  have hP : va_P G classes [(nw, .inl (cy 0, 3567, .inl nw0))] H := hP
  have hD : va_D A [(nw, .inl (cy 0, 3567, .inl nw0))] := hD
  subst hr_
  refine W.widen (k := 0) (n := 0) (by first | exact Nat.le_of_ble_eq_true rfl | omega) (by first | exact Nat.le_of_ble_eq_true rfl | omega) ?_
  exact W.iret (v := (-1000001)) hx hb hr (fun t ht hW => ⟨⟨(-1000001), (), rfl, rfl, trivial⟩, hS.F ht⟩) hS.2.2 dX12_echo_40
set_option maxHeartbeats 4000000 in
set_option maxRecDepth 100000 in
theorem c_X12_click (l : Launch) (G : va_G) (cy : Nat → ClassId) (sk : Nat → Nat) (sz : Nat) (mo : Nat) (nw : Nat) (nk : Nat) (na : Nat) (fd : Nat) (ea : Nat) (so : Nat) (nd : Nat) (cd : Nat) (nmd : Nat) (pl : Nat) (tl : Nat) (fr_ : Nat) (rw_ : Nat) (brw : Nat) (po : Nat) (trc : Nat) (wi : Nat) (sz_ : Nat) (nu : Nat) (ca : Nat) (ff : Nat → Int32) (a1 : Int32)  : Met l yX12_click (wsO yX12_click cX12_click 2 (some .int)) ({ frames := 2, cells := 0, slots := 0, locals := 44 }) (va_Pc [.ref mo, .int a1] (PR G cy sk sz [(mo, .inr (12, [.ref nw, .ref nk, .ref na, .int 0, .ref fd, .ref ea, .ref so, .int (-1), .ref nd, .int 0, .int 0, .int 0, .int 0, .int 0, .int 0, .ref cd, .ref nmd, .ref pl, .ref tl, .ref fr_, .ref rw_, .ref brw, .int 0, .int 0, .ref po, .ref trc, .int 0, .int 0, .int 0, .ref wi, .ref sz_, .ref nu, .ref ca])), (nw, .inl (cy 0, 3567, .inl nw0)), (fd, .inl (cy 0, 7, .inl ff))])) (va_Qi (fun r (_ : Unit) => r = (-1000001)) (fun _ _ => True) (va_A [(mo, .inr (12, [.ref nw, .ref nk, .ref na, .int 0, .ref fd, .ref ea, .ref so, .int (-1), .ref nd, .int 0, .int 0, .int 0, .int 0, .int 0, .int 0, .ref cd, .ref nmd, .ref pl, .ref tl, .ref fr_, .ref rw_, .ref brw, .int 0, .int 0, .ref po, .ref trc, .int 0, .int 0, .int 0, .ref wi, .ref sz_, .ref nu, .ref ca])), (nw, .inl (cy 0, 3567, .inl nw0)), (fd, .inl (cy 0, 7, .inl ff))] sz)) 0 0 (va_A [(mo, .inr (12, [.ref nw, .ref nk, .ref na, .int 0, .ref fd, .ref ea, .ref so, .int (-1), .ref nd, .int 0, .int 0, .int 0, .int 0, .int 0, .int 0, .ref cd, .ref nmd, .ref pl, .ref tl, .ref fr_, .ref rw_, .ref brw, .int 0, .int 0, .ref po, .ref trc, .int 0, .int 0, .int 0, .ref wi, .ref sz_, .ref nu, .ref ca])), (nw, .inl (cy 0, 3567, .inl nw0)), (fd, .inl (cy 0, 7, .inl ff))] sz) := by
  refine mt (by decide) (Nat.le_of_ble_eq_true rfl) ?_
  intro p e s m below meth c ls hx hb hr hml hts hown hlocks hin hsz hP hE hD hl
  subst hsz
  have hl : lv_has ls 2 [(0, .ref mo), (1, .int a1)] := hl
  have hD := hD.self (sz := s.heap.size)
  generalize hAe : va_A [(mo, .inr (12, [.ref nw, .ref nk, .ref na, .int 0, .ref fd, .ref ea, .ref so, .int (-1), .ref nd, .int 0, .int 0, .int 0, .int 0, .int 0, .int 0, .ref cd, .ref nmd, .ref pl, .ref tl, .ref fr_, .ref rw_, .ref brw, .int 0, .int 0, .ref po, .ref trc, .int 0, .int 0, .int 0, .ref wi, .ref sz_, .ref nu, .ref ca])), (nw, .inl (cy 0, 3567, .inl nw0)), (fd, .inl (cy 0, 7, .inl ff))] s.heap.size = A at hD ⊢
  have hA : ∀ q : Nat, s.heap.size ≤ q → A q := fun q h => by rw [← hAe]; exact Or.inr h
  have hS : va_S A s.heap s.heap [] := va_S.rf
  refine lv_aload_n hx hb dX12_click_0 rfl (lv_at hl 0 rfl) ?_
  refine lv_iload_n hx hb dX12_click_1 rfl (lv_at hl 1 rfl) ?_
  refine lv_iconst (v := 2) hx hb dX12_click_2 (by decide) ?_
  refine rV (rest := []) hx hb hml hown hts hE (c_X12_is l G cy sk s.heap.size mo nw nk na fd ea so nd cd nmd pl tl fr_ rw_ brw po trc wi sz_ nu ca 0 (-1) 0 0 0 0 0 0 0 0 0 0 0 nw0 a1 2 (vinL (by decide)) rfl) kV_X12_is m_1465 rfl rfl ⟨(Nat.le_of_ble_eq_true rfl), (Nat.le_of_ble_eq_true rfl)⟩ hP hD 0 rfl rfl rfl [0, 1] rfl rfl rfl rfl hl.1 (Nat.le_of_ble_eq_true rfl) dX12_click_3 ⟨(Nat.le_of_ble_eq_true rfl), (Nat.le_of_ble_eq_true rfl)⟩ (fun r_1 hr_ => ?_)
  subst hr_
  refine lv_if_ne (tgt := 16) hx hb dX12_click_6 (by decide) (fun h9 => absurd h9 (by decide)) (fun _ => ?_)
  refine lv_aload_n hx hb dX12_click_9 rfl (lv_at hl 0 rfl) ?_
  refine lv_ldc (v := (-1000001)) hx hb hown (hts _ m_1433) dX12_click_10 ?_
  refine wV (B := (fun _ => True)) (wr := [(nw, .inl (cy 0, 3567, .inl nw0))]) (rest := []) hx hb hml hown hts hE (c_X12_finding l G cy sk s.heap.size mo nw nk na fd ea so nd cd nmd pl tl fr_ rw_ brw po trc wi sz_ nu ca 0 (-1) 0 0 0 0 0 0 0 0 0 0 0 ff (-1000001) 1 (by decide) (vinL (by decide))) kV_X12_finding m_1434 rfl rfl ⟨(Nat.le_of_ble_eq_true rfl), (Nat.le_of_ble_eq_true rfl)⟩ hP hD hS hA 0 rfl rfl rfl [0, 2] [1] rfl rfl rfl rfl (by decide) rfl rfl hl.1 (Nat.le_of_ble_eq_true rfl) dX12_click_12 ⟨(Nat.le_of_ble_eq_true rfl), (Nat.le_of_ble_eq_true rfl)⟩ (fun r_2 H locs hr_ haf hS => ?_)
  obtain ⟨-, -, hP, hD⟩ := haf
  have hP : va_P G classes [(nw, .inl (cy 0, 3567, .inl nw0))] H := hP
  have hD : va_D A [(nw, .inl (cy 0, 3567, .inl nw0))] := hD
  subst hr_
  refine W.widen (k := 0) (n := 0) (by first | exact Nat.le_of_ble_eq_true rfl | omega) (by first | exact Nat.le_of_ble_eq_true rfl | omega) ?_
  exact W.iret (v := (-1000001)) hx hb hr (fun t ht hW => ⟨⟨(-1000001), (), rfl, rfl, trivial⟩, hS.F ht⟩) hS.2.2 dX12_click_15
set_option maxHeartbeats 4000000 in
set_option maxRecDepth 100000 in
theorem c_X12_head (l : Launch) (G : va_G) (cy : Nat → ClassId) (sk : Nat → Nat) (sz : Nat) (mo : Nat) (nw : Nat) (nk : Nat) (na : Nat) (fd : Nat) (ea : Nat) (so : Nat) (nd : Nat) (cd : Nat) (nmd : Nat) (pl : Nat) (tl : Nat) (fr_ : Nat) (rw_ : Nat) (brw : Nat) (po : Nat) (trc : Nat) (wi : Nat) (sz_ : Nat) (nu : Nat) (ca : Nat) (ff : Nat → Int32) (a1 : Int32) (a2 : Int32) (a3 : Int32)  : Met l yX12_head (wsO yX12_head cX12_head 4 (some .int)) ({ frames := 2, cells := 0, slots := 0, locals := 44 }) (va_Pc [.ref mo, .int a1, .int a2, .int a3] (PR G cy sk sz [(mo, .inr (12, [.ref nw, .ref nk, .ref na, .int 0, .ref fd, .ref ea, .ref so, .int (-1), .ref nd, .int 0, .int 0, .int 0, .int 0, .int 0, .int 0, .ref cd, .ref nmd, .ref pl, .ref tl, .ref fr_, .ref rw_, .ref brw, .int 0, .int 0, .ref po, .ref trc, .int 0, .int 0, .int 0, .ref wi, .ref sz_, .ref nu, .ref ca])), (nw, .inl (cy 0, 3567, .inl nw0)), (fd, .inl (cy 0, 7, .inl ff))])) (va_Qi (fun r (_ : Unit) => r = (-1000001)) (fun _ _ => True) (va_A [(mo, .inr (12, [.ref nw, .ref nk, .ref na, .int 0, .ref fd, .ref ea, .ref so, .int (-1), .ref nd, .int 0, .int 0, .int 0, .int 0, .int 0, .int 0, .ref cd, .ref nmd, .ref pl, .ref tl, .ref fr_, .ref rw_, .ref brw, .int 0, .int 0, .ref po, .ref trc, .int 0, .int 0, .int 0, .ref wi, .ref sz_, .ref nu, .ref ca])), (nw, .inl (cy 0, 3567, .inl nw0)), (fd, .inl (cy 0, 7, .inl ff))] sz)) 0 0 (va_A [(mo, .inr (12, [.ref nw, .ref nk, .ref na, .int 0, .ref fd, .ref ea, .ref so, .int (-1), .ref nd, .int 0, .int 0, .int 0, .int 0, .int 0, .int 0, .ref cd, .ref nmd, .ref pl, .ref tl, .ref fr_, .ref rw_, .ref brw, .int 0, .int 0, .ref po, .ref trc, .int 0, .int 0, .int 0, .ref wi, .ref sz_, .ref nu, .ref ca])), (nw, .inl (cy 0, 3567, .inl nw0)), (fd, .inl (cy 0, 7, .inl ff))] sz) := by
  refine mt (by decide) (Nat.le_of_ble_eq_true rfl) ?_
  intro p e s m below meth c ls hx hb hr hml hts hown hlocks hin hsz hP hE hD hl
  subst hsz
  have hl : lv_has ls 4 [(0, .ref mo), (1, .int a1), (2, .int a2), (3, .int a3)] := hl
  have hD := hD.self (sz := s.heap.size)
  generalize hAe : va_A [(mo, .inr (12, [.ref nw, .ref nk, .ref na, .int 0, .ref fd, .ref ea, .ref so, .int (-1), .ref nd, .int 0, .int 0, .int 0, .int 0, .int 0, .int 0, .ref cd, .ref nmd, .ref pl, .ref tl, .ref fr_, .ref rw_, .ref brw, .int 0, .int 0, .ref po, .ref trc, .int 0, .int 0, .int 0, .ref wi, .ref sz_, .ref nu, .ref ca])), (nw, .inl (cy 0, 3567, .inl nw0)), (fd, .inl (cy 0, 7, .inl ff))] s.heap.size = A at hD ⊢
  have hA : ∀ q : Nat, s.heap.size ≤ q → A q := fun q h => by rw [← hAe]; exact Or.inr h
  have hS : va_S A s.heap s.heap [] := va_S.rf
  refine lv_aload_n hx hb dX12_head_0 rfl (lv_at hl 0 rfl) ?_
  refine lv_iload_n hx hb dX12_head_1 rfl (lv_at hl 1 rfl) ?_
  refine lv_iconst (v := 2) hx hb dX12_head_2 (by decide) ?_
  refine rV (rest := []) hx hb hml hown hts hE (c_X12_is l G cy sk s.heap.size mo nw nk na fd ea so nd cd nmd pl tl fr_ rw_ brw po trc wi sz_ nu ca 0 (-1) 0 0 0 0 0 0 0 0 0 0 0 nw0 a1 2 (vinL (by decide)) rfl) kV_X12_is m_1465 rfl rfl ⟨(Nat.le_of_ble_eq_true rfl), (Nat.le_of_ble_eq_true rfl)⟩ hP hD 0 rfl rfl rfl [0, 1] rfl rfl rfl rfl hl.1 (Nat.le_of_ble_eq_true rfl) dX12_head_3 ⟨(Nat.le_of_ble_eq_true rfl), (Nat.le_of_ble_eq_true rfl)⟩ (fun r_1 hr_ => ?_)
  subst hr_
  refine lv_if_eq (tgt := 25) hx hb dX12_head_6 (by decide) (fun _ => ?_) (fun h9 => absurd h9 (by decide))
  refine lv_aload_n hx hb dX12_head_25 rfl (lv_at hl 0 rfl) ?_
  refine lv_ldc (v := (-1000001)) hx hb hown (hts _ m_1433) dX12_head_26 ?_
  refine wV (B := (fun _ => True)) (wr := [(nw, .inl (cy 0, 3567, .inl nw0))]) (rest := []) hx hb hml hown hts hE (c_X12_finding l G cy sk s.heap.size mo nw nk na fd ea so nd cd nmd pl tl fr_ rw_ brw po trc wi sz_ nu ca 0 (-1) 0 0 0 0 0 0 0 0 0 0 0 ff (-1000001) 1 (by decide) (vinL (by decide))) kV_X12_finding m_1434 rfl rfl ⟨(Nat.le_of_ble_eq_true rfl), (Nat.le_of_ble_eq_true rfl)⟩ hP hD hS hA 0 rfl rfl rfl [0, 2] [1] rfl rfl rfl rfl (by decide) rfl rfl hl.1 (Nat.le_of_ble_eq_true rfl) dX12_head_28 ⟨(Nat.le_of_ble_eq_true rfl), (Nat.le_of_ble_eq_true rfl)⟩ (fun r_2 H locs hr_ haf hS => ?_)
  obtain ⟨-, -, hP, hD⟩ := haf
  have hP : va_P G classes [(nw, .inl (cy 0, 3567, .inl nw0))] H := hP
  have hD : va_D A [(nw, .inl (cy 0, 3567, .inl nw0))] := hD
  subst hr_
  refine W.widen (k := 0) (n := 0) (by first | exact Nat.le_of_ble_eq_true rfl | omega) (by first | exact Nat.le_of_ble_eq_true rfl | omega) ?_
  exact W.iret (v := (-1000001)) hx hb hr (fun t ht hW => ⟨⟨(-1000001), (), rfl, rfl, trivial⟩, hS.F ht⟩) hS.2.2 dX12_head_31
set_option maxHeartbeats 4000000 in
set_option maxRecDepth 100000 in
theorem c_X12_heads (l : Launch) (G : va_G) (cy : Nat → ClassId) (sk : Nat → Nat) (sz : Nat) (mo : Nat) (nw : Nat) (nk : Nat) (na : Nat) (fd : Nat) (ea : Nat) (so : Nat) (nd : Nat) (cd : Nat) (nmd : Nat) (pl : Nat) (tl : Nat) (fr_ : Nat) (rw_ : Nat) (brw : Nat) (po : Nat) (trc : Nat) (wi : Nat) (sz_ : Nat) (nu : Nat) (ca : Nat) (ff : Nat → Int32) (a1 : Int32) (a2 : Int32)  : Met l yX12_heads (wsO yX12_heads cX12_heads 7 (some .int)) ({ frames := 2, cells := 0, slots := 0, locals := 44 }) (va_Pc [.ref mo, .int a1, .int a2] (PR G cy sk sz [(mo, .inr (12, [.ref nw, .ref nk, .ref na, .int 0, .ref fd, .ref ea, .ref so, .int (-1), .ref nd, .int 0, .int 0, .int 0, .int 0, .int 0, .int 0, .ref cd, .ref nmd, .ref pl, .ref tl, .ref fr_, .ref rw_, .ref brw, .int 0, .int 0, .ref po, .ref trc, .int 0, .int 0, .int 0, .ref wi, .ref sz_, .ref nu, .ref ca])), (nw, .inl (cy 0, 3567, .inl nw0)), (fd, .inl (cy 0, 7, .inl ff))])) (va_Qi (fun r (_ : Unit) => r = (-1000001)) (fun _ _ => True) (va_A [(mo, .inr (12, [.ref nw, .ref nk, .ref na, .int 0, .ref fd, .ref ea, .ref so, .int (-1), .ref nd, .int 0, .int 0, .int 0, .int 0, .int 0, .int 0, .ref cd, .ref nmd, .ref pl, .ref tl, .ref fr_, .ref rw_, .ref brw, .int 0, .int 0, .ref po, .ref trc, .int 0, .int 0, .int 0, .ref wi, .ref sz_, .ref nu, .ref ca])), (nw, .inl (cy 0, 3567, .inl nw0)), (fd, .inl (cy 0, 7, .inl ff))] sz)) 0 0 (va_A [(mo, .inr (12, [.ref nw, .ref nk, .ref na, .int 0, .ref fd, .ref ea, .ref so, .int (-1), .ref nd, .int 0, .int 0, .int 0, .int 0, .int 0, .int 0, .ref cd, .ref nmd, .ref pl, .ref tl, .ref fr_, .ref rw_, .ref brw, .int 0, .int 0, .ref po, .ref trc, .int 0, .int 0, .int 0, .ref wi, .ref sz_, .ref nu, .ref ca])), (nw, .inl (cy 0, 3567, .inl nw0)), (fd, .inl (cy 0, 7, .inl ff))] sz) := by
  refine mt (by decide) (Nat.le_of_ble_eq_true rfl) ?_
  intro p e s m below meth c ls hx hb hr hml hts hown hlocks hin hsz hP hE hD hl
  subst hsz
  have hl : lv_has ls 7 [(0, .ref mo), (1, .int a1), (2, .int a2)] := hl
  have hD := hD.self (sz := s.heap.size)
  generalize hAe : va_A [(mo, .inr (12, [.ref nw, .ref nk, .ref na, .int 0, .ref fd, .ref ea, .ref so, .int (-1), .ref nd, .int 0, .int 0, .int 0, .int 0, .int 0, .int 0, .ref cd, .ref nmd, .ref pl, .ref tl, .ref fr_, .ref rw_, .ref brw, .int 0, .int 0, .ref po, .ref trc, .int 0, .int 0, .int 0, .ref wi, .ref sz_, .ref nu, .ref ca])), (nw, .inl (cy 0, 3567, .inl nw0)), (fd, .inl (cy 0, 7, .inl ff))] s.heap.size = A at hD ⊢
  have hA : ∀ q : Nat, s.heap.size ≤ q → A q := fun q h => by rw [← hAe]; exact Or.inr h
  have hS : va_S A s.heap s.heap [] := va_S.rf
  refine lv_aload_n hx hb dX12_heads_0 rfl (lv_at hl 0 rfl) ?_
  refine lv_iload_n hx hb dX12_heads_1 rfl (lv_at hl 1 rfl) ?_
  refine lv_iconst (v := 2) hx hb dX12_heads_2 (by decide) ?_
  refine rV (rest := []) hx hb hml hown hts hE (c_X12_is l G cy sk s.heap.size mo nw nk na fd ea so nd cd nmd pl tl fr_ rw_ brw po trc wi sz_ nu ca 0 (-1) 0 0 0 0 0 0 0 0 0 0 0 nw0 a1 2 (vinL (by decide)) rfl) kV_X12_is m_1465 rfl rfl ⟨(Nat.le_of_ble_eq_true rfl), (Nat.le_of_ble_eq_true rfl)⟩ hP hD 0 rfl rfl rfl [0, 1] rfl rfl rfl rfl hl.1 (Nat.le_of_ble_eq_true rfl) dX12_heads_3 ⟨(Nat.le_of_ble_eq_true rfl), (Nat.le_of_ble_eq_true rfl)⟩ (fun r_1 hr_ => ?_)
  subst hr_
  refine lv_if_eq (tgt := 18) hx hb dX12_heads_6 (by decide) (fun _ => ?_) (fun h9 => absurd h9 (by decide))
  refine lv_aload_n hx hb dX12_heads_18 rfl (lv_at hl 0 rfl) ?_
  refine lv_ldc (v := (-1000001)) hx hb hown (hts _ m_1433) dX12_heads_19 ?_
  refine wV (B := (fun _ => True)) (wr := [(nw, .inl (cy 0, 3567, .inl nw0))]) (rest := []) hx hb hml hown hts hE (c_X12_finding l G cy sk s.heap.size mo nw nk na fd ea so nd cd nmd pl tl fr_ rw_ brw po trc wi sz_ nu ca 0 (-1) 0 0 0 0 0 0 0 0 0 0 0 ff (-1000001) 1 (by decide) (vinL (by decide))) kV_X12_finding m_1434 rfl rfl ⟨(Nat.le_of_ble_eq_true rfl), (Nat.le_of_ble_eq_true rfl)⟩ hP hD hS hA 0 rfl rfl rfl [0, 2] [1] rfl rfl rfl rfl (by decide) rfl rfl hl.1 (Nat.le_of_ble_eq_true rfl) dX12_heads_21 ⟨(Nat.le_of_ble_eq_true rfl), (Nat.le_of_ble_eq_true rfl)⟩ (fun r_2 H locs hr_ haf hS => ?_)
  obtain ⟨-, -, hP, hD⟩ := haf
  have hP : va_P G classes [(nw, .inl (cy 0, 3567, .inl nw0))] H := hP
  have hD : va_D A [(nw, .inl (cy 0, 3567, .inl nw0))] := hD
  subst hr_
  refine W.widen (k := 0) (n := 0) (by first | exact Nat.le_of_ble_eq_true rfl | omega) (by first | exact Nat.le_of_ble_eq_true rfl | omega) ?_
  exact W.iret (v := (-1000001)) hx hb hr (fun t ht hW => ⟨⟨(-1000001), (), rfl, rfl, trivial⟩, hS.F ht⟩) hS.2.2 dX12_heads_24
set_option maxHeartbeats 4000000 in
set_option maxRecDepth 100000 in
theorem c_X12_alike (l : Launch) (G : va_G) (cy : Nat → ClassId) (sk : Nat → Nat) (sz : Nat) (mo : Nat) (nw : Nat) (nk : Nat) (na : Nat) (fd : Nat) (ea : Nat) (so : Nat) (nd : Nat) (cd : Nat) (nmd : Nat) (pl : Nat) (tl : Nat) (fr_ : Nat) (rw_ : Nat) (brw : Nat) (po : Nat) (trc : Nat) (wi : Nat) (sz_ : Nat) (nu : Nat) (ca : Nat) (ff : Nat → Int32) (a1 : Int32) (a2 : Int32) (a3 : Int32) (a4 : Int32) (a5 : Int32)  : Met l yX12_alike (wsO yX12_alike cX12_alike 9 (some .int)) ({ frames := 2, cells := 0, slots := 0, locals := 44 }) (va_Pc [.ref mo, .int a1, .int a2, .int a3, .int a4, .int a5] (PR G cy sk sz [(mo, .inr (12, [.ref nw, .ref nk, .ref na, .int 0, .ref fd, .ref ea, .ref so, .int (-1), .ref nd, .int 0, .int 0, .int 0, .int 0, .int 0, .int 0, .ref cd, .ref nmd, .ref pl, .ref tl, .ref fr_, .ref rw_, .ref brw, .int 0, .int 0, .ref po, .ref trc, .int 0, .int 0, .int 0, .ref wi, .ref sz_, .ref nu, .ref ca])), (nw, .inl (cy 0, 3567, .inl nw0)), (fd, .inl (cy 0, 7, .inl ff))])) (va_Qi (fun r (_ : Unit) => r = (-1000001)) (fun _ _ => True) (va_A [(mo, .inr (12, [.ref nw, .ref nk, .ref na, .int 0, .ref fd, .ref ea, .ref so, .int (-1), .ref nd, .int 0, .int 0, .int 0, .int 0, .int 0, .int 0, .ref cd, .ref nmd, .ref pl, .ref tl, .ref fr_, .ref rw_, .ref brw, .int 0, .int 0, .ref po, .ref trc, .int 0, .int 0, .int 0, .ref wi, .ref sz_, .ref nu, .ref ca])), (nw, .inl (cy 0, 3567, .inl nw0)), (fd, .inl (cy 0, 7, .inl ff))] sz)) 0 0 (va_A [(mo, .inr (12, [.ref nw, .ref nk, .ref na, .int 0, .ref fd, .ref ea, .ref so, .int (-1), .ref nd, .int 0, .int 0, .int 0, .int 0, .int 0, .int 0, .ref cd, .ref nmd, .ref pl, .ref tl, .ref fr_, .ref rw_, .ref brw, .int 0, .int 0, .ref po, .ref trc, .int 0, .int 0, .int 0, .ref wi, .ref sz_, .ref nu, .ref ca])), (nw, .inl (cy 0, 3567, .inl nw0)), (fd, .inl (cy 0, 7, .inl ff))] sz) := by
  refine mt (by decide) (Nat.le_of_ble_eq_true rfl) ?_
  intro p e s m below meth c ls hx hb hr hml hts hown hlocks hin hsz hP hE hD hl
  subst hsz
  have hl : lv_has ls 9 [(0, .ref mo), (1, .int a1), (2, .int a2), (3, .int a3), (4, .int a4), (5, .int a5)] := hl
  have hD := hD.self (sz := s.heap.size)
  generalize hAe : va_A [(mo, .inr (12, [.ref nw, .ref nk, .ref na, .int 0, .ref fd, .ref ea, .ref so, .int (-1), .ref nd, .int 0, .int 0, .int 0, .int 0, .int 0, .int 0, .ref cd, .ref nmd, .ref pl, .ref tl, .ref fr_, .ref rw_, .ref brw, .int 0, .int 0, .ref po, .ref trc, .int 0, .int 0, .int 0, .ref wi, .ref sz_, .ref nu, .ref ca])), (nw, .inl (cy 0, 3567, .inl nw0)), (fd, .inl (cy 0, 7, .inl ff))] s.heap.size = A at hD ⊢
  have hA : ∀ q : Nat, s.heap.size ≤ q → A q := fun q h => by rw [← hAe]; exact Or.inr h
  have hS : va_S A s.heap s.heap [] := va_S.rf
  refine lv_aload_n hx hb dX12_alike_0 rfl (lv_at hl 0 rfl) ?_
  refine lv_iload_n hx hb dX12_alike_1 rfl (lv_at hl 1 rfl) ?_
  refine lv_iconst (v := 2) hx hb dX12_alike_2 (by decide) ?_
  refine rV (rest := []) hx hb hml hown hts hE (c_X12_is l G cy sk s.heap.size mo nw nk na fd ea so nd cd nmd pl tl fr_ rw_ brw po trc wi sz_ nu ca 0 (-1) 0 0 0 0 0 0 0 0 0 0 0 nw0 a1 2 (vinL (by decide)) rfl) kV_X12_is m_1465 rfl rfl ⟨(Nat.le_of_ble_eq_true rfl), (Nat.le_of_ble_eq_true rfl)⟩ hP hD 0 rfl rfl rfl [0, 1] rfl rfl rfl rfl hl.1 (Nat.le_of_ble_eq_true rfl) dX12_alike_3 ⟨(Nat.le_of_ble_eq_true rfl), (Nat.le_of_ble_eq_true rfl)⟩ (fun r_1 hr_ => ?_)
  subst hr_
  refine lv_if_eq (tgt := 38) hx hb dX12_alike_6 (by decide) (fun _ => ?_) (fun h9 => absurd h9 (by decide))
  refine lv_aload_n hx hb dX12_alike_38 rfl (lv_at hl 0 rfl) ?_
  refine lv_ldc (v := (-1000001)) hx hb hown (hts _ m_1433) dX12_alike_39 ?_
  refine wV (B := (fun _ => True)) (wr := [(nw, .inl (cy 0, 3567, .inl nw0))]) (rest := []) hx hb hml hown hts hE (c_X12_finding l G cy sk s.heap.size mo nw nk na fd ea so nd cd nmd pl tl fr_ rw_ brw po trc wi sz_ nu ca 0 (-1) 0 0 0 0 0 0 0 0 0 0 0 ff (-1000001) 1 (by decide) (vinL (by decide))) kV_X12_finding m_1434 rfl rfl ⟨(Nat.le_of_ble_eq_true rfl), (Nat.le_of_ble_eq_true rfl)⟩ hP hD hS hA 0 rfl rfl rfl [0, 2] [1] rfl rfl rfl rfl (by decide) rfl rfl hl.1 (Nat.le_of_ble_eq_true rfl) dX12_alike_41 ⟨(Nat.le_of_ble_eq_true rfl), (Nat.le_of_ble_eq_true rfl)⟩ (fun r_2 H locs hr_ haf hS => ?_)
  obtain ⟨-, -, hP, hD⟩ := haf
  have hP : va_P G classes [(nw, .inl (cy 0, 3567, .inl nw0))] H := hP
  have hD : va_D A [(nw, .inl (cy 0, 3567, .inl nw0))] := hD
  subst hr_
  refine W.widen (k := 0) (n := 0) (by first | exact Nat.le_of_ble_eq_true rfl | omega) (by first | exact Nat.le_of_ble_eq_true rfl | omega) ?_
  exact W.iret (v := (-1000001)) hx hb hr (fun t ht hW => ⟨⟨(-1000001), (), rfl, rfl, trivial⟩, hS.F ht⟩) hS.2.2 dX12_alike_44
set_option maxHeartbeats 4000000 in
set_option maxRecDepth 100000 in
theorem c_X12_least (l : Launch) (G : va_G) (cy : Nat → ClassId) (sk : Nat → Nat) (sz : Nat) (mo : Nat) (nw : Nat) (nk : Nat) (na : Nat) (fd : Nat) (ea : Nat) (so : Nat) (nd : Nat) (cd : Nat) (nmd : Nat) (pl : Nat) (tl : Nat) (fr_ : Nat) (rw_ : Nat) (brw : Nat) (po : Nat) (trc : Nat) (wi : Nat) (sz_ : Nat) (nu : Nat) (ca : Nat) (ff : Nat → Int32) (a1 : Int32) (a2 : Int32) (a3 : Int32) (a4 : Int32)  : Met l yX12_least (wsO yX12_least cX12_least 6 (some .int)) ({ frames := 2, cells := 0, slots := 0, locals := 44 }) (va_Pc [.ref mo, .int a1, .int a2, .int a3, .int a4] (PR G cy sk sz [(mo, .inr (12, [.ref nw, .ref nk, .ref na, .int 0, .ref fd, .ref ea, .ref so, .int (-1), .ref nd, .int 0, .int 0, .int 0, .int 0, .int 0, .int 0, .ref cd, .ref nmd, .ref pl, .ref tl, .ref fr_, .ref rw_, .ref brw, .int 0, .int 0, .ref po, .ref trc, .int 0, .int 0, .int 0, .ref wi, .ref sz_, .ref nu, .ref ca])), (nw, .inl (cy 0, 3567, .inl nw0)), (fd, .inl (cy 0, 7, .inl ff))])) (va_Qi (fun r (_ : Unit) => r = (-1000001)) (fun _ _ => True) (va_A [(mo, .inr (12, [.ref nw, .ref nk, .ref na, .int 0, .ref fd, .ref ea, .ref so, .int (-1), .ref nd, .int 0, .int 0, .int 0, .int 0, .int 0, .int 0, .ref cd, .ref nmd, .ref pl, .ref tl, .ref fr_, .ref rw_, .ref brw, .int 0, .int 0, .ref po, .ref trc, .int 0, .int 0, .int 0, .ref wi, .ref sz_, .ref nu, .ref ca])), (nw, .inl (cy 0, 3567, .inl nw0)), (fd, .inl (cy 0, 7, .inl ff))] sz)) 0 0 (va_A [(mo, .inr (12, [.ref nw, .ref nk, .ref na, .int 0, .ref fd, .ref ea, .ref so, .int (-1), .ref nd, .int 0, .int 0, .int 0, .int 0, .int 0, .int 0, .ref cd, .ref nmd, .ref pl, .ref tl, .ref fr_, .ref rw_, .ref brw, .int 0, .int 0, .ref po, .ref trc, .int 0, .int 0, .int 0, .ref wi, .ref sz_, .ref nu, .ref ca])), (nw, .inl (cy 0, 3567, .inl nw0)), (fd, .inl (cy 0, 7, .inl ff))] sz) := by
  refine mt (by decide) (Nat.le_of_ble_eq_true rfl) ?_
  intro p e s m below meth c ls hx hb hr hml hts hown hlocks hin hsz hP hE hD hl
  subst hsz
  have hl : lv_has ls 6 [(0, .ref mo), (1, .int a1), (2, .int a2), (3, .int a3), (4, .int a4)] := hl
  have hD := hD.self (sz := s.heap.size)
  generalize hAe : va_A [(mo, .inr (12, [.ref nw, .ref nk, .ref na, .int 0, .ref fd, .ref ea, .ref so, .int (-1), .ref nd, .int 0, .int 0, .int 0, .int 0, .int 0, .int 0, .ref cd, .ref nmd, .ref pl, .ref tl, .ref fr_, .ref rw_, .ref brw, .int 0, .int 0, .ref po, .ref trc, .int 0, .int 0, .int 0, .ref wi, .ref sz_, .ref nu, .ref ca])), (nw, .inl (cy 0, 3567, .inl nw0)), (fd, .inl (cy 0, 7, .inl ff))] s.heap.size = A at hD ⊢
  have hA : ∀ q : Nat, s.heap.size ≤ q → A q := fun q h => by rw [← hAe]; exact Or.inr h
  have hS : va_S A s.heap s.heap [] := va_S.rf
  refine lv_aload_n hx hb dX12_least_0 rfl (lv_at hl 0 rfl) ?_
  refine lv_iload_n hx hb dX12_least_1 rfl (lv_at hl 1 rfl) ?_
  refine lv_iconst (v := 2) hx hb dX12_least_2 (by decide) ?_
  refine rV (rest := []) hx hb hml hown hts hE (c_X12_is l G cy sk s.heap.size mo nw nk na fd ea so nd cd nmd pl tl fr_ rw_ brw po trc wi sz_ nu ca 0 (-1) 0 0 0 0 0 0 0 0 0 0 0 nw0 a1 2 (vinL (by decide)) rfl) kV_X12_is m_1465 rfl rfl ⟨(Nat.le_of_ble_eq_true rfl), (Nat.le_of_ble_eq_true rfl)⟩ hP hD 0 rfl rfl rfl [0, 1] rfl rfl rfl rfl hl.1 (Nat.le_of_ble_eq_true rfl) dX12_least_3 ⟨(Nat.le_of_ble_eq_true rfl), (Nat.le_of_ble_eq_true rfl)⟩ (fun r_1 hr_ => ?_)
  subst hr_
  refine lv_if_eq (tgt := 38) hx hb dX12_least_6 (by decide) (fun _ => ?_) (fun h9 => absurd h9 (by decide))
  refine lv_aload_n hx hb dX12_least_38 rfl (lv_at hl 0 rfl) ?_
  refine lv_ldc (v := (-1000001)) hx hb hown (hts _ m_1433) dX12_least_39 ?_
  refine wV (B := (fun _ => True)) (wr := [(nw, .inl (cy 0, 3567, .inl nw0))]) (rest := []) hx hb hml hown hts hE (c_X12_finding l G cy sk s.heap.size mo nw nk na fd ea so nd cd nmd pl tl fr_ rw_ brw po trc wi sz_ nu ca 0 (-1) 0 0 0 0 0 0 0 0 0 0 0 ff (-1000001) 1 (by decide) (vinL (by decide))) kV_X12_finding m_1434 rfl rfl ⟨(Nat.le_of_ble_eq_true rfl), (Nat.le_of_ble_eq_true rfl)⟩ hP hD hS hA 0 rfl rfl rfl [0, 2] [1] rfl rfl rfl rfl (by decide) rfl rfl hl.1 (Nat.le_of_ble_eq_true rfl) dX12_least_41 ⟨(Nat.le_of_ble_eq_true rfl), (Nat.le_of_ble_eq_true rfl)⟩ (fun r_2 H locs hr_ haf hS => ?_)
  obtain ⟨-, -, hP, hD⟩ := haf
  have hP : va_P G classes [(nw, .inl (cy 0, 3567, .inl nw0))] H := hP
  have hD : va_D A [(nw, .inl (cy 0, 3567, .inl nw0))] := hD
  subst hr_
  refine W.widen (k := 0) (n := 0) (by first | exact Nat.le_of_ble_eq_true rfl | omega) (by first | exact Nat.le_of_ble_eq_true rfl | omega) ?_
  exact W.iret (v := (-1000001)) hx hb hr (fun t ht hW => ⟨⟨(-1000001), (), rfl, rfl, trivial⟩, hS.F ht⟩) hS.2.2 dX12_least_44
set_option maxHeartbeats 4000000 in
set_option maxRecDepth 100000 in
theorem c_X12_farthest (l : Launch) (G : va_G) (cy : Nat → ClassId) (sk : Nat → Nat) (sz : Nat) (mo : Nat) (nw : Nat) (nk : Nat) (na : Nat) (fd : Nat) (ea : Nat) (so : Nat) (nd : Nat) (cd : Nat) (nmd : Nat) (pl : Nat) (tl : Nat) (fr_ : Nat) (rw_ : Nat) (brw : Nat) (po : Nat) (trc : Nat) (wi : Nat) (sz_ : Nat) (nu : Nat) (ca : Nat) (ff : Nat → Int32) (a1 : Int32) (a2 : Int32) (a3 : Int32)  : Met l yX12_farthest (wsO yX12_farthest cX12_farthest 5 (some .int)) ({ frames := 2, cells := 0, slots := 0, locals := 44 }) (va_Pc [.ref mo, .int a1, .int a2, .int a3] (PR G cy sk sz [(mo, .inr (12, [.ref nw, .ref nk, .ref na, .int 0, .ref fd, .ref ea, .ref so, .int (-1), .ref nd, .int 0, .int 0, .int 0, .int 0, .int 0, .int 0, .ref cd, .ref nmd, .ref pl, .ref tl, .ref fr_, .ref rw_, .ref brw, .int 0, .int 0, .ref po, .ref trc, .int 0, .int 0, .int 0, .ref wi, .ref sz_, .ref nu, .ref ca])), (nw, .inl (cy 0, 3567, .inl nw0)), (fd, .inl (cy 0, 7, .inl ff))])) (va_Qi (fun r (_ : Unit) => r = (-1000001)) (fun _ _ => True) (va_A [(mo, .inr (12, [.ref nw, .ref nk, .ref na, .int 0, .ref fd, .ref ea, .ref so, .int (-1), .ref nd, .int 0, .int 0, .int 0, .int 0, .int 0, .int 0, .ref cd, .ref nmd, .ref pl, .ref tl, .ref fr_, .ref rw_, .ref brw, .int 0, .int 0, .ref po, .ref trc, .int 0, .int 0, .int 0, .ref wi, .ref sz_, .ref nu, .ref ca])), (nw, .inl (cy 0, 3567, .inl nw0)), (fd, .inl (cy 0, 7, .inl ff))] sz)) 0 0 (va_A [(mo, .inr (12, [.ref nw, .ref nk, .ref na, .int 0, .ref fd, .ref ea, .ref so, .int (-1), .ref nd, .int 0, .int 0, .int 0, .int 0, .int 0, .int 0, .ref cd, .ref nmd, .ref pl, .ref tl, .ref fr_, .ref rw_, .ref brw, .int 0, .int 0, .ref po, .ref trc, .int 0, .int 0, .int 0, .ref wi, .ref sz_, .ref nu, .ref ca])), (nw, .inl (cy 0, 3567, .inl nw0)), (fd, .inl (cy 0, 7, .inl ff))] sz) := by
  refine mt (by decide) (Nat.le_of_ble_eq_true rfl) ?_
  intro p e s m below meth c ls hx hb hr hml hts hown hlocks hin hsz hP hE hD hl
  subst hsz
  have hl : lv_has ls 5 [(0, .ref mo), (1, .int a1), (2, .int a2), (3, .int a3)] := hl
  have hD := hD.self (sz := s.heap.size)
  generalize hAe : va_A [(mo, .inr (12, [.ref nw, .ref nk, .ref na, .int 0, .ref fd, .ref ea, .ref so, .int (-1), .ref nd, .int 0, .int 0, .int 0, .int 0, .int 0, .int 0, .ref cd, .ref nmd, .ref pl, .ref tl, .ref fr_, .ref rw_, .ref brw, .int 0, .int 0, .ref po, .ref trc, .int 0, .int 0, .int 0, .ref wi, .ref sz_, .ref nu, .ref ca])), (nw, .inl (cy 0, 3567, .inl nw0)), (fd, .inl (cy 0, 7, .inl ff))] s.heap.size = A at hD ⊢
  have hA : ∀ q : Nat, s.heap.size ≤ q → A q := fun q h => by rw [← hAe]; exact Or.inr h
  have hS : va_S A s.heap s.heap [] := va_S.rf
  refine lv_aload_n hx hb dX12_farthest_0 rfl (lv_at hl 0 rfl) ?_
  refine lv_iload_n hx hb dX12_farthest_1 rfl (lv_at hl 1 rfl) ?_
  refine lv_iconst (v := 2) hx hb dX12_farthest_2 (by decide) ?_
  refine rV (rest := []) hx hb hml hown hts hE (c_X12_is l G cy sk s.heap.size mo nw nk na fd ea so nd cd nmd pl tl fr_ rw_ brw po trc wi sz_ nu ca 0 (-1) 0 0 0 0 0 0 0 0 0 0 0 nw0 a1 2 (vinL (by decide)) rfl) kV_X12_is m_1465 rfl rfl ⟨(Nat.le_of_ble_eq_true rfl), (Nat.le_of_ble_eq_true rfl)⟩ hP hD 0 rfl rfl rfl [0, 1] rfl rfl rfl rfl hl.1 (Nat.le_of_ble_eq_true rfl) dX12_farthest_3 ⟨(Nat.le_of_ble_eq_true rfl), (Nat.le_of_ble_eq_true rfl)⟩ (fun r_1 hr_ => ?_)
  subst hr_
  refine lv_if_eq (tgt := 26) hx hb dX12_farthest_6 (by decide) (fun _ => ?_) (fun h9 => absurd h9 (by decide))
  refine lv_aload_n hx hb dX12_farthest_26 rfl (lv_at hl 0 rfl) ?_
  refine lv_ldc (v := (-1000001)) hx hb hown (hts _ m_1433) dX12_farthest_27 ?_
  refine wV (B := (fun _ => True)) (wr := [(nw, .inl (cy 0, 3567, .inl nw0))]) (rest := []) hx hb hml hown hts hE (c_X12_finding l G cy sk s.heap.size mo nw nk na fd ea so nd cd nmd pl tl fr_ rw_ brw po trc wi sz_ nu ca 0 (-1) 0 0 0 0 0 0 0 0 0 0 0 ff (-1000001) 1 (by decide) (vinL (by decide))) kV_X12_finding m_1434 rfl rfl ⟨(Nat.le_of_ble_eq_true rfl), (Nat.le_of_ble_eq_true rfl)⟩ hP hD hS hA 0 rfl rfl rfl [0, 2] [1] rfl rfl rfl rfl (by decide) rfl rfl hl.1 (Nat.le_of_ble_eq_true rfl) dX12_farthest_29 ⟨(Nat.le_of_ble_eq_true rfl), (Nat.le_of_ble_eq_true rfl)⟩ (fun r_2 H locs hr_ haf hS => ?_)
  obtain ⟨-, -, hP, hD⟩ := haf
  have hP : va_P G classes [(nw, .inl (cy 0, 3567, .inl nw0))] H := hP
  have hD : va_D A [(nw, .inl (cy 0, 3567, .inl nw0))] := hD
  subst hr_
  refine W.widen (k := 0) (n := 0) (by first | exact Nat.le_of_ble_eq_true rfl | omega) (by first | exact Nat.le_of_ble_eq_true rfl | omega) ?_
  exact W.iret (v := (-1000001)) hx hb hr (fun t ht hW => ⟨⟨(-1000001), (), rfl, rfl, trivial⟩, hS.F ht⟩) hS.2.2 dX12_farthest_32
set_option maxHeartbeats 4000000 in
set_option maxRecDepth 100000 in
theorem c_X12_spots (l : Launch) (G : va_G) (cy : Nat → ClassId) (sk : Nat → Nat) (sz : Nat) (mo : Nat) (nw : Nat) (nk : Nat) (na : Nat) (fd : Nat) (ea : Nat) (so : Nat) (nd : Nat) (cd : Nat) (nmd : Nat) (pl : Nat) (tl : Nat) (fr_ : Nat) (rw_ : Nat) (brw : Nat) (po : Nat) (trc : Nat) (wi : Nat) (sz_ : Nat) (nu : Nat) (ca : Nat) (ff : Nat → Int32) (a1 : Int32) (a2 : Int32) (a3 : Int32) (a4 : Int32)  : Met l yX12_spots (wsO yX12_spots cX12_spots 9 (some .int)) ({ frames := 2, cells := 0, slots := 0, locals := 44 }) (va_Pc [.ref mo, .int a1, .int a2, .int a3, .int a4] (PR G cy sk sz [(mo, .inr (12, [.ref nw, .ref nk, .ref na, .int 0, .ref fd, .ref ea, .ref so, .int (-1), .ref nd, .int 0, .int 0, .int 0, .int 0, .int 0, .int 0, .ref cd, .ref nmd, .ref pl, .ref tl, .ref fr_, .ref rw_, .ref brw, .int 0, .int 0, .ref po, .ref trc, .int 0, .int 0, .int 0, .ref wi, .ref sz_, .ref nu, .ref ca])), (nw, .inl (cy 0, 3567, .inl nw0)), (fd, .inl (cy 0, 7, .inl ff))])) (va_Qi (fun r (_ : Unit) => r = (-1000001)) (fun _ _ => True) (va_A [(mo, .inr (12, [.ref nw, .ref nk, .ref na, .int 0, .ref fd, .ref ea, .ref so, .int (-1), .ref nd, .int 0, .int 0, .int 0, .int 0, .int 0, .int 0, .ref cd, .ref nmd, .ref pl, .ref tl, .ref fr_, .ref rw_, .ref brw, .int 0, .int 0, .ref po, .ref trc, .int 0, .int 0, .int 0, .ref wi, .ref sz_, .ref nu, .ref ca])), (nw, .inl (cy 0, 3567, .inl nw0)), (fd, .inl (cy 0, 7, .inl ff))] sz)) 0 0 (va_A [(mo, .inr (12, [.ref nw, .ref nk, .ref na, .int 0, .ref fd, .ref ea, .ref so, .int (-1), .ref nd, .int 0, .int 0, .int 0, .int 0, .int 0, .int 0, .ref cd, .ref nmd, .ref pl, .ref tl, .ref fr_, .ref rw_, .ref brw, .int 0, .int 0, .ref po, .ref trc, .int 0, .int 0, .int 0, .ref wi, .ref sz_, .ref nu, .ref ca])), (nw, .inl (cy 0, 3567, .inl nw0)), (fd, .inl (cy 0, 7, .inl ff))] sz) := by
  refine mt (by decide) (Nat.le_of_ble_eq_true rfl) ?_
  intro p e s m below meth c ls hx hb hr hml hts hown hlocks hin hsz hP hE hD hl
  subst hsz
  have hl : lv_has ls 9 [(0, .ref mo), (1, .int a1), (2, .int a2), (3, .int a3), (4, .int a4)] := hl
  have hD := hD.self (sz := s.heap.size)
  generalize hAe : va_A [(mo, .inr (12, [.ref nw, .ref nk, .ref na, .int 0, .ref fd, .ref ea, .ref so, .int (-1), .ref nd, .int 0, .int 0, .int 0, .int 0, .int 0, .int 0, .ref cd, .ref nmd, .ref pl, .ref tl, .ref fr_, .ref rw_, .ref brw, .int 0, .int 0, .ref po, .ref trc, .int 0, .int 0, .int 0, .ref wi, .ref sz_, .ref nu, .ref ca])), (nw, .inl (cy 0, 3567, .inl nw0)), (fd, .inl (cy 0, 7, .inl ff))] s.heap.size = A at hD ⊢
  have hA : ∀ q : Nat, s.heap.size ≤ q → A q := fun q h => by rw [← hAe]; exact Or.inr h
  have hS : va_S A s.heap s.heap [] := va_S.rf
  refine lv_aload_n hx hb dX12_spots_0 rfl (lv_at hl 0 rfl) ?_
  refine lv_iload_n hx hb dX12_spots_1 rfl (lv_at hl 1 rfl) ?_
  refine lv_iconst (v := 2) hx hb dX12_spots_2 (by decide) ?_
  refine rV (rest := []) hx hb hml hown hts hE (c_X12_is l G cy sk s.heap.size mo nw nk na fd ea so nd cd nmd pl tl fr_ rw_ brw po trc wi sz_ nu ca 0 (-1) 0 0 0 0 0 0 0 0 0 0 0 nw0 a1 2 (vinL (by decide)) rfl) kV_X12_is m_1465 rfl rfl ⟨(Nat.le_of_ble_eq_true rfl), (Nat.le_of_ble_eq_true rfl)⟩ hP hD 0 rfl rfl rfl [0, 1] rfl rfl rfl rfl hl.1 (Nat.le_of_ble_eq_true rfl) dX12_spots_3 ⟨(Nat.le_of_ble_eq_true rfl), (Nat.le_of_ble_eq_true rfl)⟩ (fun r_1 hr_ => ?_)
  subst hr_
  refine lv_if_eq (tgt := 35) hx hb dX12_spots_6 (by decide) (fun _ => ?_) (fun h9 => absurd h9 (by decide))
  refine lv_aload_n hx hb dX12_spots_35 rfl (lv_at hl 0 rfl) ?_
  refine lv_ldc (v := (-1000001)) hx hb hown (hts _ m_1433) dX12_spots_36 ?_
  refine wV (B := (fun _ => True)) (wr := [(nw, .inl (cy 0, 3567, .inl nw0))]) (rest := []) hx hb hml hown hts hE (c_X12_finding l G cy sk s.heap.size mo nw nk na fd ea so nd cd nmd pl tl fr_ rw_ brw po trc wi sz_ nu ca 0 (-1) 0 0 0 0 0 0 0 0 0 0 0 ff (-1000001) 1 (by decide) (vinL (by decide))) kV_X12_finding m_1434 rfl rfl ⟨(Nat.le_of_ble_eq_true rfl), (Nat.le_of_ble_eq_true rfl)⟩ hP hD hS hA 0 rfl rfl rfl [0, 2] [1] rfl rfl rfl rfl (by decide) rfl rfl hl.1 (Nat.le_of_ble_eq_true rfl) dX12_spots_38 ⟨(Nat.le_of_ble_eq_true rfl), (Nat.le_of_ble_eq_true rfl)⟩ (fun r_2 H locs hr_ haf hS => ?_)
  obtain ⟨-, -, hP, hD⟩ := haf
  have hP : va_P G classes [(nw, .inl (cy 0, 3567, .inl nw0))] H := hP
  have hD : va_D A [(nw, .inl (cy 0, 3567, .inl nw0))] := hD
  subst hr_
  refine W.widen (k := 0) (n := 0) (by first | exact Nat.le_of_ble_eq_true rfl | omega) (by first | exact Nat.le_of_ble_eq_true rfl | omega) ?_
  exact W.iret (v := (-1000001)) hx hb hr (fun t ht hW => ⟨⟨(-1000001), (), rfl, rfl, trivial⟩, hS.F ht⟩) hS.2.2 dX12_spots_41
set_option maxHeartbeats 4000000 in
set_option maxRecDepth 100000 in
theorem c_X12_way (l : Launch) (G : va_G) (cy : Nat → ClassId) (sk : Nat → Nat) (sz : Nat) (mo : Nat) (nw : Nat) (nk : Nat) (na : Nat) (fd : Nat) (ea : Nat) (so : Nat) (nd : Nat) (cd : Nat) (nmd : Nat) (pl : Nat) (tl : Nat) (fr_ : Nat) (rw_ : Nat) (brw : Nat) (po : Nat) (trc : Nat) (wi : Nat) (sz_ : Nat) (nu : Nat) (ca : Nat) (ff : Nat → Int32) (a1 : Int32) (a2 : Int32) (a3 : Int32)  : Met l yX12_way (wsO yX12_way cX12_way 7 (some .int)) ({ frames := 2, cells := 0, slots := 0, locals := 44 }) (va_Pc [.ref mo, .int a1, .int a2, .int a3] (PR G cy sk sz [(mo, .inr (12, [.ref nw, .ref nk, .ref na, .int 0, .ref fd, .ref ea, .ref so, .int (-1), .ref nd, .int 0, .int 0, .int 0, .int 0, .int 0, .int 0, .ref cd, .ref nmd, .ref pl, .ref tl, .ref fr_, .ref rw_, .ref brw, .int 0, .int 0, .ref po, .ref trc, .int 0, .int 0, .int 0, .ref wi, .ref sz_, .ref nu, .ref ca])), (nw, .inl (cy 0, 3567, .inl nw0)), (fd, .inl (cy 0, 7, .inl ff))])) (va_Qi (fun r (_ : Unit) => r = (-1000001)) (fun _ _ => True) (va_A [(mo, .inr (12, [.ref nw, .ref nk, .ref na, .int 0, .ref fd, .ref ea, .ref so, .int (-1), .ref nd, .int 0, .int 0, .int 0, .int 0, .int 0, .int 0, .ref cd, .ref nmd, .ref pl, .ref tl, .ref fr_, .ref rw_, .ref brw, .int 0, .int 0, .ref po, .ref trc, .int 0, .int 0, .int 0, .ref wi, .ref sz_, .ref nu, .ref ca])), (nw, .inl (cy 0, 3567, .inl nw0)), (fd, .inl (cy 0, 7, .inl ff))] sz)) 0 0 (va_A [(mo, .inr (12, [.ref nw, .ref nk, .ref na, .int 0, .ref fd, .ref ea, .ref so, .int (-1), .ref nd, .int 0, .int 0, .int 0, .int 0, .int 0, .int 0, .ref cd, .ref nmd, .ref pl, .ref tl, .ref fr_, .ref rw_, .ref brw, .int 0, .int 0, .ref po, .ref trc, .int 0, .int 0, .int 0, .ref wi, .ref sz_, .ref nu, .ref ca])), (nw, .inl (cy 0, 3567, .inl nw0)), (fd, .inl (cy 0, 7, .inl ff))] sz) := by
  refine mt (by decide) (Nat.le_of_ble_eq_true rfl) ?_
  intro p e s m below meth c ls hx hb hr hml hts hown hlocks hin hsz hP hE hD hl
  subst hsz
  have hl : lv_has ls 7 [(0, .ref mo), (1, .int a1), (2, .int a2), (3, .int a3)] := hl
  have hD := hD.self (sz := s.heap.size)
  generalize hAe : va_A [(mo, .inr (12, [.ref nw, .ref nk, .ref na, .int 0, .ref fd, .ref ea, .ref so, .int (-1), .ref nd, .int 0, .int 0, .int 0, .int 0, .int 0, .int 0, .ref cd, .ref nmd, .ref pl, .ref tl, .ref fr_, .ref rw_, .ref brw, .int 0, .int 0, .ref po, .ref trc, .int 0, .int 0, .int 0, .ref wi, .ref sz_, .ref nu, .ref ca])), (nw, .inl (cy 0, 3567, .inl nw0)), (fd, .inl (cy 0, 7, .inl ff))] s.heap.size = A at hD ⊢
  have hA : ∀ q : Nat, s.heap.size ≤ q → A q := fun q h => by rw [← hAe]; exact Or.inr h
  have hS : va_S A s.heap s.heap [] := va_S.rf
  refine lv_aload_n hx hb dX12_way_0 rfl (lv_at hl 0 rfl) ?_
  refine lv_iload_n hx hb dX12_way_1 rfl (lv_at hl 1 rfl) ?_
  refine lv_iconst (v := 2) hx hb dX12_way_2 (by decide) ?_
  refine rV (rest := []) hx hb hml hown hts hE (c_X12_is l G cy sk s.heap.size mo nw nk na fd ea so nd cd nmd pl tl fr_ rw_ brw po trc wi sz_ nu ca 0 (-1) 0 0 0 0 0 0 0 0 0 0 0 nw0 a1 2 (vinL (by decide)) rfl) kV_X12_is m_1465 rfl rfl ⟨(Nat.le_of_ble_eq_true rfl), (Nat.le_of_ble_eq_true rfl)⟩ hP hD 0 rfl rfl rfl [0, 1] rfl rfl rfl rfl hl.1 (Nat.le_of_ble_eq_true rfl) dX12_way_3 ⟨(Nat.le_of_ble_eq_true rfl), (Nat.le_of_ble_eq_true rfl)⟩ (fun r_1 hr_ => ?_)
  subst hr_
  refine lv_if_eq (tgt := 21) hx hb dX12_way_6 (by decide) (fun _ => ?_) (fun h9 => absurd h9 (by decide))
  refine lv_aload_n hx hb dX12_way_21 rfl (lv_at hl 0 rfl) ?_
  refine lv_ldc (v := (-1000001)) hx hb hown (hts _ m_1433) dX12_way_22 ?_
  refine wV (B := (fun _ => True)) (wr := [(nw, .inl (cy 0, 3567, .inl nw0))]) (rest := []) hx hb hml hown hts hE (c_X12_finding l G cy sk s.heap.size mo nw nk na fd ea so nd cd nmd pl tl fr_ rw_ brw po trc wi sz_ nu ca 0 (-1) 0 0 0 0 0 0 0 0 0 0 0 ff (-1000001) 1 (by decide) (vinL (by decide))) kV_X12_finding m_1434 rfl rfl ⟨(Nat.le_of_ble_eq_true rfl), (Nat.le_of_ble_eq_true rfl)⟩ hP hD hS hA 0 rfl rfl rfl [0, 2] [1] rfl rfl rfl rfl (by decide) rfl rfl hl.1 (Nat.le_of_ble_eq_true rfl) dX12_way_24 ⟨(Nat.le_of_ble_eq_true rfl), (Nat.le_of_ble_eq_true rfl)⟩ (fun r_2 H locs hr_ haf hS => ?_)
  obtain ⟨-, -, hP, hD⟩ := haf
  have hP : va_P G classes [(nw, .inl (cy 0, 3567, .inl nw0))] H := hP
  have hD : va_D A [(nw, .inl (cy 0, 3567, .inl nw0))] := hD
  subst hr_
  refine W.widen (k := 0) (n := 0) (by first | exact Nat.le_of_ble_eq_true rfl | omega) (by first | exact Nat.le_of_ble_eq_true rfl | omega) ?_
  exact W.iret (v := (-1000001)) hx hb hr (fun t ht hW => ⟨⟨(-1000001), (), rfl, rfl, trivial⟩, hS.F ht⟩) hS.2.2 dX12_way_27
