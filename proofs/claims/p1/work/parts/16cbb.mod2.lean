set_option maxHeartbeats 4000000 in
set_option maxRecDepth 100000 in
theorem c_X12_safe (l : Launch) (G : va_G) (cy : Nat → ClassId) (sk : Nat → Nat) (sz : Nat) (mo : Nat) (nw : Nat) (nk : Nat) (na : Nat) (fd : Nat) (ea : Nat) (so : Nat) (nd : Nat) (cd : Nat) (nmd : Nat) (pl : Nat) (tl : Nat) (fr_ : Nat) (rw_ : Nat) (brw : Nat) (po : Nat) (trc : Nat) (wi : Nat) (sz_ : Nat) (nu : Nat) (ca : Nat) (ff : Nat → Int32) (a1 : Int32)  : Met l yX12_safe (wsO yX12_safe cX12_safe 7 (some .int)) ({ frames := 2, cells := 0, slots := 0, locals := 44 }) (va_Pc [.ref mo, .int a1] (PR G cy sk sz [(mo, .inr (12, [.ref nw, .ref nk, .ref na, .int 0, .ref fd, .ref ea, .ref so, .int (-1), .ref nd, .int 0, .int 0, .int 0, .int 0, .int 0, .int 0, .ref cd, .ref nmd, .ref pl, .ref tl, .ref fr_, .ref rw_, .ref brw, .int 0, .int 0, .ref po, .ref trc, .int 0, .int 0, .int 0, .ref wi, .ref sz_, .ref nu, .ref ca])), (nw, .inl (cy 0, 3567, .inl nw0)), (fd, .inl (cy 0, 7, .inl ff))])) (va_Qi (fun r (_ : Unit) => r = (-1000001)) (fun _ _ => True) (va_A [(mo, .inr (12, [.ref nw, .ref nk, .ref na, .int 0, .ref fd, .ref ea, .ref so, .int (-1), .ref nd, .int 0, .int 0, .int 0, .int 0, .int 0, .int 0, .ref cd, .ref nmd, .ref pl, .ref tl, .ref fr_, .ref rw_, .ref brw, .int 0, .int 0, .ref po, .ref trc, .int 0, .int 0, .int 0, .ref wi, .ref sz_, .ref nu, .ref ca])), (nw, .inl (cy 0, 3567, .inl nw0)), (fd, .inl (cy 0, 7, .inl ff))] sz)) 0 0 (va_A [(mo, .inr (12, [.ref nw, .ref nk, .ref na, .int 0, .ref fd, .ref ea, .ref so, .int (-1), .ref nd, .int 0, .int 0, .int 0, .int 0, .int 0, .int 0, .ref cd, .ref nmd, .ref pl, .ref tl, .ref fr_, .ref rw_, .ref brw, .int 0, .int 0, .ref po, .ref trc, .int 0, .int 0, .int 0, .ref wi, .ref sz_, .ref nu, .ref ca])), (nw, .inl (cy 0, 3567, .inl nw0)), (fd, .inl (cy 0, 7, .inl ff))] sz) := by
  refine mt (by decide) (Nat.le_of_ble_eq_true rfl) ?_
  intro p e s m below meth c ls hx hb hr hml hts hown hlocks hin hsz hP hE hD hl
  subst hsz
  have hl : lv_has ls 7 [(0, .ref mo), (1, .int a1)] := hl
  have hD := hD.self (sz := s.heap.size)
  generalize hAe : va_A [(mo, .inr (12, [.ref nw, .ref nk, .ref na, .int 0, .ref fd, .ref ea, .ref so, .int (-1), .ref nd, .int 0, .int 0, .int 0, .int 0, .int 0, .int 0, .ref cd, .ref nmd, .ref pl, .ref tl, .ref fr_, .ref rw_, .ref brw, .int 0, .int 0, .ref po, .ref trc, .int 0, .int 0, .int 0, .ref wi, .ref sz_, .ref nu, .ref ca])), (nw, .inl (cy 0, 3567, .inl nw0)), (fd, .inl (cy 0, 7, .inl ff))] s.heap.size = A at hD ⊢
  have hA : ∀ q : Nat, s.heap.size ≤ q → A q := fun q h => by rw [← hAe]; exact Or.inr h
  have hS : va_S A s.heap s.heap [] := va_S.rf
  refine lv_aload_n hx hb dX12_safe_0 rfl (lv_at hl 0 rfl) ?_
  refine lv_iload_n hx hb dX12_safe_1 rfl (lv_at hl 1 rfl) ?_
  refine lv_iconst (v := 2) hx hb dX12_safe_2 (by decide) ?_
  refine rV (rest := []) hx hb hml hown hts hE (c_X12_is l G cy sk s.heap.size mo nw nk na fd ea so nd cd nmd pl tl fr_ rw_ brw po trc wi sz_ nu ca 0 (-1) 0 0 0 0 0 0 0 0 0 0 0 nw0 a1 2 (vinL (by decide)) rfl) kV_X12_is m_1465 rfl rfl ⟨(Nat.le_of_ble_eq_true rfl), (Nat.le_of_ble_eq_true rfl)⟩ hP hD 0 rfl rfl rfl [0, 1] rfl rfl rfl rfl hl.1 (Nat.le_of_ble_eq_true rfl) dX12_safe_3 ⟨(Nat.le_of_ble_eq_true rfl), (Nat.le_of_ble_eq_true rfl)⟩ (fun r_1 hr_ => ?_)
  subst hr_
  refine lv_if_ne (tgt := 16) hx hb dX12_safe_6 (by decide) (fun h9 => absurd h9 (by decide)) (fun _ => ?_)
  refine lv_aload_n hx hb dX12_safe_9 rfl (lv_at hl 0 rfl) ?_
  refine lv_ldc (v := (-1000001)) hx hb hown (hts _ m_1433) dX12_safe_10 ?_
  refine wV (B := (fun _ => True)) (wr := [(nw, .inl (cy 0, 3567, .inl nw0))]) (rest := []) hx hb hml hown hts hE (c_X12_finding l G cy sk s.heap.size mo nw nk na fd ea so nd cd nmd pl tl fr_ rw_ brw po trc wi sz_ nu ca 0 (-1) 0 0 0 0 0 0 0 0 0 0 0 ff (-1000001) 1 (by decide) (vinL (by decide))) kV_X12_finding m_1434 rfl rfl ⟨(Nat.le_of_ble_eq_true rfl), (Nat.le_of_ble_eq_true rfl)⟩ hP hD hS hA 0 rfl rfl rfl [0, 2] [1] rfl rfl rfl rfl (by decide) rfl rfl hl.1 (Nat.le_of_ble_eq_true rfl) dX12_safe_12 ⟨(Nat.le_of_ble_eq_true rfl), (Nat.le_of_ble_eq_true rfl)⟩ (fun r_2 H locs hr_ haf hS => ?_)
  obtain ⟨-, -, hP, hD⟩ := haf
  have hP : va_P G classes [(nw, .inl (cy 0, 3567, .inl nw0))] H := hP
  have hD : va_D A [(nw, .inl (cy 0, 3567, .inl nw0))] := hD
  subst hr_
  refine W.widen (k := 0) (n := 0) (by first | exact Nat.le_of_ble_eq_true rfl | omega) (by first | exact Nat.le_of_ble_eq_true rfl | omega) ?_
  exact W.iret (v := (-1000001)) hx hb hr (fun t ht hW => ⟨⟨(-1000001), (), rfl, rfl, trivial⟩, hS.F ht⟩) hS.2.2 dX12_safe_15
set_option maxHeartbeats 4000000 in
set_option maxRecDepth 100000 in
theorem c_X12_posts (l : Launch) (G : va_G) (cy : Nat → ClassId) (sk : Nat → Nat) (sz : Nat) (mo : Nat) (nw : Nat) (nk : Nat) (na : Nat) (fd : Nat) (ea : Nat) (so : Nat) (nd : Nat) (cd : Nat) (nmd : Nat) (pl : Nat) (tl : Nat) (fr_ : Nat) (rw_ : Nat) (brw : Nat) (po : Nat) (trc : Nat) (wi : Nat) (sz_ : Nat) (nu : Nat) (ca : Nat) (ff : Nat → Int32) (a1 : Int32) (a2 : Int32) (a3 : Int32) (a4 : Int32)  : Met l yX12_posts (wsO yX12_posts cX12_posts 9 (some .int)) ({ frames := 2, cells := 0, slots := 0, locals := 44 }) (va_Pc [.ref mo, .int a1, .int a2, .int a3, .int a4] (PR G cy sk sz [(mo, .inr (12, [.ref nw, .ref nk, .ref na, .int 0, .ref fd, .ref ea, .ref so, .int (-1), .ref nd, .int 0, .int 0, .int 0, .int 0, .int 0, .int 0, .ref cd, .ref nmd, .ref pl, .ref tl, .ref fr_, .ref rw_, .ref brw, .int 0, .int 0, .ref po, .ref trc, .int 0, .int 0, .int 0, .ref wi, .ref sz_, .ref nu, .ref ca])), (nw, .inl (cy 0, 3567, .inl nw0)), (fd, .inl (cy 0, 7, .inl ff))])) (va_Qi (fun r (_ : Unit) => r = (-1000001)) (fun _ _ => True) (va_A [(mo, .inr (12, [.ref nw, .ref nk, .ref na, .int 0, .ref fd, .ref ea, .ref so, .int (-1), .ref nd, .int 0, .int 0, .int 0, .int 0, .int 0, .int 0, .ref cd, .ref nmd, .ref pl, .ref tl, .ref fr_, .ref rw_, .ref brw, .int 0, .int 0, .ref po, .ref trc, .int 0, .int 0, .int 0, .ref wi, .ref sz_, .ref nu, .ref ca])), (nw, .inl (cy 0, 3567, .inl nw0)), (fd, .inl (cy 0, 7, .inl ff))] sz)) 0 0 (va_A [(mo, .inr (12, [.ref nw, .ref nk, .ref na, .int 0, .ref fd, .ref ea, .ref so, .int (-1), .ref nd, .int 0, .int 0, .int 0, .int 0, .int 0, .int 0, .ref cd, .ref nmd, .ref pl, .ref tl, .ref fr_, .ref rw_, .ref brw, .int 0, .int 0, .ref po, .ref trc, .int 0, .int 0, .int 0, .ref wi, .ref sz_, .ref nu, .ref ca])), (nw, .inl (cy 0, 3567, .inl nw0)), (fd, .inl (cy 0, 7, .inl ff))] sz) := by
  refine mt (by decide) (Nat.le_of_ble_eq_true rfl) ?_
  intro p e s m below meth c ls hx hb hr hml hts hown hlocks hin hsz hP hE hD hl
  subst hsz
  have hl : lv_has ls 9 [(0, .ref mo), (1, .int a1), (2, .int a2), (3, .int a3), (4, .int a4)] := hl
  have hD := hD.self (sz := s.heap.size)
  generalize hAe : va_A [(mo, .inr (12, [.ref nw, .ref nk, .ref na, .int 0, .ref fd, .ref ea, .ref so, .int (-1), .ref nd, .int 0, .int 0, .int 0, .int 0, .int 0, .int 0, .ref cd, .ref nmd, .ref pl, .ref tl, .ref fr_, .ref rw_, .ref brw, .int 0, .int 0, .ref po, .ref trc, .int 0, .int 0, .int 0, .ref wi, .ref sz_, .ref nu, .ref ca])), (nw, .inl (cy 0, 3567, .inl nw0)), (fd, .inl (cy 0, 7, .inl ff))] s.heap.size = A at hD ⊢
  have hA : ∀ q : Nat, s.heap.size ≤ q → A q := fun q h => by rw [← hAe]; exact Or.inr h
  have hS : va_S A s.heap s.heap [] := va_S.rf
  refine lv_aload_n hx hb dX12_posts_0 rfl (lv_at hl 0 rfl) ?_
  refine lv_iload_n hx hb dX12_posts_1 rfl (lv_at hl 1 rfl) ?_
  refine lv_iconst (v := 2) hx hb dX12_posts_2 (by decide) ?_
  refine rV (rest := []) hx hb hml hown hts hE (c_X12_is l G cy sk s.heap.size mo nw nk na fd ea so nd cd nmd pl tl fr_ rw_ brw po trc wi sz_ nu ca 0 (-1) 0 0 0 0 0 0 0 0 0 0 0 nw0 a1 2 (vinL (by decide)) rfl) kV_X12_is m_1465 rfl rfl ⟨(Nat.le_of_ble_eq_true rfl), (Nat.le_of_ble_eq_true rfl)⟩ hP hD 0 rfl rfl rfl [0, 1] rfl rfl rfl rfl hl.1 (Nat.le_of_ble_eq_true rfl) dX12_posts_3 ⟨(Nat.le_of_ble_eq_true rfl), (Nat.le_of_ble_eq_true rfl)⟩ (fun r_1 hr_ => ?_)
  subst hr_
  refine lv_if_eq (tgt := 33) hx hb dX12_posts_6 (by decide) (fun _ => ?_) (fun h9 => absurd h9 (by decide))
  refine lv_aload_n hx hb dX12_posts_33 rfl (lv_at hl 0 rfl) ?_
  refine lv_ldc (v := (-1000001)) hx hb hown (hts _ m_1433) dX12_posts_34 ?_
  refine wV (B := (fun _ => True)) (wr := [(nw, .inl (cy 0, 3567, .inl nw0))]) (rest := []) hx hb hml hown hts hE (c_X12_finding l G cy sk s.heap.size mo nw nk na fd ea so nd cd nmd pl tl fr_ rw_ brw po trc wi sz_ nu ca 0 (-1) 0 0 0 0 0 0 0 0 0 0 0 ff (-1000001) 1 (by decide) (vinL (by decide))) kV_X12_finding m_1434 rfl rfl ⟨(Nat.le_of_ble_eq_true rfl), (Nat.le_of_ble_eq_true rfl)⟩ hP hD hS hA 0 rfl rfl rfl [0, 2] [1] rfl rfl rfl rfl (by decide) rfl rfl hl.1 (Nat.le_of_ble_eq_true rfl) dX12_posts_36 ⟨(Nat.le_of_ble_eq_true rfl), (Nat.le_of_ble_eq_true rfl)⟩ (fun r_2 H locs hr_ haf hS => ?_)
  obtain ⟨-, -, hP, hD⟩ := haf
  have hP : va_P G classes [(nw, .inl (cy 0, 3567, .inl nw0))] H := hP
  have hD : va_D A [(nw, .inl (cy 0, 3567, .inl nw0))] := hD
  subst hr_
  refine W.widen (k := 0) (n := 0) (by first | exact Nat.le_of_ble_eq_true rfl | omega) (by first | exact Nat.le_of_ble_eq_true rfl | omega) ?_
  exact W.iret (v := (-1000001)) hx hb hr (fun t ht hW => ⟨⟨(-1000001), (), rfl, rfl, trivial⟩, hS.F ht⟩) hS.2.2 dX12_posts_39
set_option maxHeartbeats 4000000 in
set_option maxRecDepth 100000 in
theorem c_X12_voice (l : Launch) (G : va_G) (cy : Nat → ClassId) (sk : Nat → Nat) (sz : Nat) (mo : Nat) (nw : Nat) (nk : Nat) (na : Nat) (fd : Nat) (ea : Nat) (so : Nat) (nd : Nat) (cd : Nat) (nmd : Nat) (pl : Nat) (tl : Nat) (fr_ : Nat) (rw_ : Nat) (brw : Nat) (po : Nat) (trc : Nat) (wi : Nat) (sz_ : Nat) (nu : Nat) (ca : Nat) (ff : Nat → Int32) (a1 : Int32) (a2 : Int32) (a3 : Int32)  : Met l yX12_voice (wsO yX12_voice cX12_voice 5 (some .int)) ({ frames := 2, cells := 0, slots := 0, locals := 44 }) (va_Pc [.ref mo, .int a1, .int a2, .int a3] (PR G cy sk sz [(mo, .inr (12, [.ref nw, .ref nk, .ref na, .int 0, .ref fd, .ref ea, .ref so, .int (-1), .ref nd, .int 0, .int 0, .int 0, .int 0, .int 0, .int 0, .ref cd, .ref nmd, .ref pl, .ref tl, .ref fr_, .ref rw_, .ref brw, .int 0, .int 0, .ref po, .ref trc, .int 0, .int 0, .int 0, .ref wi, .ref sz_, .ref nu, .ref ca])), (nw, .inl (cy 0, 3567, .inl nw0)), (fd, .inl (cy 0, 7, .inl ff))])) (va_Qi (fun r (_ : Unit) => r = (-1000001)) (fun _ _ => True) (va_A [(mo, .inr (12, [.ref nw, .ref nk, .ref na, .int 0, .ref fd, .ref ea, .ref so, .int (-1), .ref nd, .int 0, .int 0, .int 0, .int 0, .int 0, .int 0, .ref cd, .ref nmd, .ref pl, .ref tl, .ref fr_, .ref rw_, .ref brw, .int 0, .int 0, .ref po, .ref trc, .int 0, .int 0, .int 0, .ref wi, .ref sz_, .ref nu, .ref ca])), (nw, .inl (cy 0, 3567, .inl nw0)), (fd, .inl (cy 0, 7, .inl ff))] sz)) 0 0 (va_A [(mo, .inr (12, [.ref nw, .ref nk, .ref na, .int 0, .ref fd, .ref ea, .ref so, .int (-1), .ref nd, .int 0, .int 0, .int 0, .int 0, .int 0, .int 0, .ref cd, .ref nmd, .ref pl, .ref tl, .ref fr_, .ref rw_, .ref brw, .int 0, .int 0, .ref po, .ref trc, .int 0, .int 0, .int 0, .ref wi, .ref sz_, .ref nu, .ref ca])), (nw, .inl (cy 0, 3567, .inl nw0)), (fd, .inl (cy 0, 7, .inl ff))] sz) := by
  refine mt (by decide) (Nat.le_of_ble_eq_true rfl) ?_
  intro p e s m below meth c ls hx hb hr hml hts hown hlocks hin hsz hP hE hD hl
  subst hsz
  have hl : lv_has ls 5 [(0, .ref mo), (1, .int a1), (2, .int a2), (3, .int a3)] := hl
  have hD := hD.self (sz := s.heap.size)
  generalize hAe : va_A [(mo, .inr (12, [.ref nw, .ref nk, .ref na, .int 0, .ref fd, .ref ea, .ref so, .int (-1), .ref nd, .int 0, .int 0, .int 0, .int 0, .int 0, .int 0, .ref cd, .ref nmd, .ref pl, .ref tl, .ref fr_, .ref rw_, .ref brw, .int 0, .int 0, .ref po, .ref trc, .int 0, .int 0, .int 0, .ref wi, .ref sz_, .ref nu, .ref ca])), (nw, .inl (cy 0, 3567, .inl nw0)), (fd, .inl (cy 0, 7, .inl ff))] s.heap.size = A at hD ⊢
  have hA : ∀ q : Nat, s.heap.size ≤ q → A q := fun q h => by rw [← hAe]; exact Or.inr h
  have hS : va_S A s.heap s.heap [] := va_S.rf
  refine lv_aload_n hx hb dX12_voice_0 rfl (lv_at hl 0 rfl) ?_
  refine lv_iload_n hx hb dX12_voice_1 rfl (lv_at hl 1 rfl) ?_
  refine lv_iconst (v := 2) hx hb dX12_voice_2 (by decide) ?_
  refine rV (rest := []) hx hb hml hown hts hE (c_X12_is l G cy sk s.heap.size mo nw nk na fd ea so nd cd nmd pl tl fr_ rw_ brw po trc wi sz_ nu ca 0 (-1) 0 0 0 0 0 0 0 0 0 0 0 nw0 a1 2 (vinL (by decide)) rfl) kV_X12_is m_1465 rfl rfl ⟨(Nat.le_of_ble_eq_true rfl), (Nat.le_of_ble_eq_true rfl)⟩ hP hD 0 rfl rfl rfl [0, 1] rfl rfl rfl rfl hl.1 (Nat.le_of_ble_eq_true rfl) dX12_voice_3 ⟨(Nat.le_of_ble_eq_true rfl), (Nat.le_of_ble_eq_true rfl)⟩ (fun r_1 hr_ => ?_)
  subst hr_
  refine lv_if_eq (tgt := 18) hx hb dX12_voice_6 (by decide) (fun _ => ?_) (fun h9 => absurd h9 (by decide))
  refine lv_aload_n hx hb dX12_voice_18 rfl (lv_at hl 0 rfl) ?_
  refine lv_ldc (v := (-1000001)) hx hb hown (hts _ m_1433) dX12_voice_19 ?_
  refine wV (B := (fun _ => True)) (wr := [(nw, .inl (cy 0, 3567, .inl nw0))]) (rest := []) hx hb hml hown hts hE (c_X12_finding l G cy sk s.heap.size mo nw nk na fd ea so nd cd nmd pl tl fr_ rw_ brw po trc wi sz_ nu ca 0 (-1) 0 0 0 0 0 0 0 0 0 0 0 ff (-1000001) 1 (by decide) (vinL (by decide))) kV_X12_finding m_1434 rfl rfl ⟨(Nat.le_of_ble_eq_true rfl), (Nat.le_of_ble_eq_true rfl)⟩ hP hD hS hA 0 rfl rfl rfl [0, 2] [1] rfl rfl rfl rfl (by decide) rfl rfl hl.1 (Nat.le_of_ble_eq_true rfl) dX12_voice_21 ⟨(Nat.le_of_ble_eq_true rfl), (Nat.le_of_ble_eq_true rfl)⟩ (fun r_2 H locs hr_ haf hS => ?_)
  obtain ⟨-, -, hP, hD⟩ := haf
  have hP : va_P G classes [(nw, .inl (cy 0, 3567, .inl nw0))] H := hP
  have hD : va_D A [(nw, .inl (cy 0, 3567, .inl nw0))] := hD
  subst hr_
  refine W.widen (k := 0) (n := 0) (by first | exact Nat.le_of_ble_eq_true rfl | omega) (by first | exact Nat.le_of_ble_eq_true rfl | omega) ?_
  exact W.iret (v := (-1000001)) hx hb hr (fun t ht hW => ⟨⟨(-1000001), (), rfl, rfl, trivial⟩, hS.F ht⟩) hS.2.2 dX12_voice_24
set_option maxHeartbeats 4000000 in
set_option maxRecDepth 100000 in
theorem c_X12_check (l : Launch) (G : va_G) (cy : Nat → ClassId) (sk : Nat → Nat) (sz : Nat) (mo : Nat) (nw : Nat) (nk : Nat) (na : Nat) (fd : Nat) (ea : Nat) (so : Nat) (nd : Nat) (cd : Nat) (nmd : Nat) (pl : Nat) (tl : Nat) (fr_ : Nat) (rw_ : Nat) (brw : Nat) (po : Nat) (trc : Nat) (wi : Nat) (sz_ : Nat) (nu : Nat) (ca : Nat) (ff : Nat → Int32) (a1 : Int32)  : Met l yX12_check (wsO yX12_check cX12_check 5 (some .int)) ({ frames := 2, cells := 0, slots := 0, locals := 44 }) (va_Pc [.ref mo, .int a1] (PR G cy sk sz [(mo, .inr (12, [.ref nw, .ref nk, .ref na, .int 0, .ref fd, .ref ea, .ref so, .int (-1), .ref nd, .int 0, .int 0, .int 0, .int 0, .int 0, .int 0, .ref cd, .ref nmd, .ref pl, .ref tl, .ref fr_, .ref rw_, .ref brw, .int 0, .int 0, .ref po, .ref trc, .int 0, .int 0, .int 0, .ref wi, .ref sz_, .ref nu, .ref ca])), (nw, .inl (cy 0, 3567, .inl nw0)), (fd, .inl (cy 0, 7, .inl ff))])) (va_Qi (fun r (_ : Unit) => r = (-1000001)) (fun _ _ => True) (va_A [(mo, .inr (12, [.ref nw, .ref nk, .ref na, .int 0, .ref fd, .ref ea, .ref so, .int (-1), .ref nd, .int 0, .int 0, .int 0, .int 0, .int 0, .int 0, .ref cd, .ref nmd, .ref pl, .ref tl, .ref fr_, .ref rw_, .ref brw, .int 0, .int 0, .ref po, .ref trc, .int 0, .int 0, .int 0, .ref wi, .ref sz_, .ref nu, .ref ca])), (nw, .inl (cy 0, 3567, .inl nw0)), (fd, .inl (cy 0, 7, .inl ff))] sz)) 0 0 (va_A [(mo, .inr (12, [.ref nw, .ref nk, .ref na, .int 0, .ref fd, .ref ea, .ref so, .int (-1), .ref nd, .int 0, .int 0, .int 0, .int 0, .int 0, .int 0, .ref cd, .ref nmd, .ref pl, .ref tl, .ref fr_, .ref rw_, .ref brw, .int 0, .int 0, .ref po, .ref trc, .int 0, .int 0, .int 0, .ref wi, .ref sz_, .ref nu, .ref ca])), (nw, .inl (cy 0, 3567, .inl nw0)), (fd, .inl (cy 0, 7, .inl ff))] sz) := by
  refine mt (by decide) (Nat.le_of_ble_eq_true rfl) ?_
  intro p e s m below meth c ls hx hb hr hml hts hown hlocks hin hsz hP hE hD hl
  subst hsz
  have hl : lv_has ls 5 [(0, .ref mo), (1, .int a1)] := hl
  have hD := hD.self (sz := s.heap.size)
  generalize hAe : va_A [(mo, .inr (12, [.ref nw, .ref nk, .ref na, .int 0, .ref fd, .ref ea, .ref so, .int (-1), .ref nd, .int 0, .int 0, .int 0, .int 0, .int 0, .int 0, .ref cd, .ref nmd, .ref pl, .ref tl, .ref fr_, .ref rw_, .ref brw, .int 0, .int 0, .ref po, .ref trc, .int 0, .int 0, .int 0, .ref wi, .ref sz_, .ref nu, .ref ca])), (nw, .inl (cy 0, 3567, .inl nw0)), (fd, .inl (cy 0, 7, .inl ff))] s.heap.size = A at hD ⊢
  have hA : ∀ q : Nat, s.heap.size ≤ q → A q := fun q h => by rw [← hAe]; exact Or.inr h
  have hS : va_S A s.heap s.heap [] := va_S.rf
  refine lv_aload_n hx hb dX12_check_0 rfl (lv_at hl 0 rfl) ?_
  refine va_get (D := G) (ci := 12) (v := .ref nw) (C := RX12) (T := TX12) (N := 33) hx hb hts inB12 hown hE.1 hP 0 rfl rfl 0 (by decide) (hts _ m_1323) (fun _ h9 => h9) rfl dX12_check_1 ?_
  refine lv_iconst (v := 5) hx hb dX12_check_4 (by decide) ?_
  refine va_iald hx hb hE.1 hP 1 0 rfl rfl (vinL (by decide)) dX12_check_5 ?_
  refine tp (v := 0) rfl ?_
  refine lv_istore_n (lv' := [(2, .int 0), (0, .ref mo), (1, .int a1)]) hx hb dX12_check_6 rfl hl (by decide) rfl (fun ls hl => ?_)
  refine lv_aload_n hx hb dX12_check_7 rfl (lv_at hl 1 rfl) ?_
  refine va_get (D := G) (ci := 12) (v := .ref nw) (C := RX12) (T := TX12) (N := 33) hx hb hts inB12 hown hE.1 hP 0 rfl rfl 0 (by decide) (hts _ m_1323) (fun _ h9 => h9) rfl dX12_check_8 ?_
  refine lv_iconst (v := 5) hx hb dX12_check_11 (by decide) ?_
  refine lv_iconst (v := 0) hx hb dX12_check_12 (by decide) ?_
  refine va_iast hx hb hE.1 hP hD hS 1 0 rfl rfl (vinL (by decide)) dX12_check_13 (fun H locs hP hD hS => ?_)
  have hP : va_P G classes [(mo, .inr (12, [.ref nw, .ref nk, .ref na, .int 0, .ref fd, .ref ea, .ref so, .int (-1), .ref nd, .int 0, .int 0, .int 0, .int 0, .int 0, .int 0, .ref cd, .ref nmd, .ref pl, .ref tl, .ref fr_, .ref rw_, .ref brw, .int 0, .int 0, .ref po, .ref trc, .int 0, .int 0, .int 0, .ref wi, .ref sz_, .ref nu, .ref ca])), (nw, .inl (cy 0, 3567, .inl (upd nw0 5 0))), (fd, .inl (cy 0, 7, .inl ff))] H := hP
  have hD : va_D A [(mo, .inr (12, [.ref nw, .ref nk, .ref na, .int 0, .ref fd, .ref ea, .ref so, .int (-1), .ref nd, .int 0, .int 0, .int 0, .int 0, .int 0, .int 0, .ref cd, .ref nmd, .ref pl, .ref tl, .ref fr_, .ref rw_, .ref brw, .int 0, .int 0, .ref po, .ref trc, .int 0, .int 0, .int 0, .ref wi, .ref sz_, .ref nu, .ref ca])), (nw, .inl (cy 0, 3567, .inl (upd nw0 5 0))), (fd, .inl (cy 0, 7, .inl ff))] := hD
  refine lv_aload_n hx hb dX12_check_14 rfl (lv_at hl 1 rfl) ?_
  refine lv_iload_n hx hb dX12_check_15 rfl (lv_at hl 2 rfl) ?_
  refine lv_iconst (v := 2) hx hb dX12_check_16 (by decide) ?_
  refine rV (rest := []) hx hb hml hown hts hE (c_X12_is l G cy sk H.size mo nw nk na fd ea so nd cd nmd pl tl fr_ rw_ brw po trc wi sz_ nu ca 0 (-1) 0 0 0 0 0 0 0 0 0 0 0 (upd nw0 5 0) a1 2 (vinL (by decide)) rfl) kV_X12_is m_1465 rfl rfl ⟨(Nat.le_of_ble_eq_true rfl), (Nat.le_of_ble_eq_true rfl)⟩ hP hD 0 rfl rfl rfl [0, 1] rfl rfl rfl rfl hl.1 (Nat.le_of_ble_eq_true rfl) dX12_check_17 ⟨(Nat.le_of_ble_eq_true rfl), (Nat.le_of_ble_eq_true rfl)⟩ (fun r_1 hr_ => ?_)
  subst hr_
  refine lv_if_ne (tgt := 30) hx hb dX12_check_20 (by decide) (fun h9 => absurd h9 (by decide)) (fun _ => ?_)
  refine lv_aload_n hx hb dX12_check_23 rfl (lv_at hl 1 rfl) ?_
  refine lv_ldc (v := (-1000001)) hx hb hown (hts _ m_1433) dX12_check_24 ?_
  refine wV (B := (fun _ => True)) (wr := [(nw, .inl (cy 0, 3567, .inl (upd nw0 5 0)))]) (rest := []) hx hb hml hown hts hE (c_X12_finding l G cy sk H.size mo nw nk na fd ea so nd cd nmd pl tl fr_ rw_ brw po trc wi sz_ nu ca 0 (-1) 0 0 0 0 0 0 0 0 0 0 0 ff (-1000001) 1 (by decide) (vinL (by decide))) kV_X12_finding m_1434 rfl rfl ⟨(Nat.le_of_ble_eq_true rfl), (Nat.le_of_ble_eq_true rfl)⟩ hP hD hS hA 0 rfl rfl rfl [0, 2] [1] rfl rfl rfl rfl (by decide) rfl rfl hl.1 (Nat.le_of_ble_eq_true rfl) dX12_check_26 ⟨(Nat.le_of_ble_eq_true rfl), (Nat.le_of_ble_eq_true rfl)⟩ (fun r_2 H locs hr_ haf hS => ?_)
  obtain ⟨-, -, hP, hD⟩ := haf
  have hP : va_P G classes [(nw, .inl (cy 0, 3567, .inl (upd nw0 5 0)))] H := hP
  have hD : va_D A [(nw, .inl (cy 0, 3567, .inl (upd nw0 5 0)))] := hD
  subst hr_
  refine W.widen (k := 0) (n := 0) (by first | exact Nat.le_of_ble_eq_true rfl | omega) (by first | exact Nat.le_of_ble_eq_true rfl | omega) ?_
  exact W.iret (v := (-1000001)) hx hb hr (fun t ht hW => ⟨⟨(-1000001), (), rfl, rfl, trivial⟩, hS.F ht⟩) hS.2.2 dX12_check_29
theorem lf_c_X12_thing__0 (ak : Int32) (ac : Int32) (h_2 : inR ak 0 4) (h_4 : inR ac 0 191) : (0 : Int32) = (F_thing ak ac) := by first | (simp only [F_thing, *, and_true, true_and, and_false, false_and, if_true, if_false]; done) | (simp [F_thing, *]; done) | (unfold F_thing; simp_all; done)
theorem lf_c_X12_thing__1 (ak : Int32) (ac : Int32) (h_2 : inR ak 0 4) (h_4 : ¬ inR ac 0 191) : ((-1000001) : Int32) = (F_thing ak ac) := by first | (simp only [F_thing, *, and_true, true_and, and_false, false_and, if_true, if_false]; done) | (simp [F_thing, *]; done) | (unfold F_thing; simp_all; done)
theorem lf_c_X12_thing__2 (ak : Int32) (ac : Int32) (h_2 : ¬ inR ak 0 4) : ((-1000001) : Int32) = (F_thing ak ac) := by first | (simp only [F_thing, *, and_true, true_and, and_false, false_and, if_true, if_false]; done) | (simp [F_thing, *]; done) | (unfold F_thing; simp_all; done)
set_option maxHeartbeats 4000000 in
set_option maxRecDepth 100000 in
theorem c_X12_thing_ (l : Launch) (G : va_G) (cy : Nat → ClassId) (sk : Nat → Nat) (sz : Nat) (mo : Nat) (nw : Nat) (nk : Nat) (na : Nat) (fd : Nat) (ea : Nat) (so : Nat) (nd : Nat) (cd : Nat) (nmd : Nat) (pl : Nat) (tl : Nat) (fr_ : Nat) (rw_ : Nat) (brw : Nat) (po : Nat) (trc : Nat) (wi : Nat) (sz_ : Nat) (nu : Nat) (ca : Nat) (ff : Nat → Int32) (ak : Int32) (ac : Int32)  : Met l yX12_thing_ (wsO yX12_thing_ cX12_thing_ 3 (some .int)) ({ frames := 2, cells := 0, slots := 0, locals := 44 }) (va_Pc [.ref mo, .int ak, .int ac] (PR G cy sk sz [(mo, .inr (12, [.ref nw, .ref nk, .ref na, .int 0, .ref fd, .ref ea, .ref so, .int (-1), .ref nd, .int 0, .int 0, .int 0, .int 0, .int 0, .int 0, .ref cd, .ref nmd, .ref pl, .ref tl, .ref fr_, .ref rw_, .ref brw, .int 0, .int 0, .ref po, .ref trc, .int 0, .int 0, .int 0, .ref wi, .ref sz_, .ref nu, .ref ca])), (nw, .inl (cy 0, 3567, .inl nw0)), (fd, .inl (cy 0, 7, .inl ff))])) (va_Qi (fun r (_ : Unit) => r = (F_thing ak ac)) (fun _ _ => True) (va_A [(mo, .inr (12, [.ref nw, .ref nk, .ref na, .int 0, .ref fd, .ref ea, .ref so, .int (-1), .ref nd, .int 0, .int 0, .int 0, .int 0, .int 0, .int 0, .ref cd, .ref nmd, .ref pl, .ref tl, .ref fr_, .ref rw_, .ref brw, .int 0, .int 0, .ref po, .ref trc, .int 0, .int 0, .int 0, .ref wi, .ref sz_, .ref nu, .ref ca])), (nw, .inl (cy 0, 3567, .inl nw0)), (fd, .inl (cy 0, 7, .inl ff))] sz)) 0 0 (va_A [(mo, .inr (12, [.ref nw, .ref nk, .ref na, .int 0, .ref fd, .ref ea, .ref so, .int (-1), .ref nd, .int 0, .int 0, .int 0, .int 0, .int 0, .int 0, .ref cd, .ref nmd, .ref pl, .ref tl, .ref fr_, .ref rw_, .ref brw, .int 0, .int 0, .ref po, .ref trc, .int 0, .int 0, .int 0, .ref wi, .ref sz_, .ref nu, .ref ca])), (nw, .inl (cy 0, 3567, .inl nw0)), (fd, .inl (cy 0, 7, .inl ff))] sz) := by
  refine mt (by decide) (Nat.le_of_ble_eq_true rfl) ?_
  intro p e s m below meth c ls hx hb hr hml hts hown hlocks hin hsz hP hE hD hl
  subst hsz
  have hl : lv_has ls 3 [(0, .ref mo), (1, .int ak), (2, .int ac)] := hl
  have hD := hD.self (sz := s.heap.size)
  generalize hAe : va_A [(mo, .inr (12, [.ref nw, .ref nk, .ref na, .int 0, .ref fd, .ref ea, .ref so, .int (-1), .ref nd, .int 0, .int 0, .int 0, .int 0, .int 0, .int 0, .ref cd, .ref nmd, .ref pl, .ref tl, .ref fr_, .ref rw_, .ref brw, .int 0, .int 0, .ref po, .ref trc, .int 0, .int 0, .int 0, .ref wi, .ref sz_, .ref nu, .ref ca])), (nw, .inl (cy 0, 3567, .inl nw0)), (fd, .inl (cy 0, 7, .inl ff))] s.heap.size = A at hD ⊢
  have hA : ∀ q : Nat, s.heap.size ≤ q → A q := fun q h => by rw [← hAe]; exact Or.inr h
  have hS : va_S A s.heap s.heap [] := va_S.rf
  refine lv_iload_n hx hb dX12_thing__0 rfl (lv_at hl 1 rfl) ?_
  refine lv_iconst (v := 0) hx hb dX12_thing__1 (by decide) ?_
  refine lv_iconst (v := 4) hx hb dX12_thing__2 (by decide) ?_
  refine rS (rest := []) hx hb hml hown hts hE (c_X12_within l G cy sk s.heap.size ak 0 4) kS_X12_within m_1427 rfl rfl ⟨(Nat.le_of_ble_eq_true rfl), (Nat.le_of_ble_eq_true rfl)⟩ hP hD [] rfl rfl rfl rfl hl.1 (Nat.le_of_ble_eq_true rfl) dX12_thing__3 ⟨(Nat.le_of_ble_eq_true rfl), (Nat.le_of_ble_eq_true rfl)⟩ (fun r_1 hr_ => ?_)
  rcases hr_ with ⟨rfl, h_2⟩ | ⟨rfl, h_2⟩
  · refine lv_if_eq (tgt := 16) hx hb dX12_thing__6 (by decide) (fun h9 => absurd h9 (by decide)) (fun _ => ?_)
    refine lv_iload_n hx hb dX12_thing__9 rfl (lv_at hl 2 rfl) ?_
    refine rS (rest := []) hx hb hml hown hts hE (c_X12_isCell l G cy sk s.heap.size ac) kS_X12_isCell m_1430 rfl rfl ⟨(Nat.le_of_ble_eq_true rfl), (Nat.le_of_ble_eq_true rfl)⟩ hP hD [] rfl rfl rfl rfl hl.1 (Nat.le_of_ble_eq_true rfl) dX12_thing__10 ⟨(Nat.le_of_ble_eq_true rfl), (Nat.le_of_ble_eq_true rfl)⟩ (fun r_3 hr_ => ?_)
    rcases hr_ with ⟨rfl, h_4⟩ | ⟨rfl, h_4⟩
    · refine lv_if_ne (tgt := 23) hx hb dX12_thing__13 (by decide) (fun _ => ?_) (fun h9 => absurd h9 (by decide))
      refine lv_aload_n hx hb dX12_thing__23 rfl (lv_at hl 0 rfl) ?_
      refine lv_iload_n hx hb dX12_thing__24 rfl (lv_at hl 2 rfl) ?_
      refine rV (rest := []) hx hb hml hown hts hE (c_X12_isFree l G cy sk s.heap.size mo nw nk na fd ea so nd cd nmd pl tl fr_ rw_ brw po trc wi sz_ nu ca 0 (-1) 0 0 0 0 0 0 0 0 0 0 0 nw0 ac rfl rfl) kV_X12_isFree m_1439 rfl rfl ⟨(Nat.le_of_ble_eq_true rfl), (Nat.le_of_ble_eq_true rfl)⟩ hP hD 0 rfl rfl rfl [0, 1] rfl rfl rfl rfl hl.1 (Nat.le_of_ble_eq_true rfl) dX12_thing__25 ⟨(Nat.le_of_ble_eq_true rfl), (Nat.le_of_ble_eq_true rfl)⟩ (fun r_5 hr_ => ?_)
      subst hr_
      refine lv_if_ne (tgt := 38) hx hb dX12_thing__28 (by decide) (fun _ => ?_) (fun h9 => absurd h9 (by decide))
      refine lv_aload_n hx hb dX12_thing__38 rfl (lv_at hl 0 rfl) ?_
      refine va_get (D := G) (ci := 12) (v := .ref nw) (C := RX12) (T := TX12) (N := 33) hx hb hts inB12 hown hE.1 hP 0 rfl rfl 0 (by decide) (hts _ m_1323) (fun _ h9 => h9) rfl dX12_thing__39 ?_
      refine lv_iconst (v := 1) hx hb dX12_thing__42 (by decide) ?_
      refine va_iald hx hb hE.1 hP 1 0 rfl rfl (vinL (by decide)) dX12_thing__43 ?_
      refine tp (v := 0) rfl ?_
      refine lv_bipush (v := 40) hx hb dX12_thing__44 (by decide) ?_
      refine lv_icmp_ne (tgt := 58) hx hb dX12_thing__46 (by decide) (fun _ => ?_) (fun h9 => absurd h9 (by decide))
      refine lv_aload_n hx hb dX12_thing__58 rfl (lv_at hl 0 rfl) ?_
      refine lv_iload_n hx hb dX12_thing__59 rfl (lv_at hl 1 rfl) ?_
      refine lv_iload_n hx hb dX12_thing__60 rfl (lv_at hl 2 rfl) ?_
      refine wV (B := (fun _ => True)) (wr := [(fd, .inl (cy 0, 7, .inl ff))]) (rest := []) hx hb hml hown hts hE (c_X12_comes l G cy sk s.heap.size mo nw nk na fd ea so nd cd nmd pl tl fr_ rw_ brw po trc wi sz_ nu ca 0 (-1) 0 0 0 0 0 0 0 0 0 0 0 ak ac) kV_X12_comes m_1457 rfl rfl ⟨(Nat.le_of_ble_eq_true rfl), (Nat.le_of_ble_eq_true rfl)⟩ hP hD hS hA 0 rfl rfl rfl [0, 1] [2] rfl rfl rfl rfl (by decide) rfl rfl hl.1 (Nat.le_of_ble_eq_true rfl) dX12_thing__61 ⟨(Nat.le_of_ble_eq_true rfl), (Nat.le_of_ble_eq_true rfl)⟩ (fun r_6 H locs hr_ haf hS => ?_)
      obtain ⟨-, -, hP, hD⟩ := haf
      have hP : va_P G classes [(fd, .inl (cy 0, 7, .inl ff))] H := hP
      have hD : va_D A [(fd, .inl (cy 0, 7, .inl ff))] := hD
      subst hr_
      refine W.widen (k := 0) (n := 0) (by first | exact Nat.le_of_ble_eq_true rfl | omega) (by first | exact Nat.le_of_ble_eq_true rfl | omega) ?_
      exact W.iret (v := 0) hx hb hr (fun t ht hW => ⟨⟨0, (), rfl, (lf_c_X12_thing__0 ak ac h_2 h_4), trivial⟩, hS.F ht⟩) hS.2.2 dX12_thing__64
    · refine lv_if_ne (tgt := 23) hx hb dX12_thing__13 (by decide) (fun h9 => absurd h9 (by decide)) (fun _ => ?_)
      refine lv_aload_n hx hb dX12_thing__16 rfl (lv_at hl 0 rfl) ?_
      refine lv_ldc (v := (-1000001)) hx hb hown (hts _ m_1433) dX12_thing__17 ?_
      refine wV (B := (fun _ => True)) (wr := [(nw, .inl (cy 0, 3567, .inl nw0))]) (rest := []) hx hb hml hown hts hE (c_X12_finding l G cy sk s.heap.size mo nw nk na fd ea so nd cd nmd pl tl fr_ rw_ brw po trc wi sz_ nu ca 0 (-1) 0 0 0 0 0 0 0 0 0 0 0 ff (-1000001) 1 (by decide) (vinL (by decide))) kV_X12_finding m_1434 rfl rfl ⟨(Nat.le_of_ble_eq_true rfl), (Nat.le_of_ble_eq_true rfl)⟩ hP hD hS hA 0 rfl rfl rfl [0, 2] [1] rfl rfl rfl rfl (by decide) rfl rfl hl.1 (Nat.le_of_ble_eq_true rfl) dX12_thing__19 ⟨(Nat.le_of_ble_eq_true rfl), (Nat.le_of_ble_eq_true rfl)⟩ (fun r_7 H locs hr_ haf hS => ?_)
      obtain ⟨-, -, hP, hD⟩ := haf
      have hP : va_P G classes [(nw, .inl (cy 0, 3567, .inl nw0))] H := hP
      have hD : va_D A [(nw, .inl (cy 0, 3567, .inl nw0))] := hD
      subst hr_
      refine W.widen (k := 0) (n := 0) (by first | exact Nat.le_of_ble_eq_true rfl | omega) (by first | exact Nat.le_of_ble_eq_true rfl | omega) ?_
      exact W.iret (v := (-1000001)) hx hb hr (fun t ht hW => ⟨⟨(-1000001), (), rfl, (lf_c_X12_thing__1 ak ac h_2 h_4), trivial⟩, hS.F ht⟩) hS.2.2 dX12_thing__22
  · refine lv_if_eq (tgt := 16) hx hb dX12_thing__6 (by decide) (fun _ => ?_) (fun h9 => absurd h9 (by decide))
    refine lv_aload_n hx hb dX12_thing__16 rfl (lv_at hl 0 rfl) ?_
    refine lv_ldc (v := (-1000001)) hx hb hown (hts _ m_1433) dX12_thing__17 ?_
    refine wV (B := (fun _ => True)) (wr := [(nw, .inl (cy 0, 3567, .inl nw0))]) (rest := []) hx hb hml hown hts hE (c_X12_finding l G cy sk s.heap.size mo nw nk na fd ea so nd cd nmd pl tl fr_ rw_ brw po trc wi sz_ nu ca 0 (-1) 0 0 0 0 0 0 0 0 0 0 0 ff (-1000001) 1 (by decide) (vinL (by decide))) kV_X12_finding m_1434 rfl rfl ⟨(Nat.le_of_ble_eq_true rfl), (Nat.le_of_ble_eq_true rfl)⟩ hP hD hS hA 0 rfl rfl rfl [0, 2] [1] rfl rfl rfl rfl (by decide) rfl rfl hl.1 (Nat.le_of_ble_eq_true rfl) dX12_thing__19 ⟨(Nat.le_of_ble_eq_true rfl), (Nat.le_of_ble_eq_true rfl)⟩ (fun r_8 H locs hr_ haf hS => ?_)
    obtain ⟨-, -, hP, hD⟩ := haf
    have hP : va_P G classes [(nw, .inl (cy 0, 3567, .inl nw0))] H := hP
    have hD : va_D A [(nw, .inl (cy 0, 3567, .inl nw0))] := hD
    subst hr_
    refine W.widen (k := 0) (n := 0) (by first | exact Nat.le_of_ble_eq_true rfl | omega) (by first | exact Nat.le_of_ble_eq_true rfl | omega) ?_
    exact W.iret (v := (-1000001)) hx hb hr (fun t ht hW => ⟨⟨(-1000001), (), rfl, (lf_c_X12_thing__2 ak ac h_2), trivial⟩, hS.F ht⟩) hS.2.2 dX12_thing__22
theorem lf_c_X12_kind_0 (aw : Int32) (av : Int32) (h_2 : inR 0 0 4) (h_4 : inR aw 0 1) (c_5 : ¬ aw = 0) (h_7 : inR av 0 9) : (0 : Int32) = (F_kind 0 aw av) := by first | (simp only [F_kind, *, and_true, true_and, and_false, false_and, if_true, if_false]; done) | (simp [F_kind, *]; done) | (unfold F_kind; simp_all; done)
theorem lf_c_X12_kind_1 (aw : Int32) (av : Int32) (h_2 : inR 1 0 4) (h_4 : inR aw 0 1) (c_5 : ¬ aw = 0) (h_7 : inR av 0 9) : (0 : Int32) = (F_kind 1 aw av) := by first | (simp only [F_kind, *, and_true, true_and, and_false, false_and, if_true, if_false]; done) | (simp [F_kind, *]; done) | (unfold F_kind; simp_all; done)
theorem lf_c_X12_kind_2 (aw : Int32) (av : Int32) (h_2 : inR 2 0 4) (h_4 : inR aw 0 1) (c_5 : ¬ aw = 0) (h_7 : inR av 0 9) : (0 : Int32) = (F_kind 2 aw av) := by first | (simp only [F_kind, *, and_true, true_and, and_false, false_and, if_true, if_false]; done) | (simp [F_kind, *]; done) | (unfold F_kind; simp_all; done)
theorem lf_c_X12_kind_3 (aw : Int32) (av : Int32) (h_2 : inR 3 0 4) (h_4 : inR aw 0 1) (c_5 : ¬ aw = 0) (h_7 : inR av 0 9) : (0 : Int32) = (F_kind 3 aw av) := by first | (simp only [F_kind, *, and_true, true_and, and_false, false_and, if_true, if_false]; done) | (simp [F_kind, *]; done) | (unfold F_kind; simp_all; done)
theorem lf_c_X12_kind_4 (aw : Int32) (av : Int32) (h_2 : inR 4 0 4) (h_4 : inR aw 0 1) (c_5 : ¬ aw = 0) (h_7 : inR av 0 9) : (0 : Int32) = (F_kind 4 aw av) := by first | (simp only [F_kind, *, and_true, true_and, and_false, false_and, if_true, if_false]; done) | (simp [F_kind, *]; done) | (unfold F_kind; simp_all; done)
theorem lf_c_X12_kind_5 (ak : Int32) (aw : Int32) (av : Int32) (h_2 : inR ak 0 4) (h_4 : inR aw 0 1) (c_5 : ¬ aw = 0) (h_7 : ¬ inR av 0 9) : ((-1000001) : Int32) = (F_kind ak aw av) := by first | (simp only [F_kind, *, and_true, true_and, and_false, false_and, if_true, if_false]; done) | (simp [F_kind, *]; done) | (unfold F_kind; simp_all; done)
theorem lf_c_X12_kind_6 (aw : Int32) (av : Int32) (h_2 : inR 0 0 4) (h_4 : inR aw 0 1) (c_5 : aw = 0) (h_15 : inR av 0 99) : (50 : Int32) = (F_kind 0 aw av) := by first | (simp only [F_kind, *, and_true, true_and, and_false, false_and, if_true, if_false]; done) | (simp [F_kind, *]; done) | (unfold F_kind; simp_all; done)
theorem lf_c_X12_kind_7 (aw : Int32) (av : Int32) (h_2 : inR 1 0 4) (h_4 : inR aw 0 1) (c_5 : aw = 0) (h_15 : inR av 0 99) : (50 : Int32) = (F_kind 1 aw av) := by first | (simp only [F_kind, *, and_true, true_and, and_false, false_and, if_true, if_false]; done) | (simp [F_kind, *]; done) | (unfold F_kind; simp_all; done)
theorem lf_c_X12_kind_8 (aw : Int32) (av : Int32) (h_2 : inR 2 0 4) (h_4 : inR aw 0 1) (c_5 : aw = 0) (h_15 : inR av 0 99) : (50 : Int32) = (F_kind 2 aw av) := by first | (simp only [F_kind, *, and_true, true_and, and_false, false_and, if_true, if_false]; done) | (simp [F_kind, *]; done) | (unfold F_kind; simp_all; done)
theorem lf_c_X12_kind_9 (aw : Int32) (av : Int32) (h_2 : inR 3 0 4) (h_4 : inR aw 0 1) (c_5 : aw = 0) (h_15 : inR av 0 99) : (50 : Int32) = (F_kind 3 aw av) := by first | (simp only [F_kind, *, and_true, true_and, and_false, false_and, if_true, if_false]; done) | (simp [F_kind, *]; done) | (unfold F_kind; simp_all; done)
theorem lf_c_X12_kind_10 (aw : Int32) (av : Int32) (h_2 : inR 4 0 4) (h_4 : inR aw 0 1) (c_5 : aw = 0) (h_15 : inR av 0 99) : (50 : Int32) = (F_kind 4 aw av) := by first | (simp only [F_kind, *, and_true, true_and, and_false, false_and, if_true, if_false]; done) | (simp [F_kind, *]; done) | (unfold F_kind; simp_all; done)
theorem lf_c_X12_kind_11 (ak : Int32) (aw : Int32) (av : Int32) (h_2 : inR ak 0 4) (h_4 : inR aw 0 1) (c_5 : aw = 0) (h_15 : ¬ inR av 0 99) : ((-1000001) : Int32) = (F_kind ak aw av) := by first | (simp only [F_kind, *, and_true, true_and, and_false, false_and, if_true, if_false]; done) | (simp [F_kind, *]; done) | (unfold F_kind; simp_all; done)
theorem lf_c_X12_kind_12 (ak : Int32) (aw : Int32) (av : Int32) (h_2 : inR ak 0 4) (h_4 : ¬ inR aw 0 1) : ((-1000001) : Int32) = (F_kind ak aw av) := by first | (simp only [F_kind, *, and_true, true_and, and_false, false_and, if_true, if_false]; done) | (simp [F_kind, *]; done) | (unfold F_kind; simp_all; done)
theorem lf_c_X12_kind_13 (ak : Int32) (aw : Int32) (av : Int32) (h_2 : ¬ inR ak 0 4) : ((-1000001) : Int32) = (F_kind ak aw av) := by first | (simp only [F_kind, *, and_true, true_and, and_false, false_and, if_true, if_false]; done) | (simp [F_kind, *]; done) | (unfold F_kind; simp_all; done)
set_option maxHeartbeats 4000000 in
set_option maxRecDepth 100000 in
theorem c_X12_kind (l : Launch) (G : va_G) (cy : Nat → ClassId) (sk : Nat → Nat) (sz : Nat) (mo : Nat) (nw : Nat) (nk : Nat) (na : Nat) (fd : Nat) (ea : Nat) (so : Nat) (nd : Nat) (cd : Nat) (nmd : Nat) (pl : Nat) (tl : Nat) (fr_ : Nat) (rw_ : Nat) (brw : Nat) (po : Nat) (trc : Nat) (wi : Nat) (sz_ : Nat) (nu : Nat) (ca : Nat) (ff : Nat → Int32) (ak : Int32) (aw : Int32) (av : Int32)  : Met l yX12_kind (wsO yX12_kind cX12_kind 4 (some .int)) ({ frames := 1, cells := 0, slots := 0, locals := 23 }) (va_Pc [.ref mo, .int ak, .int aw, .int av] (PR G cy sk sz [(mo, .inr (12, [.ref nw, .ref nk, .ref na, .int 0, .ref fd, .ref ea, .ref so, .int (-1), .ref nd, .int 0, .int 0, .int 0, .int 0, .int 0, .int 0, .ref cd, .ref nmd, .ref pl, .ref tl, .ref fr_, .ref rw_, .ref brw, .int 0, .int 0, .ref po, .ref trc, .int 0, .int 0, .int 0, .ref wi, .ref sz_, .ref nu, .ref ca])), (nw, .inl (cy 0, 3567, .inl nw0)), (fd, .inl (cy 0, 7, .inl ff))])) (va_Qi (fun r (_ : Unit) => r = (F_kind ak aw av)) (fun _ _ => True) (va_A [(mo, .inr (12, [.ref nw, .ref nk, .ref na, .int 0, .ref fd, .ref ea, .ref so, .int (-1), .ref nd, .int 0, .int 0, .int 0, .int 0, .int 0, .int 0, .ref cd, .ref nmd, .ref pl, .ref tl, .ref fr_, .ref rw_, .ref brw, .int 0, .int 0, .ref po, .ref trc, .int 0, .int 0, .int 0, .ref wi, .ref sz_, .ref nu, .ref ca])), (nw, .inl (cy 0, 3567, .inl nw0)), (fd, .inl (cy 0, 7, .inl ff))] sz)) 0 0 (va_A [(mo, .inr (12, [.ref nw, .ref nk, .ref na, .int 0, .ref fd, .ref ea, .ref so, .int (-1), .ref nd, .int 0, .int 0, .int 0, .int 0, .int 0, .int 0, .ref cd, .ref nmd, .ref pl, .ref tl, .ref fr_, .ref rw_, .ref brw, .int 0, .int 0, .ref po, .ref trc, .int 0, .int 0, .int 0, .ref wi, .ref sz_, .ref nu, .ref ca])), (nw, .inl (cy 0, 3567, .inl nw0)), (fd, .inl (cy 0, 7, .inl ff))] sz) := by
  refine mt (by decide) (Nat.le_of_ble_eq_true rfl) ?_
  intro p e s m below meth c ls hx hb hr hml hts hown hlocks hin hsz hP hE hD hl
  subst hsz
  have hl : lv_has ls 4 [(0, .ref mo), (1, .int ak), (2, .int aw), (3, .int av)] := hl
  have hD := hD.self (sz := s.heap.size)
  generalize hAe : va_A [(mo, .inr (12, [.ref nw, .ref nk, .ref na, .int 0, .ref fd, .ref ea, .ref so, .int (-1), .ref nd, .int 0, .int 0, .int 0, .int 0, .int 0, .int 0, .ref cd, .ref nmd, .ref pl, .ref tl, .ref fr_, .ref rw_, .ref brw, .int 0, .int 0, .ref po, .ref trc, .int 0, .int 0, .int 0, .ref wi, .ref sz_, .ref nu, .ref ca])), (nw, .inl (cy 0, 3567, .inl nw0)), (fd, .inl (cy 0, 7, .inl ff))] s.heap.size = A at hD ⊢
  have hA : ∀ q : Nat, s.heap.size ≤ q → A q := fun q h => by rw [← hAe]; exact Or.inr h
  have hS : va_S A s.heap s.heap [] := va_S.rf
  refine lv_iload_n hx hb dX12_kind_0 rfl (lv_at hl 1 rfl) ?_
  refine lv_iconst (v := 0) hx hb dX12_kind_1 (by decide) ?_
  refine lv_iconst (v := 4) hx hb dX12_kind_2 (by decide) ?_
  refine rS (rest := []) hx hb hml hown hts hE (c_X12_within l G cy sk s.heap.size ak 0 4) kS_X12_within m_1427 rfl rfl ⟨(Nat.le_of_ble_eq_true rfl), (Nat.le_of_ble_eq_true rfl)⟩ hP hD [] rfl rfl rfl rfl hl.1 (Nat.le_of_ble_eq_true rfl) dX12_kind_3 ⟨(Nat.le_of_ble_eq_true rfl), (Nat.le_of_ble_eq_true rfl)⟩ (fun r_1 hr_ => ?_)
  rcases hr_ with ⟨rfl, h_2⟩ | ⟨rfl, h_2⟩
  · refine lv_if_eq (tgt := 37) hx hb dX12_kind_6 (by decide) (fun h9 => absurd h9 (by decide)) (fun _ => ?_)
    refine lv_iload_n hx hb dX12_kind_9 rfl (lv_at hl 2 rfl) ?_
    refine lv_iconst (v := 0) hx hb dX12_kind_10 (by decide) ?_
    refine lv_iconst (v := 1) hx hb dX12_kind_11 (by decide) ?_
    refine rS (rest := []) hx hb hml hown hts hE (c_X12_within l G cy sk s.heap.size aw 0 1) kS_X12_within m_1427 rfl rfl ⟨(Nat.le_of_ble_eq_true rfl), (Nat.le_of_ble_eq_true rfl)⟩ hP hD [] rfl rfl rfl rfl hl.1 (Nat.le_of_ble_eq_true rfl) dX12_kind_12 ⟨(Nat.le_of_ble_eq_true rfl), (Nat.le_of_ble_eq_true rfl)⟩ (fun r_3 hr_ => ?_)
    rcases hr_ with ⟨rfl, h_4⟩ | ⟨rfl, h_4⟩
    · refine lv_if_eq (tgt := 37) hx hb dX12_kind_15 (by decide) (fun h9 => absurd h9 (by decide)) (fun _ => ?_)
      refine lv_iload_n hx hb dX12_kind_18 rfl (lv_at hl 3 rfl) ?_
      refine lv_iconst (v := 0) hx hb dX12_kind_19 (by decide) ?_
      refine lv_iload_n hx hb dX12_kind_20 rfl (lv_at hl 2 rfl) ?_
      refine lv_if_ne (tgt := 29) hx hb dX12_kind_21 (by decide) (fun c_5 => ?_) (fun c_5 => ?_)
      · refine lv_bipush (v := 9) hx hb dX12_kind_29 (by decide) ?_
        refine rS (rest := []) hx hb hml hown hts hE (c_X12_within l G cy sk s.heap.size av 0 9) kS_X12_within m_1427 rfl rfl ⟨(Nat.le_of_ble_eq_true rfl), (Nat.le_of_ble_eq_true rfl)⟩ hP hD [] rfl rfl rfl rfl hl.1 (Nat.le_of_ble_eq_true rfl) dX12_kind_31 ⟨(Nat.le_of_ble_eq_true rfl), (Nat.le_of_ble_eq_true rfl)⟩ (fun r_6 hr_ => ?_)
        rcases hr_ with ⟨rfl, h_7⟩ | ⟨rfl, h_7⟩
        · refine lv_if_ne (tgt := 44) hx hb dX12_kind_34 (by decide) (fun _ => ?_) (fun h9 => absurd h9 (by decide))
          rcases in5 h_2 with rfl | rfl | rfl | rfl | rfl
          · refine lv_aload_n hx hb dX12_kind_44 rfl (lv_at hl 0 rfl) ?_
            refine lv_iload_n hx hb dX12_kind_45 rfl (lv_at hl 2 rfl) ?_
            refine lv_if_ne (tgt := 54) hx hb dX12_kind_46 (by decide) (fun _ => ?_) (fun h9 => absurd h9 c_5)
            refine lv_bipush (v := 14) hx hb dX12_kind_54 (by decide) ?_
            refine lv_iload_n hx hb dX12_kind_56 rfl (lv_at hl 1 rfl) ?_
            refine lv_iadd hx hb dX12_kind_57 ?_
            refine tp (v := 14) (by decide) ?_
            refine lv_iload_n hx hb dX12_kind_58 rfl (lv_at hl 3 rfl) ?_
            refine wV (B := (fun _ => True)) (wr := [(fd, .inl (cy 0, 7, .inl ff))]) (rest := []) hx hb hml hown hts hE (c_X12_become l G cy sk s.heap.size mo nw nk na fd ea so nd cd nmd pl tl fr_ rw_ brw po trc wi sz_ nu ca 0 (-1) 0 0 0 0 0 0 0 0 0 0 0 nw0 14 av 0 (vinL (by decide)) rfl) kV_X12_become m_1481 rfl rfl ⟨(Nat.le_of_ble_eq_true rfl), (Nat.le_of_ble_eq_true rfl)⟩ hP hD hS hA 0 rfl rfl rfl [0, 1] [2] rfl rfl rfl rfl (by decide) rfl rfl hl.1 (Nat.le_of_ble_eq_true rfl) dX12_kind_59 ⟨(Nat.le_of_ble_eq_true rfl), (Nat.le_of_ble_eq_true rfl)⟩ (fun r_8 H locs hr_ haf hS => ?_)
            obtain ⟨-, -, hP, hD⟩ := haf
            have hP : va_P G classes [(fd, .inl (cy 0, 7, .inl ff))] H := hP
            have hD : va_D A [(fd, .inl (cy 0, 7, .inl ff))] := hD
            subst hr_
            refine W.widen (k := 0) (n := 0) (by first | exact Nat.le_of_ble_eq_true rfl | omega) (by first | exact Nat.le_of_ble_eq_true rfl | omega) ?_
            exact W.iret (v := 0) hx hb hr (fun t ht hW => ⟨⟨0, (), rfl, (lf_c_X12_kind_0 aw av h_2 h_4 c_5 h_7), trivial⟩, hS.F ht⟩) hS.2.2 dX12_kind_62
          · refine lv_aload_n hx hb dX12_kind_44 rfl (lv_at hl 0 rfl) ?_
            refine lv_iload_n hx hb dX12_kind_45 rfl (lv_at hl 2 rfl) ?_
            refine lv_if_ne (tgt := 54) hx hb dX12_kind_46 (by decide) (fun _ => ?_) (fun h9 => absurd h9 c_5)
            refine lv_bipush (v := 14) hx hb dX12_kind_54 (by decide) ?_
            refine lv_iload_n hx hb dX12_kind_56 rfl (lv_at hl 1 rfl) ?_
            refine lv_iadd hx hb dX12_kind_57 ?_
            refine tp (v := 15) (by decide) ?_
            refine lv_iload_n hx hb dX12_kind_58 rfl (lv_at hl 3 rfl) ?_
            refine wV (B := (fun _ => True)) (wr := [(fd, .inl (cy 0, 7, .inl ff))]) (rest := []) hx hb hml hown hts hE (c_X12_become l G cy sk s.heap.size mo nw nk na fd ea so nd cd nmd pl tl fr_ rw_ brw po trc wi sz_ nu ca 0 (-1) 0 0 0 0 0 0 0 0 0 0 0 nw0 15 av 0 (vinL (by decide)) rfl) kV_X12_become m_1481 rfl rfl ⟨(Nat.le_of_ble_eq_true rfl), (Nat.le_of_ble_eq_true rfl)⟩ hP hD hS hA 0 rfl rfl rfl [0, 1] [2] rfl rfl rfl rfl (by decide) rfl rfl hl.1 (Nat.le_of_ble_eq_true rfl) dX12_kind_59 ⟨(Nat.le_of_ble_eq_true rfl), (Nat.le_of_ble_eq_true rfl)⟩ (fun r_9 H locs hr_ haf hS => ?_)
            obtain ⟨-, -, hP, hD⟩ := haf
            have hP : va_P G classes [(fd, .inl (cy 0, 7, .inl ff))] H := hP
            have hD : va_D A [(fd, .inl (cy 0, 7, .inl ff))] := hD
            subst hr_
            refine W.widen (k := 0) (n := 0) (by first | exact Nat.le_of_ble_eq_true rfl | omega) (by first | exact Nat.le_of_ble_eq_true rfl | omega) ?_
            exact W.iret (v := 0) hx hb hr (fun t ht hW => ⟨⟨0, (), rfl, (lf_c_X12_kind_1 aw av h_2 h_4 c_5 h_7), trivial⟩, hS.F ht⟩) hS.2.2 dX12_kind_62
          · refine lv_aload_n hx hb dX12_kind_44 rfl (lv_at hl 0 rfl) ?_
            refine lv_iload_n hx hb dX12_kind_45 rfl (lv_at hl 2 rfl) ?_
            refine lv_if_ne (tgt := 54) hx hb dX12_kind_46 (by decide) (fun _ => ?_) (fun h9 => absurd h9 c_5)
            refine lv_bipush (v := 14) hx hb dX12_kind_54 (by decide) ?_
            refine lv_iload_n hx hb dX12_kind_56 rfl (lv_at hl 1 rfl) ?_
            refine lv_iadd hx hb dX12_kind_57 ?_
            refine tp (v := 16) (by decide) ?_
            refine lv_iload_n hx hb dX12_kind_58 rfl (lv_at hl 3 rfl) ?_
            refine wV (B := (fun _ => True)) (wr := [(fd, .inl (cy 0, 7, .inl ff))]) (rest := []) hx hb hml hown hts hE (c_X12_become l G cy sk s.heap.size mo nw nk na fd ea so nd cd nmd pl tl fr_ rw_ brw po trc wi sz_ nu ca 0 (-1) 0 0 0 0 0 0 0 0 0 0 0 nw0 16 av 0 (vinL (by decide)) rfl) kV_X12_become m_1481 rfl rfl ⟨(Nat.le_of_ble_eq_true rfl), (Nat.le_of_ble_eq_true rfl)⟩ hP hD hS hA 0 rfl rfl rfl [0, 1] [2] rfl rfl rfl rfl (by decide) rfl rfl hl.1 (Nat.le_of_ble_eq_true rfl) dX12_kind_59 ⟨(Nat.le_of_ble_eq_true rfl), (Nat.le_of_ble_eq_true rfl)⟩ (fun r_10 H locs hr_ haf hS => ?_)
            obtain ⟨-, -, hP, hD⟩ := haf
            have hP : va_P G classes [(fd, .inl (cy 0, 7, .inl ff))] H := hP
            have hD : va_D A [(fd, .inl (cy 0, 7, .inl ff))] := hD
            subst hr_
            refine W.widen (k := 0) (n := 0) (by first | exact Nat.le_of_ble_eq_true rfl | omega) (by first | exact Nat.le_of_ble_eq_true rfl | omega) ?_
            exact W.iret (v := 0) hx hb hr (fun t ht hW => ⟨⟨0, (), rfl, (lf_c_X12_kind_2 aw av h_2 h_4 c_5 h_7), trivial⟩, hS.F ht⟩) hS.2.2 dX12_kind_62
          · refine lv_aload_n hx hb dX12_kind_44 rfl (lv_at hl 0 rfl) ?_
            refine lv_iload_n hx hb dX12_kind_45 rfl (lv_at hl 2 rfl) ?_
            refine lv_if_ne (tgt := 54) hx hb dX12_kind_46 (by decide) (fun _ => ?_) (fun h9 => absurd h9 c_5)
            refine lv_bipush (v := 14) hx hb dX12_kind_54 (by decide) ?_
            refine lv_iload_n hx hb dX12_kind_56 rfl (lv_at hl 1 rfl) ?_
            refine lv_iadd hx hb dX12_kind_57 ?_
            refine tp (v := 17) (by decide) ?_
            refine lv_iload_n hx hb dX12_kind_58 rfl (lv_at hl 3 rfl) ?_
            refine wV (B := (fun _ => True)) (wr := [(fd, .inl (cy 0, 7, .inl ff))]) (rest := []) hx hb hml hown hts hE (c_X12_become l G cy sk s.heap.size mo nw nk na fd ea so nd cd nmd pl tl fr_ rw_ brw po trc wi sz_ nu ca 0 (-1) 0 0 0 0 0 0 0 0 0 0 0 nw0 17 av 0 (vinL (by decide)) rfl) kV_X12_become m_1481 rfl rfl ⟨(Nat.le_of_ble_eq_true rfl), (Nat.le_of_ble_eq_true rfl)⟩ hP hD hS hA 0 rfl rfl rfl [0, 1] [2] rfl rfl rfl rfl (by decide) rfl rfl hl.1 (Nat.le_of_ble_eq_true rfl) dX12_kind_59 ⟨(Nat.le_of_ble_eq_true rfl), (Nat.le_of_ble_eq_true rfl)⟩ (fun r_11 H locs hr_ haf hS => ?_)
            obtain ⟨-, -, hP, hD⟩ := haf
            have hP : va_P G classes [(fd, .inl (cy 0, 7, .inl ff))] H := hP
            have hD : va_D A [(fd, .inl (cy 0, 7, .inl ff))] := hD
            subst hr_
            refine W.widen (k := 0) (n := 0) (by first | exact Nat.le_of_ble_eq_true rfl | omega) (by first | exact Nat.le_of_ble_eq_true rfl | omega) ?_
            exact W.iret (v := 0) hx hb hr (fun t ht hW => ⟨⟨0, (), rfl, (lf_c_X12_kind_3 aw av h_2 h_4 c_5 h_7), trivial⟩, hS.F ht⟩) hS.2.2 dX12_kind_62
          · refine lv_aload_n hx hb dX12_kind_44 rfl (lv_at hl 0 rfl) ?_
            refine lv_iload_n hx hb dX12_kind_45 rfl (lv_at hl 2 rfl) ?_
            refine lv_if_ne (tgt := 54) hx hb dX12_kind_46 (by decide) (fun _ => ?_) (fun h9 => absurd h9 c_5)
            refine lv_bipush (v := 14) hx hb dX12_kind_54 (by decide) ?_
            refine lv_iload_n hx hb dX12_kind_56 rfl (lv_at hl 1 rfl) ?_
            refine lv_iadd hx hb dX12_kind_57 ?_
            refine tp (v := 18) (by decide) ?_
            refine lv_iload_n hx hb dX12_kind_58 rfl (lv_at hl 3 rfl) ?_
            refine wV (B := (fun _ => True)) (wr := [(fd, .inl (cy 0, 7, .inl ff))]) (rest := []) hx hb hml hown hts hE (c_X12_become l G cy sk s.heap.size mo nw nk na fd ea so nd cd nmd pl tl fr_ rw_ brw po trc wi sz_ nu ca 0 (-1) 0 0 0 0 0 0 0 0 0 0 0 nw0 18 av 0 (vinL (by decide)) rfl) kV_X12_become m_1481 rfl rfl ⟨(Nat.le_of_ble_eq_true rfl), (Nat.le_of_ble_eq_true rfl)⟩ hP hD hS hA 0 rfl rfl rfl [0, 1] [2] rfl rfl rfl rfl (by decide) rfl rfl hl.1 (Nat.le_of_ble_eq_true rfl) dX12_kind_59 ⟨(Nat.le_of_ble_eq_true rfl), (Nat.le_of_ble_eq_true rfl)⟩ (fun r_12 H locs hr_ haf hS => ?_)
            obtain ⟨-, -, hP, hD⟩ := haf
            have hP : va_P G classes [(fd, .inl (cy 0, 7, .inl ff))] H := hP
            have hD : va_D A [(fd, .inl (cy 0, 7, .inl ff))] := hD
            subst hr_
            refine W.widen (k := 0) (n := 0) (by first | exact Nat.le_of_ble_eq_true rfl | omega) (by first | exact Nat.le_of_ble_eq_true rfl | omega) ?_
            exact W.iret (v := 0) hx hb hr (fun t ht hW => ⟨⟨0, (), rfl, (lf_c_X12_kind_4 aw av h_2 h_4 c_5 h_7), trivial⟩, hS.F ht⟩) hS.2.2 dX12_kind_62
        · refine lv_if_ne (tgt := 44) hx hb dX12_kind_34 (by decide) (fun h9 => absurd h9 (by decide)) (fun _ => ?_)
          refine lv_aload_n hx hb dX12_kind_37 rfl (lv_at hl 0 rfl) ?_
          refine lv_ldc (v := (-1000001)) hx hb hown (hts _ m_1433) dX12_kind_38 ?_
          refine wV (B := (fun _ => True)) (wr := [(nw, .inl (cy 0, 3567, .inl nw0))]) (rest := []) hx hb hml hown hts hE (c_X12_finding l G cy sk s.heap.size mo nw nk na fd ea so nd cd nmd pl tl fr_ rw_ brw po trc wi sz_ nu ca 0 (-1) 0 0 0 0 0 0 0 0 0 0 0 ff (-1000001) 1 (by decide) (vinL (by decide))) kV_X12_finding m_1434 rfl rfl ⟨(Nat.le_of_ble_eq_true rfl), (Nat.le_of_ble_eq_true rfl)⟩ hP hD hS hA 0 rfl rfl rfl [0, 2] [1] rfl rfl rfl rfl (by decide) rfl rfl hl.1 (Nat.le_of_ble_eq_true rfl) dX12_kind_40 ⟨(Nat.le_of_ble_eq_true rfl), (Nat.le_of_ble_eq_true rfl)⟩ (fun r_13 H locs hr_ haf hS => ?_)
          obtain ⟨-, -, hP, hD⟩ := haf
          have hP : va_P G classes [(nw, .inl (cy 0, 3567, .inl nw0))] H := hP
          have hD : va_D A [(nw, .inl (cy 0, 3567, .inl nw0))] := hD
          subst hr_
          refine W.widen (k := 0) (n := 0) (by first | exact Nat.le_of_ble_eq_true rfl | omega) (by first | exact Nat.le_of_ble_eq_true rfl | omega) ?_
          exact W.iret (v := (-1000001)) hx hb hr (fun t ht hW => ⟨⟨(-1000001), (), rfl, (lf_c_X12_kind_5 ak aw av h_2 h_4 c_5 h_7), trivial⟩, hS.F ht⟩) hS.2.2 dX12_kind_43
      · refine lv_bipush (v := 99) hx hb dX12_kind_24 (by decide) ?_
        refine lv_goto (tgt := 31) hx hb dX12_kind_26 (by decide) ?_
        refine rS (rest := []) hx hb hml hown hts hE (c_X12_within l G cy sk s.heap.size av 0 99) kS_X12_within m_1427 rfl rfl ⟨(Nat.le_of_ble_eq_true rfl), (Nat.le_of_ble_eq_true rfl)⟩ hP hD [] rfl rfl rfl rfl hl.1 (Nat.le_of_ble_eq_true rfl) dX12_kind_31 ⟨(Nat.le_of_ble_eq_true rfl), (Nat.le_of_ble_eq_true rfl)⟩ (fun r_14 hr_ => ?_)
        rcases hr_ with ⟨rfl, h_15⟩ | ⟨rfl, h_15⟩
        · refine lv_if_ne (tgt := 44) hx hb dX12_kind_34 (by decide) (fun _ => ?_) (fun h9 => absurd h9 (by decide))
          rcases in5 h_2 with rfl | rfl | rfl | rfl | rfl
          · refine lv_aload_n hx hb dX12_kind_44 rfl (lv_at hl 0 rfl) ?_
            refine lv_iload_n hx hb dX12_kind_45 rfl (lv_at hl 2 rfl) ?_
            refine lv_if_ne (tgt := 54) hx hb dX12_kind_46 (by decide) (fun h9 => absurd c_5 h9) (fun _ => ?_)
            refine lv_bipush (v := 9) hx hb dX12_kind_49 (by decide) ?_
            refine lv_goto (tgt := 56) hx hb dX12_kind_51 (by decide) ?_
            refine lv_iload_n hx hb dX12_kind_56 rfl (lv_at hl 1 rfl) ?_
            refine lv_iadd hx hb dX12_kind_57 ?_
            refine tp (v := 9) (by decide) ?_
            refine lv_iload_n hx hb dX12_kind_58 rfl (lv_at hl 3 rfl) ?_
            refine wV (B := (fun _ => True)) (wr := [(fd, .inl (cy 0, 7, .inl ff))]) (rest := []) hx hb hml hown hts hE (c_X12_become l G cy sk s.heap.size mo nw nk na fd ea so nd cd nmd pl tl fr_ rw_ brw po trc wi sz_ nu ca 0 (-1) 0 0 0 0 0 0 0 0 0 0 0 nw0 9 av 50 (vinL (by decide)) rfl) kV_X12_become m_1481 rfl rfl ⟨(Nat.le_of_ble_eq_true rfl), (Nat.le_of_ble_eq_true rfl)⟩ hP hD hS hA 0 rfl rfl rfl [0, 1] [2] rfl rfl rfl rfl (by decide) rfl rfl hl.1 (Nat.le_of_ble_eq_true rfl) dX12_kind_59 ⟨(Nat.le_of_ble_eq_true rfl), (Nat.le_of_ble_eq_true rfl)⟩ (fun r_16 H locs hr_ haf hS => ?_)
            obtain ⟨-, -, hP, hD⟩ := haf
            have hP : va_P G classes [(fd, .inl (cy 0, 7, .inl ff))] H := hP
            have hD : va_D A [(fd, .inl (cy 0, 7, .inl ff))] := hD
            subst hr_
            refine W.widen (k := 0) (n := 0) (by first | exact Nat.le_of_ble_eq_true rfl | omega) (by first | exact Nat.le_of_ble_eq_true rfl | omega) ?_
            exact W.iret (v := 50) hx hb hr (fun t ht hW => ⟨⟨50, (), rfl, (lf_c_X12_kind_6 aw av h_2 h_4 c_5 h_15), trivial⟩, hS.F ht⟩) hS.2.2 dX12_kind_62
          · refine lv_aload_n hx hb dX12_kind_44 rfl (lv_at hl 0 rfl) ?_
            refine lv_iload_n hx hb dX12_kind_45 rfl (lv_at hl 2 rfl) ?_
            refine lv_if_ne (tgt := 54) hx hb dX12_kind_46 (by decide) (fun h9 => absurd c_5 h9) (fun _ => ?_)
            refine lv_bipush (v := 9) hx hb dX12_kind_49 (by decide) ?_
            refine lv_goto (tgt := 56) hx hb dX12_kind_51 (by decide) ?_
            refine lv_iload_n hx hb dX12_kind_56 rfl (lv_at hl 1 rfl) ?_
            refine lv_iadd hx hb dX12_kind_57 ?_
            refine tp (v := 10) (by decide) ?_
            refine lv_iload_n hx hb dX12_kind_58 rfl (lv_at hl 3 rfl) ?_
            refine wV (B := (fun _ => True)) (wr := [(fd, .inl (cy 0, 7, .inl ff))]) (rest := []) hx hb hml hown hts hE (c_X12_become l G cy sk s.heap.size mo nw nk na fd ea so nd cd nmd pl tl fr_ rw_ brw po trc wi sz_ nu ca 0 (-1) 0 0 0 0 0 0 0 0 0 0 0 nw0 10 av 50 (vinL (by decide)) rfl) kV_X12_become m_1481 rfl rfl ⟨(Nat.le_of_ble_eq_true rfl), (Nat.le_of_ble_eq_true rfl)⟩ hP hD hS hA 0 rfl rfl rfl [0, 1] [2] rfl rfl rfl rfl (by decide) rfl rfl hl.1 (Nat.le_of_ble_eq_true rfl) dX12_kind_59 ⟨(Nat.le_of_ble_eq_true rfl), (Nat.le_of_ble_eq_true rfl)⟩ (fun r_17 H locs hr_ haf hS => ?_)
            obtain ⟨-, -, hP, hD⟩ := haf
            have hP : va_P G classes [(fd, .inl (cy 0, 7, .inl ff))] H := hP
            have hD : va_D A [(fd, .inl (cy 0, 7, .inl ff))] := hD
            subst hr_
            refine W.widen (k := 0) (n := 0) (by first | exact Nat.le_of_ble_eq_true rfl | omega) (by first | exact Nat.le_of_ble_eq_true rfl | omega) ?_
            exact W.iret (v := 50) hx hb hr (fun t ht hW => ⟨⟨50, (), rfl, (lf_c_X12_kind_7 aw av h_2 h_4 c_5 h_15), trivial⟩, hS.F ht⟩) hS.2.2 dX12_kind_62
          · refine lv_aload_n hx hb dX12_kind_44 rfl (lv_at hl 0 rfl) ?_
            refine lv_iload_n hx hb dX12_kind_45 rfl (lv_at hl 2 rfl) ?_
            refine lv_if_ne (tgt := 54) hx hb dX12_kind_46 (by decide) (fun h9 => absurd c_5 h9) (fun _ => ?_)
            refine lv_bipush (v := 9) hx hb dX12_kind_49 (by decide) ?_
            refine lv_goto (tgt := 56) hx hb dX12_kind_51 (by decide) ?_
            refine lv_iload_n hx hb dX12_kind_56 rfl (lv_at hl 1 rfl) ?_
            refine lv_iadd hx hb dX12_kind_57 ?_
            refine tp (v := 11) (by decide) ?_
            refine lv_iload_n hx hb dX12_kind_58 rfl (lv_at hl 3 rfl) ?_
            refine wV (B := (fun _ => True)) (wr := [(fd, .inl (cy 0, 7, .inl ff))]) (rest := []) hx hb hml hown hts hE (c_X12_become l G cy sk s.heap.size mo nw nk na fd ea so nd cd nmd pl tl fr_ rw_ brw po trc wi sz_ nu ca 0 (-1) 0 0 0 0 0 0 0 0 0 0 0 nw0 11 av 50 (vinL (by decide)) rfl) kV_X12_become m_1481 rfl rfl ⟨(Nat.le_of_ble_eq_true rfl), (Nat.le_of_ble_eq_true rfl)⟩ hP hD hS hA 0 rfl rfl rfl [0, 1] [2] rfl rfl rfl rfl (by decide) rfl rfl hl.1 (Nat.le_of_ble_eq_true rfl) dX12_kind_59 ⟨(Nat.le_of_ble_eq_true rfl), (Nat.le_of_ble_eq_true rfl)⟩ (fun r_18 H locs hr_ haf hS => ?_)
            obtain ⟨-, -, hP, hD⟩ := haf
            have hP : va_P G classes [(fd, .inl (cy 0, 7, .inl ff))] H := hP
            have hD : va_D A [(fd, .inl (cy 0, 7, .inl ff))] := hD
            subst hr_
            refine W.widen (k := 0) (n := 0) (by first | exact Nat.le_of_ble_eq_true rfl | omega) (by first | exact Nat.le_of_ble_eq_true rfl | omega) ?_
            exact W.iret (v := 50) hx hb hr (fun t ht hW => ⟨⟨50, (), rfl, (lf_c_X12_kind_8 aw av h_2 h_4 c_5 h_15), trivial⟩, hS.F ht⟩) hS.2.2 dX12_kind_62
          · refine lv_aload_n hx hb dX12_kind_44 rfl (lv_at hl 0 rfl) ?_
            refine lv_iload_n hx hb dX12_kind_45 rfl (lv_at hl 2 rfl) ?_
            refine lv_if_ne (tgt := 54) hx hb dX12_kind_46 (by decide) (fun h9 => absurd c_5 h9) (fun _ => ?_)
            refine lv_bipush (v := 9) hx hb dX12_kind_49 (by decide) ?_
            refine lv_goto (tgt := 56) hx hb dX12_kind_51 (by decide) ?_
            refine lv_iload_n hx hb dX12_kind_56 rfl (lv_at hl 1 rfl) ?_
            refine lv_iadd hx hb dX12_kind_57 ?_
            refine tp (v := 12) (by decide) ?_
            refine lv_iload_n hx hb dX12_kind_58 rfl (lv_at hl 3 rfl) ?_
            refine wV (B := (fun _ => True)) (wr := [(fd, .inl (cy 0, 7, .inl ff))]) (rest := []) hx hb hml hown hts hE (c_X12_become l G cy sk s.heap.size mo nw nk na fd ea so nd cd nmd pl tl fr_ rw_ brw po trc wi sz_ nu ca 0 (-1) 0 0 0 0 0 0 0 0 0 0 0 nw0 12 av 50 (vinL (by decide)) rfl) kV_X12_become m_1481 rfl rfl ⟨(Nat.le_of_ble_eq_true rfl), (Nat.le_of_ble_eq_true rfl)⟩ hP hD hS hA 0 rfl rfl rfl [0, 1] [2] rfl rfl rfl rfl (by decide) rfl rfl hl.1 (Nat.le_of_ble_eq_true rfl) dX12_kind_59 ⟨(Nat.le_of_ble_eq_true rfl), (Nat.le_of_ble_eq_true rfl)⟩ (fun r_19 H locs hr_ haf hS => ?_)
            obtain ⟨-, -, hP, hD⟩ := haf
            have hP : va_P G classes [(fd, .inl (cy 0, 7, .inl ff))] H := hP
            have hD : va_D A [(fd, .inl (cy 0, 7, .inl ff))] := hD
            subst hr_
            refine W.widen (k := 0) (n := 0) (by first | exact Nat.le_of_ble_eq_true rfl | omega) (by first | exact Nat.le_of_ble_eq_true rfl | omega) ?_
            exact W.iret (v := 50) hx hb hr (fun t ht hW => ⟨⟨50, (), rfl, (lf_c_X12_kind_9 aw av h_2 h_4 c_5 h_15), trivial⟩, hS.F ht⟩) hS.2.2 dX12_kind_62
          · refine lv_aload_n hx hb dX12_kind_44 rfl (lv_at hl 0 rfl) ?_
            refine lv_iload_n hx hb dX12_kind_45 rfl (lv_at hl 2 rfl) ?_
            refine lv_if_ne (tgt := 54) hx hb dX12_kind_46 (by decide) (fun h9 => absurd c_5 h9) (fun _ => ?_)
            refine lv_bipush (v := 9) hx hb dX12_kind_49 (by decide) ?_
            refine lv_goto (tgt := 56) hx hb dX12_kind_51 (by decide) ?_
            refine lv_iload_n hx hb dX12_kind_56 rfl (lv_at hl 1 rfl) ?_
            refine lv_iadd hx hb dX12_kind_57 ?_
            refine tp (v := 13) (by decide) ?_
            refine lv_iload_n hx hb dX12_kind_58 rfl (lv_at hl 3 rfl) ?_
            refine wV (B := (fun _ => True)) (wr := [(fd, .inl (cy 0, 7, .inl ff))]) (rest := []) hx hb hml hown hts hE (c_X12_become l G cy sk s.heap.size mo nw nk na fd ea so nd cd nmd pl tl fr_ rw_ brw po trc wi sz_ nu ca 0 (-1) 0 0 0 0 0 0 0 0 0 0 0 nw0 13 av 50 (vinL (by decide)) rfl) kV_X12_become m_1481 rfl rfl ⟨(Nat.le_of_ble_eq_true rfl), (Nat.le_of_ble_eq_true rfl)⟩ hP hD hS hA 0 rfl rfl rfl [0, 1] [2] rfl rfl rfl rfl (by decide) rfl rfl hl.1 (Nat.le_of_ble_eq_true rfl) dX12_kind_59 ⟨(Nat.le_of_ble_eq_true rfl), (Nat.le_of_ble_eq_true rfl)⟩ (fun r_20 H locs hr_ haf hS => ?_)
            obtain ⟨-, -, hP, hD⟩ := haf
            have hP : va_P G classes [(fd, .inl (cy 0, 7, .inl ff))] H := hP
            have hD : va_D A [(fd, .inl (cy 0, 7, .inl ff))] := hD
            subst hr_
            refine W.widen (k := 0) (n := 0) (by first | exact Nat.le_of_ble_eq_true rfl | omega) (by first | exact Nat.le_of_ble_eq_true rfl | omega) ?_
            exact W.iret (v := 50) hx hb hr (fun t ht hW => ⟨⟨50, (), rfl, (lf_c_X12_kind_10 aw av h_2 h_4 c_5 h_15), trivial⟩, hS.F ht⟩) hS.2.2 dX12_kind_62
        · refine lv_if_ne (tgt := 44) hx hb dX12_kind_34 (by decide) (fun h9 => absurd h9 (by decide)) (fun _ => ?_)
          refine lv_aload_n hx hb dX12_kind_37 rfl (lv_at hl 0 rfl) ?_
          refine lv_ldc (v := (-1000001)) hx hb hown (hts _ m_1433) dX12_kind_38 ?_
          refine wV (B := (fun _ => True)) (wr := [(nw, .inl (cy 0, 3567, .inl nw0))]) (rest := []) hx hb hml hown hts hE (c_X12_finding l G cy sk s.heap.size mo nw nk na fd ea so nd cd nmd pl tl fr_ rw_ brw po trc wi sz_ nu ca 0 (-1) 0 0 0 0 0 0 0 0 0 0 0 ff (-1000001) 1 (by decide) (vinL (by decide))) kV_X12_finding m_1434 rfl rfl ⟨(Nat.le_of_ble_eq_true rfl), (Nat.le_of_ble_eq_true rfl)⟩ hP hD hS hA 0 rfl rfl rfl [0, 2] [1] rfl rfl rfl rfl (by decide) rfl rfl hl.1 (Nat.le_of_ble_eq_true rfl) dX12_kind_40 ⟨(Nat.le_of_ble_eq_true rfl), (Nat.le_of_ble_eq_true rfl)⟩ (fun r_21 H locs hr_ haf hS => ?_)
          obtain ⟨-, -, hP, hD⟩ := haf
          have hP : va_P G classes [(nw, .inl (cy 0, 3567, .inl nw0))] H := hP
          have hD : va_D A [(nw, .inl (cy 0, 3567, .inl nw0))] := hD
          subst hr_
          refine W.widen (k := 0) (n := 0) (by first | exact Nat.le_of_ble_eq_true rfl | omega) (by first | exact Nat.le_of_ble_eq_true rfl | omega) ?_
          exact W.iret (v := (-1000001)) hx hb hr (fun t ht hW => ⟨⟨(-1000001), (), rfl, (lf_c_X12_kind_11 ak aw av h_2 h_4 c_5 h_15), trivial⟩, hS.F ht⟩) hS.2.2 dX12_kind_43
    · refine lv_if_eq (tgt := 37) hx hb dX12_kind_15 (by decide) (fun _ => ?_) (fun h9 => absurd h9 (by decide))
      refine lv_aload_n hx hb dX12_kind_37 rfl (lv_at hl 0 rfl) ?_
      refine lv_ldc (v := (-1000001)) hx hb hown (hts _ m_1433) dX12_kind_38 ?_
      refine wV (B := (fun _ => True)) (wr := [(nw, .inl (cy 0, 3567, .inl nw0))]) (rest := []) hx hb hml hown hts hE (c_X12_finding l G cy sk s.heap.size mo nw nk na fd ea so nd cd nmd pl tl fr_ rw_ brw po trc wi sz_ nu ca 0 (-1) 0 0 0 0 0 0 0 0 0 0 0 ff (-1000001) 1 (by decide) (vinL (by decide))) kV_X12_finding m_1434 rfl rfl ⟨(Nat.le_of_ble_eq_true rfl), (Nat.le_of_ble_eq_true rfl)⟩ hP hD hS hA 0 rfl rfl rfl [0, 2] [1] rfl rfl rfl rfl (by decide) rfl rfl hl.1 (Nat.le_of_ble_eq_true rfl) dX12_kind_40 ⟨(Nat.le_of_ble_eq_true rfl), (Nat.le_of_ble_eq_true rfl)⟩ (fun r_22 H locs hr_ haf hS => ?_)
      obtain ⟨-, -, hP, hD⟩ := haf
      have hP : va_P G classes [(nw, .inl (cy 0, 3567, .inl nw0))] H := hP
      have hD : va_D A [(nw, .inl (cy 0, 3567, .inl nw0))] := hD
      subst hr_
      refine W.widen (k := 0) (n := 0) (by first | exact Nat.le_of_ble_eq_true rfl | omega) (by first | exact Nat.le_of_ble_eq_true rfl | omega) ?_
      exact W.iret (v := (-1000001)) hx hb hr (fun t ht hW => ⟨⟨(-1000001), (), rfl, (lf_c_X12_kind_12 ak aw av h_2 h_4), trivial⟩, hS.F ht⟩) hS.2.2 dX12_kind_43
  · refine lv_if_eq (tgt := 37) hx hb dX12_kind_6 (by decide) (fun _ => ?_) (fun h9 => absurd h9 (by decide))
    refine lv_aload_n hx hb dX12_kind_37 rfl (lv_at hl 0 rfl) ?_
    refine lv_ldc (v := (-1000001)) hx hb hown (hts _ m_1433) dX12_kind_38 ?_
    refine wV (B := (fun _ => True)) (wr := [(nw, .inl (cy 0, 3567, .inl nw0))]) (rest := []) hx hb hml hown hts hE (c_X12_finding l G cy sk s.heap.size mo nw nk na fd ea so nd cd nmd pl tl fr_ rw_ brw po trc wi sz_ nu ca 0 (-1) 0 0 0 0 0 0 0 0 0 0 0 ff (-1000001) 1 (by decide) (vinL (by decide))) kV_X12_finding m_1434 rfl rfl ⟨(Nat.le_of_ble_eq_true rfl), (Nat.le_of_ble_eq_true rfl)⟩ hP hD hS hA 0 rfl rfl rfl [0, 2] [1] rfl rfl rfl rfl (by decide) rfl rfl hl.1 (Nat.le_of_ble_eq_true rfl) dX12_kind_40 ⟨(Nat.le_of_ble_eq_true rfl), (Nat.le_of_ble_eq_true rfl)⟩ (fun r_23 H locs hr_ haf hS => ?_)
    obtain ⟨-, -, hP, hD⟩ := haf
    have hP : va_P G classes [(nw, .inl (cy 0, 3567, .inl nw0))] H := hP
    have hD : va_D A [(nw, .inl (cy 0, 3567, .inl nw0))] := hD
    subst hr_
    refine W.widen (k := 0) (n := 0) (by first | exact Nat.le_of_ble_eq_true rfl | omega) (by first | exact Nat.le_of_ble_eq_true rfl | omega) ?_
    exact W.iret (v := (-1000001)) hx hb hr (fun t ht hW => ⟨⟨(-1000001), (), rfl, (lf_c_X12_kind_13 ak aw av h_2), trivial⟩, hS.F ht⟩) hS.2.2 dX12_kind_43
