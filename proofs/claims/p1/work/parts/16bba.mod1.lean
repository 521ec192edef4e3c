theorem lf_c_X12_within_0 (v : Int32) (lo : Int32) (hi : Int32) (c_1 : v < lo) : ¬ inR v lo hi := by simp only [inR, Int32.le_iff_toInt_le, Int32.lt_iff_toInt_lt] at *; omega
theorem lf_c_X12_within_1 (v : Int32) (lo : Int32) (hi : Int32) (c_1 : ¬ v < lo) (c_2 : hi < v) : ¬ inR v lo hi := by simp only [inR, Int32.le_iff_toInt_le, Int32.lt_iff_toInt_lt] at *; omega
theorem lf_c_X12_within_2 (v : Int32) (lo : Int32) (hi : Int32) (c_1 : ¬ v < lo) (c_2 : ¬ hi < v) : inR v lo hi := by simp only [inR, Int32.le_iff_toInt_le, Int32.lt_iff_toInt_lt] at *; omega
set_option maxHeartbeats 4000000 in
set_option maxRecDepth 100000 in
theorem c_X12_within (l : Launch) (G : va_G) (cy : Nat → ClassId) (sk : Nat → Nat) (sz : Nat) (v : Int32) (lo : Int32) (hi : Int32)  : Met l yX12_within (wsO yX12_within cX12_within 3 (some .boolean)) ({ frames := 0, cells := 0, slots := 0, locals := 0 }) (va_Pc [.int v, .int lo, .int hi] (PR G cy sk sz [])) (vp_Si (fun r => (r = 1 ∧ inR v lo hi) ∨ (r = 0 ∧ ¬ inR v lo hi))) 0 0 (fun _ => False) := by
  refine mt (by decide) (Nat.le_of_ble_eq_true rfl) ?_
  intro p e s m below meth c ls hx hb hr hml hts hown hlocks hin hsz hP hE hD hl
  subst hsz
  have hl : lv_has ls 3 [(0, .int v), (1, .int lo), (2, .int hi)] := hl
  refine lv_iload_n hx hb dX12_within_0 rfl (lv_at hl 0 rfl) ?_
  refine lv_iload_n hx hb dX12_within_1 rfl (lv_at hl 1 rfl) ?_
  refine lv_icmp_lt (tgt := 14) hx hb dX12_within_2 (by decide) (fun c_1 => ?_) (fun c_1 => ?_)
  · refine lv_iconst (v := 0) hx hb dX12_within_14 (by decide) ?_
    exact W.zret (v := 0) hx hb hr rfl (fun t ht hW => ⟨0, rfl, (Or.inr ⟨rfl, (lf_c_X12_within_0 v lo hi c_1)⟩), ht⟩) (fun _ h => by cases h) dX12_within_15
  · refine lv_iload_n hx hb dX12_within_5 rfl (lv_at hl 0 rfl) ?_
    refine lv_iload_n hx hb dX12_within_6 rfl (lv_at hl 2 rfl) ?_
    refine lv_icmp_gt (tgt := 14) hx hb dX12_within_7 (by decide) (fun c_2 => ?_) (fun c_2 => ?_)
    · refine lv_iconst (v := 0) hx hb dX12_within_14 (by decide) ?_
      exact W.zret (v := 0) hx hb hr rfl (fun t ht hW => ⟨0, rfl, (Or.inr ⟨rfl, (lf_c_X12_within_1 v lo hi c_1 c_2)⟩), ht⟩) (fun _ h => by cases h) dX12_within_15
    · refine lv_iconst (v := 1) hx hb dX12_within_10 (by decide) ?_
      refine lv_goto (tgt := 15) hx hb dX12_within_11 (by decide) ?_
      exact W.zret (v := 1) hx hb hr rfl (fun t ht hW => ⟨1, rfl, (Or.inl ⟨rfl, (lf_c_X12_within_2 v lo hi c_1 c_2)⟩), ht⟩) (fun _ h => by cases h) dX12_within_15
theorem lf_c_X12_isCell_0 (v : Int32) (h_2 : inR v 0 191) : inR v 0 191 := by first | rfl | simp_all
theorem lf_c_X12_isCell_1 (v : Int32) (h_2 : ¬ inR v 0 191) : ¬ inR v 0 191 := by first | rfl | simp_all
set_option maxHeartbeats 4000000 in
set_option maxRecDepth 100000 in
theorem c_X12_isCell (l : Launch) (G : va_G) (cy : Nat → ClassId) (sk : Nat → Nat) (sz : Nat) (v : Int32)  : Met l yX12_isCell (wsO yX12_isCell cX12_isCell 1 (some .boolean)) ({ frames := 1, cells := 0, slots := 0, locals := 22 }) (va_Pc [.int v] (PR G cy sk sz [])) (vp_Si (fun r => (r = 1 ∧ inR v 0 191) ∨ (r = 0 ∧ ¬ inR v 0 191))) 0 0 (fun _ => False) := by
  refine mt (by decide) (Nat.le_of_ble_eq_true rfl) ?_
  intro p e s m below meth c ls hx hb hr hml hts hown hlocks hin hsz hP hE hD hl
  subst hsz
  have hl : lv_has ls 1 [(0, .int v)] := hl
  refine lv_iload_n hx hb dX12_isCell_0 rfl (lv_at hl 0 rfl) ?_
  refine lv_iconst (v := 0) hx hb dX12_isCell_1 (by decide) ?_
  refine lv_sipush (v := 191) hx hb dX12_isCell_2 (by decide) ?_
  refine rS (rest := []) hx hb hml hown hts hE (c_X12_within l G cy sk s.heap.size v 0 191) kS_X12_within m_1427 rfl rfl ⟨(Nat.le_of_ble_eq_true rfl), (Nat.le_of_ble_eq_true rfl)⟩ hP hD [] rfl rfl rfl rfl hl.1 (Nat.le_of_ble_eq_true rfl) dX12_isCell_5 ⟨Nat.zero_le _, Nat.zero_le _⟩ (fun r_1 hr_ => ?_)
  rcases hr_ with ⟨rfl, h_2⟩ | ⟨rfl, h_2⟩
  · exact W.zret (v := 1) hx hb hr rfl (fun t ht hW => ⟨1, rfl, (Or.inl ⟨rfl, (lf_c_X12_isCell_0 v h_2)⟩), ht⟩) (fun _ h => by cases h) dX12_isCell_8
  · exact W.zret (v := 0) hx hb hr rfl (fun t ht hW => ⟨0, rfl, (Or.inr ⟨rfl, (lf_c_X12_isCell_1 v h_2)⟩), ht⟩) (fun _ h => by cases h) dX12_isCell_8
theorem lf_c_X12_isSide_0 (v : Int32) (h_2 : inR v 0 7) : inR v 0 7 := by first | rfl | simp_all
theorem lf_c_X12_isSide_1 (v : Int32) (h_2 : ¬ inR v 0 7) : ¬ inR v 0 7 := by first | rfl | simp_all
set_option maxHeartbeats 4000000 in
set_option maxRecDepth 100000 in
theorem c_X12_isSide (l : Launch) (G : va_G) (cy : Nat → ClassId) (sk : Nat → Nat) (sz : Nat) (v : Int32)  : Met l yX12_isSide (wsO yX12_isSide cX12_isSide 1 (some .boolean)) ({ frames := 1, cells := 0, slots := 0, locals := 22 }) (va_Pc [.int v] (PR G cy sk sz [])) (vp_Si (fun r => (r = 1 ∧ inR v 0 7) ∨ (r = 0 ∧ ¬ inR v 0 7))) 0 0 (fun _ => False) := by
  refine mt (by decide) (Nat.le_of_ble_eq_true rfl) ?_
  intro p e s m below meth c ls hx hb hr hml hts hown hlocks hin hsz hP hE hD hl
  subst hsz
  have hl : lv_has ls 1 [(0, .int v)] := hl
  refine lv_iload_n hx hb dX12_isSide_0 rfl (lv_at hl 0 rfl) ?_
  refine lv_iconst (v := 0) hx hb dX12_isSide_1 (by decide) ?_
  refine lv_bipush (v := 7) hx hb dX12_isSide_2 (by decide) ?_
  refine rS (rest := []) hx hb hml hown hts hE (c_X12_within l G cy sk s.heap.size v 0 7) kS_X12_within m_1427 rfl rfl ⟨(Nat.le_of_ble_eq_true rfl), (Nat.le_of_ble_eq_true rfl)⟩ hP hD [] rfl rfl rfl rfl hl.1 (Nat.le_of_ble_eq_true rfl) dX12_isSide_4 ⟨Nat.zero_le _, Nat.zero_le _⟩ (fun r_1 hr_ => ?_)
  rcases hr_ with ⟨rfl, h_2⟩ | ⟨rfl, h_2⟩
  · exact W.zret (v := 1) hx hb hr rfl (fun t ht hW => ⟨1, rfl, (Or.inl ⟨rfl, (lf_c_X12_isSide_0 v h_2)⟩), ht⟩) (fun _ h => by cases h) dX12_isSide_7
  · exact W.zret (v := 0) hx hb hr rfl (fun t ht hW => ⟨0, rfl, (Or.inr ⟨rfl, (lf_c_X12_isSide_1 v h_2)⟩), ht⟩) (fun _ h => by cases h) dX12_isSide_7
theorem lf_c_X12_isSheet_0 (v : Int32) (h_2 : inR v 0 3) : inR v 0 3 := by first | rfl | simp_all
theorem lf_c_X12_isSheet_1 (v : Int32) (h_2 : ¬ inR v 0 3) : ¬ inR v 0 3 := by first | rfl | simp_all
set_option maxHeartbeats 4000000 in
set_option maxRecDepth 100000 in
theorem c_X12_isSheet (l : Launch) (G : va_G) (cy : Nat → ClassId) (sk : Nat → Nat) (sz : Nat) (v : Int32)  : Met l yX12_isSheet (wsO yX12_isSheet cX12_isSheet 1 (some .boolean)) ({ frames := 1, cells := 0, slots := 0, locals := 22 }) (va_Pc [.int v] (PR G cy sk sz [])) (vp_Si (fun r => (r = 1 ∧ inR v 0 3) ∨ (r = 0 ∧ ¬ inR v 0 3))) 0 0 (fun _ => False) := by
  refine mt (by decide) (Nat.le_of_ble_eq_true rfl) ?_
  intro p e s m below meth c ls hx hb hr hml hts hown hlocks hin hsz hP hE hD hl
  subst hsz
  have hl : lv_has ls 1 [(0, .int v)] := hl
  refine lv_iload_n hx hb dX12_isSheet_0 rfl (lv_at hl 0 rfl) ?_
  refine lv_iconst (v := 0) hx hb dX12_isSheet_1 (by decide) ?_
  refine lv_iconst (v := 3) hx hb dX12_isSheet_2 (by decide) ?_
  refine rS (rest := []) hx hb hml hown hts hE (c_X12_within l G cy sk s.heap.size v 0 3) kS_X12_within m_1427 rfl rfl ⟨(Nat.le_of_ble_eq_true rfl), (Nat.le_of_ble_eq_true rfl)⟩ hP hD [] rfl rfl rfl rfl hl.1 (Nat.le_of_ble_eq_true rfl) dX12_isSheet_3 ⟨Nat.zero_le _, Nat.zero_le _⟩ (fun r_1 hr_ => ?_)
  rcases hr_ with ⟨rfl, h_2⟩ | ⟨rfl, h_2⟩
  · exact W.zret (v := 1) hx hb hr rfl (fun t ht hW => ⟨1, rfl, (Or.inl ⟨rfl, (lf_c_X12_isSheet_0 v h_2)⟩), ht⟩) (fun _ h => by cases h) dX12_isSheet_6
  · exact W.zret (v := 0) hx hb hr rfl (fun t ht hW => ⟨0, rfl, (Or.inr ⟨rfl, (lf_c_X12_isSheet_1 v h_2)⟩), ht⟩) (fun _ h => by cases h) dX12_isSheet_6
set_option maxHeartbeats 4000000 in
set_option maxRecDepth 100000 in
theorem c_X12_finding (l : Launch) (G : va_G) (cy : Nat → ClassId) (sk : Nat → Nat) (sz : Nat) (mo : Nat) (nw : Nat) (nk : Nat) (na : Nat) (fd : Nat) (ea : Nat) (so : Nat) (nd : Nat) (cd : Nat) (nmd : Nat) (pl : Nat) (tl : Nat) (fr_ : Nat) (rw_ : Nat) (brw : Nat) (po : Nat) (trc : Nat) (wi : Nat) (sz_ : Nat) (nu : Nat) (ca : Nat) (v_images : Int32) (v_unseen : Int32) (v_at : Int32) (v_use : Int32) (v_open : Int32) (v_told : Int32) (v_isWrong : Int32) (v_coded : Int32) (v_bestMany : Int32) (v_bestMinutes : Int32) (v_traced : Int32) (v_speaker : Int32) (v_isParted : Int32) (ff : Nat → Int32) (wh : Int32) (k : Int32) (hk : (-1000000) - wh = k) (hi_ : vp_in k 7) : Met l yX12_finding (wsO yX12_finding cX12_finding 2 (some .int)) ({ frames := 0, cells := 0, slots := 0, locals := 0 }) (va_Pc [.ref mo, .int wh] (PR G cy sk sz [(mo, .inr (12, [.ref nw, .ref nk, .ref na, .int v_images, .ref fd, .ref ea, .ref so, .int v_unseen, .ref nd, .int v_at, .int v_use, .int v_open, .int v_told, .int v_isWrong, .int v_coded, .ref cd, .ref nmd, .ref pl, .ref tl, .ref fr_, .ref rw_, .ref brw, .int v_bestMany, .int v_bestMinutes, .ref po, .ref trc, .int v_traced, .int v_speaker, .int v_isParted, .ref wi, .ref sz_, .ref nu, .ref ca])), (fd, .inl (cy 0, 7, .inl ff))])) (va_Qi (fun r (_ : Unit) => r = wh) (fun _ _ => True) (va_A [(mo, .inr (12, [.ref nw, .ref nk, .ref na, .int v_images, .ref fd, .ref ea, .ref so, .int v_unseen, .ref nd, .int v_at, .int v_use, .int v_open, .int v_told, .int v_isWrong, .int v_coded, .ref cd, .ref nmd, .ref pl, .ref tl, .ref fr_, .ref rw_, .ref brw, .int v_bestMany, .int v_bestMinutes, .ref po, .ref trc, .int v_traced, .int v_speaker, .int v_isParted, .ref wi, .ref sz_, .ref nu, .ref ca])), (fd, .inl (cy 0, 7, .inl ff))] sz)) 0 0 (va_A [(mo, .inr (12, [.ref nw, .ref nk, .ref na, .int v_images, .ref fd, .ref ea, .ref so, .int v_unseen, .ref nd, .int v_at, .int v_use, .int v_open, .int v_told, .int v_isWrong, .int v_coded, .ref cd, .ref nmd, .ref pl, .ref tl, .ref fr_, .ref rw_, .ref brw, .int v_bestMany, .int v_bestMinutes, .ref po, .ref trc, .int v_traced, .int v_speaker, .int v_isParted, .ref wi, .ref sz_, .ref nu, .ref ca])), (fd, .inl (cy 0, 7, .inl ff))] sz) := by
  refine mt (by decide) (Nat.le_of_ble_eq_true rfl) ?_
  intro p e s m below meth c ls hx hb hr hml hts hown hlocks hin hsz hP hE hD hl
  subst hsz
  have hl : lv_has ls 2 [(0, .ref mo), (1, .int wh)] := hl
  have hD := hD.self (sz := s.heap.size)
  generalize hAe : va_A [(mo, .inr (12, [.ref nw, .ref nk, .ref na, .int v_images, .ref fd, .ref ea, .ref so, .int v_unseen, .ref nd, .int v_at, .int v_use, .int v_open, .int v_told, .int v_isWrong, .int v_coded, .ref cd, .ref nmd, .ref pl, .ref tl, .ref fr_, .ref rw_, .ref brw, .int v_bestMany, .int v_bestMinutes, .ref po, .ref trc, .int v_traced, .int v_speaker, .int v_isParted, .ref wi, .ref sz_, .ref nu, .ref ca])), (fd, .inl (cy 0, 7, .inl ff))] s.heap.size = A at hD ⊢
  have hA : ∀ q : Nat, s.heap.size ≤ q → A q := fun q h => by rw [← hAe]; exact Or.inr h
  have hS : va_S A s.heap s.heap [] := va_S.rf
  refine lv_aload_n hx hb dX12_finding_0 rfl (lv_at hl 0 rfl) ?_
  refine va_get (D := G) (ci := 12) (v := .ref fd) (C := RX12) (T := TX12) (N := 33) hx hb hts inB12 hown hE.1 hP 0 rfl rfl 4 (by decide) (hts _ m_1327) (fun _ h9 => h9) rfl dX12_finding_1 ?_
  refine lv_ldc (v := (-1000000)) hx hb hown (hts _ m_1438) dX12_finding_4 ?_
  refine lv_iload_n hx hb dX12_finding_6 rfl (lv_at hl 1 rfl) ?_
  refine lv_isub hx hb dX12_finding_7 ?_
  refine tp (v := k) hk ?_
  refine lv_dup2_11 hx hb dX12_finding_8 rfl rfl ?_
  refine va_iald hx hb hE.1 hP 1 0 rfl rfl hi_ dX12_finding_9 ?_
  refine lv_topi (fun y1 ey1 => ?_)
  refine lv_iconst (v := 1) hx hb dX12_finding_10 (by decide) ?_
  refine lv_iadd hx hb dX12_finding_11 ?_
  refine va_iast hx hb hE.1 hP hD hS 1 0 rfl rfl hi_ dX12_finding_12 (fun H locs hP hD hS => ?_)
  have hP : va_P G classes [(mo, .inr (12, [.ref nw, .ref nk, .ref na, .int v_images, .ref fd, .ref ea, .ref so, .int v_unseen, .ref nd, .int v_at, .int v_use, .int v_open, .int v_told, .int v_isWrong, .int v_coded, .ref cd, .ref nmd, .ref pl, .ref tl, .ref fr_, .ref rw_, .ref brw, .int v_bestMany, .int v_bestMinutes, .ref po, .ref trc, .int v_traced, .int v_speaker, .int v_isParted, .ref wi, .ref sz_, .ref nu, .ref ca])), (fd, .inl (cy 0, 7, .inl (upd ff (k).toNatClampNeg (y1 + 1))))] H := hP
  have hD : va_D A [(mo, .inr (12, [.ref nw, .ref nk, .ref na, .int v_images, .ref fd, .ref ea, .ref so, .int v_unseen, .ref nd, .int v_at, .int v_use, .int v_open, .int v_told, .int v_isWrong, .int v_coded, .ref cd, .ref nmd, .ref pl, .ref tl, .ref fr_, .ref rw_, .ref brw, .int v_bestMany, .int v_bestMinutes, .ref po, .ref trc, .int v_traced, .int v_speaker, .int v_isParted, .ref wi, .ref sz_, .ref nu, .ref ca])), (fd, .inl (cy 0, 7, .inl (upd ff (k).toNatClampNeg (y1 + 1))))] := hD
  refine lv_iload_n hx hb dX12_finding_13 rfl (lv_at hl 1 rfl) ?_
  refine W.widen (k := 0) (n := 0) (by first | exact Nat.le_of_ble_eq_true rfl | omega) (by first | exact Nat.le_of_ble_eq_true rfl | omega) ?_
  exact W.iret (v := wh) hx hb hr (fun t ht hW => ⟨⟨wh, (), rfl, rfl, trivial⟩, hS.F ht⟩) hS.2.2 dX12_finding_14
set_option maxHeartbeats 4000000 in
set_option maxRecDepth 100000 in
theorem c_X12_is (l : Launch) (G : va_G) (cy : Nat → ClassId) (sk : Nat → Nat) (sz : Nat) (mo : Nat) (nw : Nat) (nk : Nat) (na : Nat) (fd : Nat) (ea : Nat) (so : Nat) (nd : Nat) (cd : Nat) (nmd : Nat) (pl : Nat) (tl : Nat) (fr_ : Nat) (rw_ : Nat) (brw : Nat) (po : Nat) (trc : Nat) (wi : Nat) (sz_ : Nat) (nu : Nat) (ca : Nat) (v_images : Int32) (v_unseen : Int32) (v_at : Int32) (v_use : Int32) (v_open : Int32) (v_told : Int32) (v_isWrong : Int32) (v_coded : Int32) (v_bestMany : Int32) (v_bestMinutes : Int32) (v_traced : Int32) (v_speaker : Int32) (v_isParted : Int32) (f : Nat → Int32) (v : Int32) (cn : Int32) (hi_ : vp_in cn 3567) (hz : f cn.toNatClampNeg = 0) : Met l yX12_is (wsO yX12_is cX12_is 3 (some .boolean)) ({ frames := 1, cells := 0, slots := 0, locals := 22 }) (va_Pc [.ref mo, .int v, .int cn] (PR G cy sk sz [(mo, .inr (12, [.ref nw, .ref nk, .ref na, .int v_images, .ref fd, .ref ea, .ref so, .int v_unseen, .ref nd, .int v_at, .int v_use, .int v_open, .int v_told, .int v_isWrong, .int v_coded, .ref cd, .ref nmd, .ref pl, .ref tl, .ref fr_, .ref rw_, .ref brw, .int v_bestMany, .int v_bestMinutes, .ref po, .ref trc, .int v_traced, .int v_speaker, .int v_isParted, .ref wi, .ref sz_, .ref nu, .ref ca])), (nw, .inl (cy 0, 3567, .inl f))])) (vp_Si (fun r => r = 0)) 0 0 (fun _ => False) := by
  refine mt (by decide) (Nat.le_of_ble_eq_true rfl) ?_
  intro p e s m below meth c ls hx hb hr hml hts hown hlocks hin hsz hP hE hD hl
  subst hsz
  have hl : lv_has ls 3 [(0, .ref mo), (1, .int v), (2, .int cn)] := hl
  refine lv_iload_n hx hb dX12_is_0 rfl (lv_at hl 1 rfl) ?_
  refine lv_iconst (v := 0) hx hb dX12_is_1 (by decide) ?_
  refine lv_aload_n hx hb dX12_is_2 rfl (lv_at hl 0 rfl) ?_
  refine va_get (D := G) (ci := 12) (v := .ref nw) (C := RX12) (T := TX12) (N := 33) hx hb hts inB12 hown hE.1 hP 0 rfl rfl 0 (by decide) (hts _ m_1323) (fun _ h9 => h9) rfl dX12_is_3 ?_
  refine lv_iload_n hx hb dX12_is_6 rfl (lv_at hl 2 rfl) ?_
  refine va_iald hx hb hE.1 hP 1 0 rfl rfl hi_ dX12_is_7 ?_
  refine tp (v := 0) hz ?_
  refine lv_iconst (v := 1) hx hb dX12_is_8 (by decide) ?_
  refine lv_isub hx hb dX12_is_9 ?_
  refine tp (v := (-1)) (by decide) ?_
  refine rS (rest := []) hx hb hml hown hts hE (c_X12_within l G cy sk s.heap.size v 0 (-1)) kS_X12_within m_1427 rfl rfl ⟨(Nat.le_of_ble_eq_true rfl), (Nat.le_of_ble_eq_true rfl)⟩ hP hD [] rfl rfl rfl rfl hl.1 (Nat.le_of_ble_eq_true rfl) dX12_is_10 ⟨Nat.zero_le _, Nat.zero_le _⟩ (fun r_1 hr_ => ?_)
  rcases hr_ with ⟨rfl, h_2⟩ | ⟨rfl, h_2⟩
  · exact (inR_emp h_2 (by decide)).elim
  · exact W.zret (v := 0) hx hb hr rfl (fun t ht hW => ⟨0, rfl, rfl, ht⟩) (fun _ h => by cases h) dX12_is_13
set_option maxHeartbeats 4000000 in
set_option maxRecDepth 100000 in
theorem c_X12_in (l : Launch) (G : va_G) (cy : Nat → ClassId) (sk : Nat → Nat) (sz : Nat) (mo : Nat) (nw : Nat) (nk : Nat) (na : Nat) (fd : Nat) (ea : Nat) (so : Nat) (nd : Nat) (cd : Nat) (nmd : Nat) (pl : Nat) (tl : Nat) (fr_ : Nat) (rw_ : Nat) (brw : Nat) (po : Nat) (trc : Nat) (wi : Nat) (sz_ : Nat) (nu : Nat) (ca : Nat) (v_images : Int32) (v_unseen : Int32) (v_at : Int32) (v_use : Int32) (v_open : Int32) (v_told : Int32) (v_isWrong : Int32) (v_coded : Int32) (v_bestMany : Int32) (v_bestMinutes : Int32) (v_traced : Int32) (v_speaker : Int32) (v_isParted : Int32) (f : Nat → Int32) (v : Int32) (h1 : f 1 = 0) (h2 : f 2 = 0) : Met l yX12_in (wsO yX12_in cX12_in 3 (some .int)) ({ frames := 0, cells := 0, slots := 0, locals := 0 }) (va_Pc [.ref mo, .int v] (PR G cy sk sz [(mo, .inr (12, [.ref nw, .ref nk, .ref na, .int v_images, .ref fd, .ref ea, .ref so, .int v_unseen, .ref nd, .int v_at, .int v_use, .int v_open, .int v_told, .int v_isWrong, .int v_coded, .ref cd, .ref nmd, .ref pl, .ref tl, .ref fr_, .ref rw_, .ref brw, .int v_bestMany, .int v_bestMinutes, .ref po, .ref trc, .int v_traced, .int v_speaker, .int v_isParted, .ref wi, .ref sz_, .ref nu, .ref ca])), (nw, .inl (cy 0, 3567, .inl f))])) (vp_Si (fun r => r = (-1))) 0 0 (fun _ => False) := by
  refine mt (by decide) (Nat.le_of_ble_eq_true rfl) ?_
  intro p e s m below meth c ls hx hb hr hml hts hown hlocks hin hsz hP hE hD hl
  subst hsz
  have hl : lv_has ls 3 [(0, .ref mo), (1, .int v)] := hl
  refine lv_iconst (v := 0) hx hb dX12_in_0 (by decide) ?_
  refine lv_istore_n (lv' := [(2, .int 0), (0, .ref mo), (1, .int v)]) hx hb dX12_in_1 rfl hl (by decide) rfl (fun ls hl => ?_)
  refine lv_iload_n hx hb dX12_in_2 rfl (lv_at hl 0 rfl) ?_
  refine lv_aload_n hx hb dX12_in_3 rfl (lv_at hl 1 rfl) ?_
  refine va_get (D := G) (ci := 12) (v := .ref nw) (C := RX12) (T := TX12) (N := 33) hx hb hts inB12 hown hE.1 hP 0 rfl rfl 0 (by decide) (hts _ m_1323) (fun _ h9 => h9) rfl dX12_in_4 ?_
  refine lv_iconst (v := 1) hx hb dX12_in_7 (by decide) ?_
  refine va_iald hx hb hE.1 hP 1 0 rfl rfl (vinL (by decide)) dX12_in_8 ?_
  refine tp (v := 0) h1 ?_
  refine lv_icmp_ge (tgt := 36) hx hb dX12_in_9 (by decide) (fun _ => ?_) (fun h9 => absurd h9 (by decide))
  refine lv_iconst (v := 0) hx hb dX12_in_36 (by decide) ?_
  refine lv_istore_n (lv' := [(2, .int 0), (0, .ref mo), (1, .int v)]) hx hb dX12_in_37 rfl hl (by decide) rfl (fun ls hl => ?_)
  refine lv_iload_n hx hb dX12_in_38 rfl (lv_at hl 0 rfl) ?_
  refine lv_aload_n hx hb dX12_in_39 rfl (lv_at hl 1 rfl) ?_
  refine va_get (D := G) (ci := 12) (v := .ref nw) (C := RX12) (T := TX12) (N := 33) hx hb hts inB12 hown hE.1 hP 0 rfl rfl 0 (by decide) (hts _ m_1323) (fun _ h9 => h9) rfl dX12_in_40 ?_
  refine lv_iconst (v := 2) hx hb dX12_in_43 (by decide) ?_
  refine va_iald hx hb hE.1 hP 1 0 rfl rfl (vinL (by decide)) dX12_in_44 ?_
  refine tp (v := 0) h2 ?_
  refine lv_icmp_ge (tgt := 83) hx hb dX12_in_45 (by decide) (fun _ => ?_) (fun h9 => absurd h9 (by decide))
  refine lv_iconst (v := (-1)) hx hb dX12_in_83 (by decide) ?_
  exact W.iret (v := (-1)) hx hb hr (fun t ht hW => ⟨(-1), rfl, rfl, ht⟩) (fun _ h => by cases h) dX12_in_84
set_option maxHeartbeats 4000000 in
set_option maxRecDepth 100000 in
theorem c_X12_isFree (l : Launch) (G : va_G) (cy : Nat → ClassId) (sk : Nat → Nat) (sz : Nat) (mo : Nat) (nw : Nat) (nk : Nat) (na : Nat) (fd : Nat) (ea : Nat) (so : Nat) (nd : Nat) (cd : Nat) (nmd : Nat) (pl : Nat) (tl : Nat) (fr_ : Nat) (rw_ : Nat) (brw : Nat) (po : Nat) (trc : Nat) (wi : Nat) (sz_ : Nat) (nu : Nat) (ca : Nat) (v_images : Int32) (v_unseen : Int32) (v_at : Int32) (v_use : Int32) (v_open : Int32) (v_told : Int32) (v_isWrong : Int32) (v_coded : Int32) (v_bestMany : Int32) (v_bestMinutes : Int32) (v_traced : Int32) (v_speaker : Int32) (v_isParted : Int32) (f : Nat → Int32) (v : Int32) (h1 : f 1 = 0) (h2 : f 2 = 0) : Met l yX12_isFree (wsO yX12_isFree cX12_isFree 2 (some .boolean)) ({ frames := 1, cells := 0, slots := 0, locals := 22 }) (va_Pc [.ref mo, .int v] (PR G cy sk sz [(mo, .inr (12, [.ref nw, .ref nk, .ref na, .int v_images, .ref fd, .ref ea, .ref so, .int v_unseen, .ref nd, .int v_at, .int v_use, .int v_open, .int v_told, .int v_isWrong, .int v_coded, .ref cd, .ref nmd, .ref pl, .ref tl, .ref fr_, .ref rw_, .ref brw, .int v_bestMany, .int v_bestMinutes, .ref po, .ref trc, .int v_traced, .int v_speaker, .int v_isParted, .ref wi, .ref sz_, .ref nu, .ref ca])), (nw, .inl (cy 0, 3567, .inl f))])) (vp_Si (fun r => r = 1)) 0 0 (fun _ => False) := by
  refine mt (by decide) (Nat.le_of_ble_eq_true rfl) ?_
  intro p e s m below meth c ls hx hb hr hml hts hown hlocks hin hsz hP hE hD hl
  subst hsz
  have hl : lv_has ls 2 [(0, .ref mo), (1, .int v)] := hl
  refine lv_aload_n hx hb dX12_isFree_0 rfl (lv_at hl 0 rfl) ?_
  refine lv_iload_n hx hb dX12_isFree_1 rfl (lv_at hl 1 rfl) ?_
  refine rV (rest := []) hx hb hml hown hts hE (c_X12_in l G cy sk s.heap.size mo nw nk na fd ea so nd cd nmd pl tl fr_ rw_ brw po trc wi sz_ nu ca v_images v_unseen v_at v_use v_open v_told v_isWrong v_coded v_bestMany v_bestMinutes v_traced v_speaker v_isParted f v h1 h2) kV_X12_in m_1443 rfl rfl ⟨(Nat.le_of_ble_eq_true rfl), (Nat.le_of_ble_eq_true rfl)⟩ hP hD 0 rfl rfl rfl [0, 1] rfl rfl rfl rfl hl.1 (Nat.le_of_ble_eq_true rfl) dX12_isFree_2 ⟨Nat.zero_le _, Nat.zero_le _⟩ (fun r_1 hr_ => ?_)
  subst hr_
  refine lv_if_ge (tgt := 12) hx hb dX12_isFree_5 (by decide) (fun h9 => absurd h9 (by decide)) (fun _ => ?_)
  refine lv_iconst (v := 1) hx hb dX12_isFree_8 (by decide) ?_
  refine lv_goto (tgt := 13) hx hb dX12_isFree_9 (by decide) ?_
  exact W.zret (v := 1) hx hb hr rfl (fun t ht hW => ⟨1, rfl, rfl, ht⟩) (fun _ h => by cases h) dX12_isFree_13
set_option maxHeartbeats 4000000 in
set_option maxRecDepth 100000 in
theorem c_X12_thing (l : Launch) (G : va_G) (cy : Nat → ClassId) (sk : Nat → Nat) (sz : Nat) (mo : Nat) (nw : Nat) (nk : Nat) (na : Nat) (fd : Nat) (ea : Nat) (so : Nat) (nd : Nat) (cd : Nat) (nmd : Nat) (pl : Nat) (tl : Nat) (fr_ : Nat) (rw_ : Nat) (brw : Nat) (po : Nat) (trc : Nat) (wi : Nat) (sz_ : Nat) (nu : Nat) (ca : Nat) (v_images : Int32) (v_unseen : Int32) (v_at : Int32) (v_use : Int32) (v_open : Int32) (v_told : Int32) (v_isWrong : Int32) (v_coded : Int32) (v_bestMany : Int32) (v_bestMinutes : Int32) (v_traced : Int32) (v_speaker : Int32) (v_isParted : Int32) (v : Int32) (ans : Int32) (ha : 20 + 4 * v = ans) : Met l yX12_thing (wsO yX12_thing cX12_thing 2 (some .int)) ({ frames := 0, cells := 0, slots := 0, locals := 0 }) (va_Pc [.ref mo, .int v] (PR G cy sk sz [(mo, .inr (12, [.ref nw, .ref nk, .ref na, .int v_images, .ref fd, .ref ea, .ref so, .int v_unseen, .ref nd, .int v_at, .int v_use, .int v_open, .int v_told, .int v_isWrong, .int v_coded, .ref cd, .ref nmd, .ref pl, .ref tl, .ref fr_, .ref rw_, .ref brw, .int v_bestMany, .int v_bestMinutes, .ref po, .ref trc, .int v_traced, .int v_speaker, .int v_isParted, .ref wi, .ref sz_, .ref nu, .ref ca]))])) (vp_Si (fun r => r = ans)) 0 0 (fun _ => False) := by
  refine mt (by decide) (Nat.le_of_ble_eq_true rfl) ?_
  intro p e s m below meth c ls hx hb hr hml hts hown hlocks hin hsz hP hE hD hl
  subst hsz
  have hl : lv_has ls 2 [(0, .ref mo), (1, .int v)] := hl
  refine lv_bipush (v := 20) hx hb dX12_thing_0 (by decide) ?_
  refine lv_iconst (v := 4) hx hb dX12_thing_2 (by decide) ?_
  refine lv_iload_n hx hb dX12_thing_3 rfl (lv_at hl 1 rfl) ?_
  refine lv_imul hx hb dX12_thing_4 ?_
  refine lv_iadd hx hb dX12_thing_5 ?_
  refine tp (v := ans) ha ?_
  exact W.iret (v := ans) hx hb hr (fun t ht hW => ⟨ans, rfl, rfl, ht⟩) (fun _ h => by cases h) dX12_thing_6
set_option maxHeartbeats 4000000 in
set_option maxRecDepth 100000 in
theorem c_X12_goer (l : Launch) (G : va_G) (cy : Nat → ClassId) (sk : Nat → Nat) (sz : Nat) (mo : Nat) (nw : Nat) (nk : Nat) (na : Nat) (fd : Nat) (ea : Nat) (so : Nat) (nd : Nat) (cd : Nat) (nmd : Nat) (pl : Nat) (tl : Nat) (fr_ : Nat) (rw_ : Nat) (brw : Nat) (po : Nat) (trc : Nat) (wi : Nat) (sz_ : Nat) (nu : Nat) (ca : Nat) (v_images : Int32) (v_unseen : Int32) (v_at : Int32) (v_use : Int32) (v_open : Int32) (v_told : Int32) (v_isWrong : Int32) (v_coded : Int32) (v_bestMany : Int32) (v_bestMinutes : Int32) (v_traced : Int32) (v_speaker : Int32) (v_isParted : Int32) (v : Int32) (ans : Int32) (ha : 180 + 9 * v = ans) : Met l yX12_goer (wsO yX12_goer cX12_goer 2 (some .int)) ({ frames := 0, cells := 0, slots := 0, locals := 0 }) (va_Pc [.ref mo, .int v] (PR G cy sk sz [(mo, .inr (12, [.ref nw, .ref nk, .ref na, .int v_images, .ref fd, .ref ea, .ref so, .int v_unseen, .ref nd, .int v_at, .int v_use, .int v_open, .int v_told, .int v_isWrong, .int v_coded, .ref cd, .ref nmd, .ref pl, .ref tl, .ref fr_, .ref rw_, .ref brw, .int v_bestMany, .int v_bestMinutes, .ref po, .ref trc, .int v_traced, .int v_speaker, .int v_isParted, .ref wi, .ref sz_, .ref nu, .ref ca]))])) (vp_Si (fun r => r = ans)) 0 0 (fun _ => False) := by
  refine mt (by decide) (Nat.le_of_ble_eq_true rfl) ?_
  intro p e s m below meth c ls hx hb hr hml hts hown hlocks hin hsz hP hE hD hl
  subst hsz
  have hl : lv_has ls 2 [(0, .ref mo), (1, .int v)] := hl
  refine lv_sipush (v := 180) hx hb dX12_goer_0 (by decide) ?_
  refine lv_bipush (v := 9) hx hb dX12_goer_3 (by decide) ?_
  refine lv_iload_n hx hb dX12_goer_5 rfl (lv_at hl 1 rfl) ?_
  refine lv_imul hx hb dX12_goer_6 ?_
  refine lv_iadd hx hb dX12_goer_7 ?_
  refine tp (v := ans) ha ?_
  exact W.iret (v := ans) hx hb hr (fun t ht hW => ⟨ans, rfl, rfl, ht⟩) (fun _ h => by cases h) dX12_goer_8
set_option maxHeartbeats 4000000 in
set_option maxRecDepth 100000 in
theorem c_X12_become (l : Launch) (G : va_G) (cy : Nat → ClassId) (sk : Nat → Nat) (sz : Nat) (mo : Nat) (nw : Nat) (nk : Nat) (na : Nat) (fd : Nat) (ea : Nat) (so : Nat) (nd : Nat) (cd : Nat) (nmd : Nat) (pl : Nat) (tl : Nat) (fr_ : Nat) (rw_ : Nat) (brw : Nat) (po : Nat) (trc : Nat) (wi : Nat) (sz_ : Nat) (nu : Nat) (ca : Nat) (v_images : Int32) (v_unseen : Int32) (v_at : Int32) (v_use : Int32) (v_open : Int32) (v_told : Int32) (v_isWrong : Int32) (v_coded : Int32) (v_bestMany : Int32) (v_bestMinutes : Int32) (v_traced : Int32) (v_speaker : Int32) (v_isParted : Int32) (f : Nat → Int32) (pl_ : Int32) (v : Int32) (ans : Int32) (hi_ : vp_in pl_ 3567) (ha : f pl_.toNatClampNeg = ans) : Met l yX12_become (wsO yX12_become cX12_become 4 (some .int)) ({ frames := 0, cells := 0, slots := 0, locals := 0 }) (va_Pc [.ref mo, .int pl_, .int v] (PR G cy sk sz [(mo, .inr (12, [.ref nw, .ref nk, .ref na, .int v_images, .ref fd, .ref ea, .ref so, .int v_unseen, .ref nd, .int v_at, .int v_use, .int v_open, .int v_told, .int v_isWrong, .int v_coded, .ref cd, .ref nmd, .ref pl, .ref tl, .ref fr_, .ref rw_, .ref brw, .int v_bestMany, .int v_bestMinutes, .ref po, .ref trc, .int v_traced, .int v_speaker, .int v_isParted, .ref wi, .ref sz_, .ref nu, .ref ca])), (nw, .inl (cy 0, 3567, .inl f))])) (va_Qi (fun r (_ : Unit) => r = ans) (fun _ _ => True) (va_A [(mo, .inr (12, [.ref nw, .ref nk, .ref na, .int v_images, .ref fd, .ref ea, .ref so, .int v_unseen, .ref nd, .int v_at, .int v_use, .int v_open, .int v_told, .int v_isWrong, .int v_coded, .ref cd, .ref nmd, .ref pl, .ref tl, .ref fr_, .ref rw_, .ref brw, .int v_bestMany, .int v_bestMinutes, .ref po, .ref trc, .int v_traced, .int v_speaker, .int v_isParted, .ref wi, .ref sz_, .ref nu, .ref ca])), (nw, .inl (cy 0, 3567, .inl f))] sz)) 0 0 (va_A [(mo, .inr (12, [.ref nw, .ref nk, .ref na, .int v_images, .ref fd, .ref ea, .ref so, .int v_unseen, .ref nd, .int v_at, .int v_use, .int v_open, .int v_told, .int v_isWrong, .int v_coded, .ref cd, .ref nmd, .ref pl, .ref tl, .ref fr_, .ref rw_, .ref brw, .int v_bestMany, .int v_bestMinutes, .ref po, .ref trc, .int v_traced, .int v_speaker, .int v_isParted, .ref wi, .ref sz_, .ref nu, .ref ca])), (nw, .inl (cy 0, 3567, .inl f))] sz) := by
  refine mt (by decide) (Nat.le_of_ble_eq_true rfl) ?_
  intro p e s m below meth c ls hx hb hr hml hts hown hlocks hin hsz hP hE hD hl
  subst hsz
  have hl : lv_has ls 4 [(0, .ref mo), (1, .int pl_), (2, .int v)] := hl
  have hD := hD.self (sz := s.heap.size)
  generalize hAe : va_A [(mo, .inr (12, [.ref nw, .ref nk, .ref na, .int v_images, .ref fd, .ref ea, .ref so, .int v_unseen, .ref nd, .int v_at, .int v_use, .int v_open, .int v_told, .int v_isWrong, .int v_coded, .ref cd, .ref nmd, .ref pl, .ref tl, .ref fr_, .ref rw_, .ref brw, .int v_bestMany, .int v_bestMinutes, .ref po, .ref trc, .int v_traced, .int v_speaker, .int v_isParted, .ref wi, .ref sz_, .ref nu, .ref ca])), (nw, .inl (cy 0, 3567, .inl f))] s.heap.size = A at hD ⊢
  have hA : ∀ q : Nat, s.heap.size ≤ q → A q := fun q h => by rw [← hAe]; exact Or.inr h
  have hS : va_S A s.heap s.heap [] := va_S.rf
  refine lv_aload_n hx hb dX12_become_0 rfl (lv_at hl 0 rfl) ?_
  refine va_get (D := G) (ci := 12) (v := .ref nw) (C := RX12) (T := TX12) (N := 33) hx hb hts inB12 hown hE.1 hP 0 rfl rfl 0 (by decide) (hts _ m_1323) (fun _ h9 => h9) rfl dX12_become_1 ?_
  refine lv_iload_n hx hb dX12_become_4 rfl (lv_at hl 1 rfl) ?_
  refine va_iald hx hb hE.1 hP 1 0 rfl rfl hi_ dX12_become_5 ?_
  refine tp (v := ans) ha ?_
  refine lv_istore_n (lv' := [(3, .int ans), (0, .ref mo), (1, .int pl_), (2, .int v)]) hx hb dX12_become_6 rfl hl (by decide) rfl (fun ls hl => ?_)
  refine lv_aload_n hx hb dX12_become_7 rfl (lv_at hl 1 rfl) ?_
  refine va_get (D := G) (ci := 12) (v := .ref nw) (C := RX12) (T := TX12) (N := 33) hx hb hts inB12 hown hE.1 hP 0 rfl rfl 0 (by decide) (hts _ m_1323) (fun _ h9 => h9) rfl dX12_become_8 ?_
  refine lv_iload_n hx hb dX12_become_11 rfl (lv_at hl 2 rfl) ?_
  refine lv_iload_n hx hb dX12_become_12 rfl (lv_at hl 3 rfl) ?_
  refine va_iast hx hb hE.1 hP hD hS 1 0 rfl rfl hi_ dX12_become_13 (fun H locs hP hD hS => ?_)
  have hP : va_P G classes [(mo, .inr (12, [.ref nw, .ref nk, .ref na, .int v_images, .ref fd, .ref ea, .ref so, .int v_unseen, .ref nd, .int v_at, .int v_use, .int v_open, .int v_told, .int v_isWrong, .int v_coded, .ref cd, .ref nmd, .ref pl, .ref tl, .ref fr_, .ref rw_, .ref brw, .int v_bestMany, .int v_bestMinutes, .ref po, .ref trc, .int v_traced, .int v_speaker, .int v_isParted, .ref wi, .ref sz_, .ref nu, .ref ca])), (nw, .inl (cy 0, 3567, .inl (upd f (pl_).toNatClampNeg v)))] H := hP
  have hD : va_D A [(mo, .inr (12, [.ref nw, .ref nk, .ref na, .int v_images, .ref fd, .ref ea, .ref so, .int v_unseen, .ref nd, .int v_at, .int v_use, .int v_open, .int v_told, .int v_isWrong, .int v_coded, .ref cd, .ref nmd, .ref pl, .ref tl, .ref fr_, .ref rw_, .ref brw, .int v_bestMany, .int v_bestMinutes, .ref po, .ref trc, .int v_traced, .int v_speaker, .int v_isParted, .ref wi, .ref sz_, .ref nu, .ref ca])), (nw, .inl (cy 0, 3567, .inl (upd f (pl_).toNatClampNeg v)))] := hD
  refine lv_iload_n hx hb dX12_become_14 rfl (lv_at hl 0 rfl) ?_
  refine W.widen (k := 0) (n := 0) (by first | exact Nat.le_of_ble_eq_true rfl | omega) (by first | exact Nat.le_of_ble_eq_true rfl | omega) ?_
  exact W.iret (v := ans) hx hb hr (fun t ht hW => ⟨⟨ans, (), rfl, rfl, trivial⟩, hS.F ht⟩) hS.2.2 dX12_become_15
set_option maxHeartbeats 4000000 in
set_option maxRecDepth 100000 in
theorem c_X12_comes (l : Launch) (G : va_G) (cy : Nat → ClassId) (sk : Nat → Nat) (sz : Nat) (mo : Nat) (nw : Nat) (nk : Nat) (na : Nat) (fd : Nat) (ea : Nat) (so : Nat) (nd : Nat) (cd : Nat) (nmd : Nat) (pl : Nat) (tl : Nat) (fr_ : Nat) (rw_ : Nat) (brw : Nat) (po : Nat) (trc : Nat) (wi : Nat) (sz_ : Nat) (nu : Nat) (ca : Nat) (v_images : Int32) (v_unseen : Int32) (v_at : Int32) (v_use : Int32) (v_open : Int32) (v_told : Int32) (v_isWrong : Int32) (v_coded : Int32) (v_bestMany : Int32) (v_bestMinutes : Int32) (v_traced : Int32) (v_speaker : Int32) (v_isParted : Int32) (v1 : Int32) (v2 : Int32)  : Met l yX12_comes (wsO yX12_comes cX12_comes 4 (some .int)) ({ frames := 1, cells := 0, slots := 0, locals := 21 }) (va_Pc [.ref mo, .int v1, .int v2] (PR G cy sk sz [(mo, .inr (12, [.ref nw, .ref nk, .ref na, .int v_images, .ref fd, .ref ea, .ref so, .int v_unseen, .ref nd, .int v_at, .int v_use, .int v_open, .int v_told, .int v_isWrong, .int v_coded, .ref cd, .ref nmd, .ref pl, .ref tl, .ref fr_, .ref rw_, .ref brw, .int v_bestMany, .int v_bestMinutes, .ref po, .ref trc, .int v_traced, .int v_speaker, .int v_isParted, .ref wi, .ref sz_, .ref nu, .ref ca])), (nw, .inl (cy 0, 3567, .inl nw0))])) (va_Qi (fun r (_ : Unit) => r = 0) (fun _ _ => True) (va_A [(mo, .inr (12, [.ref nw, .ref nk, .ref na, .int v_images, .ref fd, .ref ea, .ref so, .int v_unseen, .ref nd, .int v_at, .int v_use, .int v_open, .int v_told, .int v_isWrong, .int v_coded, .ref cd, .ref nmd, .ref pl, .ref tl, .ref fr_, .ref rw_, .ref brw, .int v_bestMany, .int v_bestMinutes, .ref po, .ref trc, .int v_traced, .int v_speaker, .int v_isParted, .ref wi, .ref sz_, .ref nu, .ref ca])), (nw, .inl (cy 0, 3567, .inl nw0))] sz)) 0 0 (va_A [(mo, .inr (12, [.ref nw, .ref nk, .ref na, .int v_images, .ref fd, .ref ea, .ref so, .int v_unseen, .ref nd, .int v_at, .int v_use, .int v_open, .int v_told, .int v_isWrong, .int v_coded, .ref cd, .ref nmd, .ref pl, .ref tl, .ref fr_, .ref rw_, .ref brw, .int v_bestMany, .int v_bestMinutes, .ref po, .ref trc, .int v_traced, .int v_speaker, .int v_isParted, .ref wi, .ref sz_, .ref nu, .ref ca])), (nw, .inl (cy 0, 3567, .inl nw0))] sz) := by
  refine mt (by decide) (Nat.le_of_ble_eq_true rfl) ?_
  intro p e s m below meth c ls hx hb hr hml hts hown hlocks hin hsz hP hE hD hl
  subst hsz
  have hl : lv_has ls 4 [(0, .ref mo), (1, .int v1), (2, .int v2)] := hl
  have hD := hD.self (sz := s.heap.size)
  generalize hAe : va_A [(mo, .inr (12, [.ref nw, .ref nk, .ref na, .int v_images, .ref fd, .ref ea, .ref so, .int v_unseen, .ref nd, .int v_at, .int v_use, .int v_open, .int v_told, .int v_isWrong, .int v_coded, .ref cd, .ref nmd, .ref pl, .ref tl, .ref fr_, .ref rw_, .ref brw, .int v_bestMany, .int v_bestMinutes, .ref po, .ref trc, .int v_traced, .int v_speaker, .int v_isParted, .ref wi, .ref sz_, .ref nu, .ref ca])), (nw, .inl (cy 0, 3567, .inl nw0))] s.heap.size = A at hD ⊢
  have hA : ∀ q : Nat, s.heap.size ≤ q → A q := fun q h => by rw [← hAe]; exact Or.inr h
  have hS : va_S A s.heap s.heap [] := va_S.rf
  refine lv_aload_n hx hb dX12_comes_0 rfl (lv_at hl 0 rfl) ?_
  refine va_get (D := G) (ci := 12) (v := .ref nw) (C := RX12) (T := TX12) (N := 33) hx hb hts inB12 hown hE.1 hP 0 rfl rfl 0 (by decide) (hts _ m_1323) (fun _ h9 => h9) rfl dX12_comes_1 ?_
  refine lv_iconst (v := 1) hx hb dX12_comes_4 (by decide) ?_
  refine va_iald hx hb hE.1 hP 1 0 rfl rfl (vinL (by decide)) dX12_comes_5 ?_
  refine tp (v := 0) rfl ?_
  refine lv_istore_n (lv' := [(3, .int 0), (0, .ref mo), (1, .int v1), (2, .int v2)]) hx hb dX12_comes_6 rfl hl (by decide) rfl (fun ls hl => ?_)
  refine lv_aload_n hx hb dX12_comes_7 rfl (lv_at hl 1 rfl) ?_
  refine va_get (D := G) (ci := 12) (v := .ref nw) (C := RX12) (T := TX12) (N := 33) hx hb hts inB12 hown hE.1 hP 0 rfl rfl 0 (by decide) (hts _ m_1323) (fun _ h9 => h9) rfl dX12_comes_8 ?_
  refine lv_aload_n hx hb dX12_comes_11 rfl (lv_at hl 1 rfl) ?_
  refine lv_iload_n hx hb dX12_comes_12 rfl (lv_at hl 0 rfl) ?_
  refine rV (rest := [.ref nw]) hx hb hml hown hts hE (c_X12_thing l G cy sk s.heap.size mo nw nk na fd ea so nd cd nmd pl tl fr_ rw_ brw po trc wi sz_ nu ca v_images v_unseen v_at v_use v_open v_told v_isWrong v_coded v_bestMany v_bestMinutes v_traced v_speaker v_isParted 0 20 (by decide)) kV_X12_thing m_1447 rfl rfl ⟨(Nat.le_of_ble_eq_true rfl), (Nat.le_of_ble_eq_true rfl)⟩ hP hD 0 rfl rfl rfl [0] rfl rfl rfl rfl hl.1 (Nat.le_of_ble_eq_true rfl) dX12_comes_13 ⟨(Nat.le_of_ble_eq_true rfl), (Nat.le_of_ble_eq_true rfl)⟩ (fun r_1 hr_ => ?_)
  subst hr_
  refine lv_iconst (v := 0) hx hb dX12_comes_16 (by decide) ?_
  refine lv_iadd hx hb dX12_comes_17 ?_
  refine tp (v := 20) (by decide) ?_
  refine lv_iload_n hx hb dX12_comes_18 rfl (lv_at hl 2 rfl) ?_
  refine va_iast hx hb hE.1 hP hD hS 1 0 rfl rfl (vinL (by decide)) dX12_comes_19 (fun H locs hP hD hS => ?_)
  have hP : va_P G classes [(mo, .inr (12, [.ref nw, .ref nk, .ref na, .int v_images, .ref fd, .ref ea, .ref so, .int v_unseen, .ref nd, .int v_at, .int v_use, .int v_open, .int v_told, .int v_isWrong, .int v_coded, .ref cd, .ref nmd, .ref pl, .ref tl, .ref fr_, .ref rw_, .ref brw, .int v_bestMany, .int v_bestMinutes, .ref po, .ref trc, .int v_traced, .int v_speaker, .int v_isParted, .ref wi, .ref sz_, .ref nu, .ref ca])), (nw, .inl (cy 0, 3567, .inl (upd nw0 20 v1)))] H := hP
  have hD : va_D A [(mo, .inr (12, [.ref nw, .ref nk, .ref na, .int v_images, .ref fd, .ref ea, .ref so, .int v_unseen, .ref nd, .int v_at, .int v_use, .int v_open, .int v_told, .int v_isWrong, .int v_coded, .ref cd, .ref nmd, .ref pl, .ref tl, .ref fr_, .ref rw_, .ref brw, .int v_bestMany, .int v_bestMinutes, .ref po, .ref trc, .int v_traced, .int v_speaker, .int v_isParted, .ref wi, .ref sz_, .ref nu, .ref ca])), (nw, .inl (cy 0, 3567, .inl (upd nw0 20 v1)))] := hD
  refine lv_aload_n hx hb dX12_comes_20 rfl (lv_at hl 1 rfl) ?_
  refine va_get (D := G) (ci := 12) (v := .ref nw) (C := RX12) (T := TX12) (N := 33) hx hb hts inB12 hown hE.1 hP 0 rfl rfl 0 (by decide) (hts _ m_1323) (fun _ h9 => h9) rfl dX12_comes_21 ?_
  refine lv_aload_n hx hb dX12_comes_24 rfl (lv_at hl 1 rfl) ?_
  refine lv_iload_n hx hb dX12_comes_25 rfl (lv_at hl 0 rfl) ?_
  refine rV (rest := [.ref nw]) hx hb hml hown hts hE (c_X12_thing l G cy sk H.size mo nw nk na fd ea so nd cd nmd pl tl fr_ rw_ brw po trc wi sz_ nu ca v_images v_unseen v_at v_use v_open v_told v_isWrong v_coded v_bestMany v_bestMinutes v_traced v_speaker v_isParted 0 20 (by decide)) kV_X12_thing m_1447 rfl rfl ⟨(Nat.le_of_ble_eq_true rfl), (Nat.le_of_ble_eq_true rfl)⟩ hP hD 0 rfl rfl rfl [0] rfl rfl rfl rfl hl.1 (Nat.le_of_ble_eq_true rfl) dX12_comes_26 ⟨(Nat.le_of_ble_eq_true rfl), (Nat.le_of_ble_eq_true rfl)⟩ (fun r_2 hr_ => ?_)
  subst hr_
  refine lv_iconst (v := 1) hx hb dX12_comes_29 (by decide) ?_
  refine lv_iadd hx hb dX12_comes_30 ?_
  refine tp (v := 21) (by decide) ?_
  refine lv_iload_n hx hb dX12_comes_31 rfl (lv_at hl 3 rfl) ?_
  refine va_iast hx hb hE.1 hP hD hS 1 0 rfl rfl (vinL (by decide)) dX12_comes_32 (fun H locs hP hD hS => ?_)
  have hP : va_P G classes [(mo, .inr (12, [.ref nw, .ref nk, .ref na, .int v_images, .ref fd, .ref ea, .ref so, .int v_unseen, .ref nd, .int v_at, .int v_use, .int v_open, .int v_told, .int v_isWrong, .int v_coded, .ref cd, .ref nmd, .ref pl, .ref tl, .ref fr_, .ref rw_, .ref brw, .int v_bestMany, .int v_bestMinutes, .ref po, .ref trc, .int v_traced, .int v_speaker, .int v_isParted, .ref wi, .ref sz_, .ref nu, .ref ca])), (nw, .inl (cy 0, 3567, .inl (upd (upd nw0 20 v1) 21 v2)))] H := hP
  have hD : va_D A [(mo, .inr (12, [.ref nw, .ref nk, .ref na, .int v_images, .ref fd, .ref ea, .ref so, .int v_unseen, .ref nd, .int v_at, .int v_use, .int v_open, .int v_told, .int v_isWrong, .int v_coded, .ref cd, .ref nmd, .ref pl, .ref tl, .ref fr_, .ref rw_, .ref brw, .int v_bestMany, .int v_bestMinutes, .ref po, .ref trc, .int v_traced, .int v_speaker, .int v_isParted, .ref wi, .ref sz_, .ref nu, .ref ca])), (nw, .inl (cy 0, 3567, .inl (upd (upd nw0 20 v1) 21 v2)))] := hD
  refine lv_aload_n hx hb dX12_comes_33 rfl (lv_at hl 1 rfl) ?_
  refine va_get (D := G) (ci := 12) (v := .ref nw) (C := RX12) (T := TX12) (N := 33) hx hb hts inB12 hown hE.1 hP 0 rfl rfl 0 (by decide) (hts _ m_1323) (fun _ h9 => h9) rfl dX12_comes_34 ?_
  refine lv_aload_n hx hb dX12_comes_37 rfl (lv_at hl 1 rfl) ?_
  refine lv_iload_n hx hb dX12_comes_38 rfl (lv_at hl 0 rfl) ?_
  refine rV (rest := [.ref nw]) hx hb hml hown hts hE (c_X12_thing l G cy sk H.size mo nw nk na fd ea so nd cd nmd pl tl fr_ rw_ brw po trc wi sz_ nu ca v_images v_unseen v_at v_use v_open v_told v_isWrong v_coded v_bestMany v_bestMinutes v_traced v_speaker v_isParted 0 20 (by decide)) kV_X12_thing m_1447 rfl rfl ⟨(Nat.le_of_ble_eq_true rfl), (Nat.le_of_ble_eq_true rfl)⟩ hP hD 0 rfl rfl rfl [0] rfl rfl rfl rfl hl.1 (Nat.le_of_ble_eq_true rfl) dX12_comes_39 ⟨(Nat.le_of_ble_eq_true rfl), (Nat.le_of_ble_eq_true rfl)⟩ (fun r_3 hr_ => ?_)
  subst hr_
  refine lv_iconst (v := 2) hx hb dX12_comes_42 (by decide) ?_
  refine lv_iadd hx hb dX12_comes_43 ?_
  refine tp (v := 22) (by decide) ?_
  refine lv_iconst (v := 0) hx hb dX12_comes_44 (by decide) ?_
  refine va_iast hx hb hE.1 hP hD hS 1 0 rfl rfl (vinL (by decide)) dX12_comes_45 (fun H locs hP hD hS => ?_)
  have hP : va_P G classes [(mo, .inr (12, [.ref nw, .ref nk, .ref na, .int v_images, .ref fd, .ref ea, .ref so, .int v_unseen, .ref nd, .int v_at, .int v_use, .int v_open, .int v_told, .int v_isWrong, .int v_coded, .ref cd, .ref nmd, .ref pl, .ref tl, .ref fr_, .ref rw_, .ref brw, .int v_bestMany, .int v_bestMinutes, .ref po, .ref trc, .int v_traced, .int v_speaker, .int v_isParted, .ref wi, .ref sz_, .ref nu, .ref ca])), (nw, .inl (cy 0, 3567, .inl (upd (upd (upd nw0 20 v1) 21 v2) 22 0)))] H := hP
  have hD : va_D A [(mo, .inr (12, [.ref nw, .ref nk, .ref na, .int v_images, .ref fd, .ref ea, .ref so, .int v_unseen, .ref nd, .int v_at, .int v_use, .int v_open, .int v_told, .int v_isWrong, .int v_coded, .ref cd, .ref nmd, .ref pl, .ref tl, .ref fr_, .ref rw_, .ref brw, .int v_bestMany, .int v_bestMinutes, .ref po, .ref trc, .int v_traced, .int v_speaker, .int v_isParted, .ref wi, .ref sz_, .ref nu, .ref ca])), (nw, .inl (cy 0, 3567, .inl (upd (upd (upd nw0 20 v1) 21 v2) 22 0)))] := hD
  refine lv_aload_n hx hb dX12_comes_46 rfl (lv_at hl 1 rfl) ?_
  refine va_get (D := G) (ci := 12) (v := .ref nw) (C := RX12) (T := TX12) (N := 33) hx hb hts inB12 hown hE.1 hP 0 rfl rfl 0 (by decide) (hts _ m_1323) (fun _ h9 => h9) rfl dX12_comes_47 ?_
  refine lv_aload_n hx hb dX12_comes_50 rfl (lv_at hl 1 rfl) ?_
  refine lv_iload_n hx hb dX12_comes_51 rfl (lv_at hl 0 rfl) ?_
  refine rV (rest := [.ref nw]) hx hb hml hown hts hE (c_X12_thing l G cy sk H.size mo nw nk na fd ea so nd cd nmd pl tl fr_ rw_ brw po trc wi sz_ nu ca v_images v_unseen v_at v_use v_open v_told v_isWrong v_coded v_bestMany v_bestMinutes v_traced v_speaker v_isParted 0 20 (by decide)) kV_X12_thing m_1447 rfl rfl ⟨(Nat.le_of_ble_eq_true rfl), (Nat.le_of_ble_eq_true rfl)⟩ hP hD 0 rfl rfl rfl [0] rfl rfl rfl rfl hl.1 (Nat.le_of_ble_eq_true rfl) dX12_comes_52 ⟨(Nat.le_of_ble_eq_true rfl), (Nat.le_of_ble_eq_true rfl)⟩ (fun r_4 hr_ => ?_)
  subst hr_
  refine lv_iconst (v := 3) hx hb dX12_comes_55 (by decide) ?_
  refine lv_iadd hx hb dX12_comes_56 ?_
  refine tp (v := 23) (by decide) ?_
  refine lv_iconst (v := 0) hx hb dX12_comes_57 (by decide) ?_
  refine va_iast hx hb hE.1 hP hD hS 1 0 rfl rfl (vinL (by decide)) dX12_comes_58 (fun H locs hP hD hS => ?_)
  have hP : va_P G classes [(mo, .inr (12, [.ref nw, .ref nk, .ref na, .int v_images, .ref fd, .ref ea, .ref so, .int v_unseen, .ref nd, .int v_at, .int v_use, .int v_open, .int v_told, .int v_isWrong, .int v_coded, .ref cd, .ref nmd, .ref pl, .ref tl, .ref fr_, .ref rw_, .ref brw, .int v_bestMany, .int v_bestMinutes, .ref po, .ref trc, .int v_traced, .int v_speaker, .int v_isParted, .ref wi, .ref sz_, .ref nu, .ref ca])), (nw, .inl (cy 0, 3567, .inl (upd (upd (upd (upd nw0 20 v1) 21 v2) 22 0) 23 0)))] H := hP
  have hD : va_D A [(mo, .inr (12, [.ref nw, .ref nk, .ref na, .int v_images, .ref fd, .ref ea, .ref so, .int v_unseen, .ref nd, .int v_at, .int v_use, .int v_open, .int v_told, .int v_isWrong, .int v_coded, .ref cd, .ref nmd, .ref pl, .ref tl, .ref fr_, .ref rw_, .ref brw, .int v_bestMany, .int v_bestMinutes, .ref po, .ref trc, .int v_traced, .int v_speaker, .int v_isParted, .ref wi, .ref sz_, .ref nu, .ref ca])), (nw, .inl (cy 0, 3567, .inl (upd (upd (upd (upd nw0 20 v1) 21 v2) 22 0) 23 0)))] := hD
  refine lv_aload_n hx hb dX12_comes_59 rfl (lv_at hl 1 rfl) ?_
  refine va_get (D := G) (ci := 12) (v := .ref nw) (C := RX12) (T := TX12) (N := 33) hx hb hts inB12 hown hE.1 hP 0 rfl rfl 0 (by decide) (hts _ m_1323) (fun _ h9 => h9) rfl dX12_comes_60 ?_
  refine lv_iconst (v := 1) hx hb dX12_comes_63 (by decide) ?_
  refine lv_dup2_11 hx hb dX12_comes_64 rfl rfl ?_
  refine va_iald hx hb hE.1 hP 1 0 rfl rfl (vinL (by decide)) dX12_comes_65 ?_
  refine tp (v := 0) rfl ?_
  refine lv_iconst (v := 1) hx hb dX12_comes_66 (by decide) ?_
  refine lv_iadd hx hb dX12_comes_67 ?_
  refine tp (v := 1) (by decide) ?_
  refine va_iast hx hb hE.1 hP hD hS 1 0 rfl rfl (vinL (by decide)) dX12_comes_68 (fun H locs hP hD hS => ?_)
  have hP : va_P G classes [(mo, .inr (12, [.ref nw, .ref nk, .ref na, .int v_images, .ref fd, .ref ea, .ref so, .int v_unseen, .ref nd, .int v_at, .int v_use, .int v_open, .int v_told, .int v_isWrong, .int v_coded, .ref cd, .ref nmd, .ref pl, .ref tl, .ref fr_, .ref rw_, .ref brw, .int v_bestMany, .int v_bestMinutes, .ref po, .ref trc, .int v_traced, .int v_speaker, .int v_isParted, .ref wi, .ref sz_, .ref nu, .ref ca])), (nw, .inl (cy 0, 3567, .inl (upd (upd (upd (upd (upd nw0 20 v1) 21 v2) 22 0) 23 0) 1 1)))] H := hP
  have hD : va_D A [(mo, .inr (12, [.ref nw, .ref nk, .ref na, .int v_images, .ref fd, .ref ea, .ref so, .int v_unseen, .ref nd, .int v_at, .int v_use, .int v_open, .int v_told, .int v_isWrong, .int v_coded, .ref cd, .ref nmd, .ref pl, .ref tl, .ref fr_, .ref rw_, .ref brw, .int v_bestMany, .int v_bestMinutes, .ref po, .ref trc, .int v_traced, .int v_speaker, .int v_isParted, .ref wi, .ref sz_, .ref nu, .ref ca])), (nw, .inl (cy 0, 3567, .inl (upd (upd (upd (upd (upd nw0 20 v1) 21 v2) 22 0) 23 0) 1 1)))] := hD
  refine lv_iload_n hx hb dX12_comes_69 rfl (lv_at hl 0 rfl) ?_
  refine W.widen (k := 0) (n := 0) (by first | exact Nat.le_of_ble_eq_true rfl | omega) (by first | exact Nat.le_of_ble_eq_true rfl | omega) ?_
  exact W.iret (v := 0) hx hb hr (fun t ht hW => ⟨⟨0, (), rfl, rfl, trivial⟩, hS.F ht⟩) hS.2.2 dX12_comes_70
def B_c_X12_tenth (G : va_G) (cy : Nat → ClassId) (A : Nat → Prop) (mo : Nat) (nw : Nat) (nk : Nat) (na : Nat) (fd : Nat) (ea : Nat) (so : Nat) (nd : Nat) (cd : Nat) (nmd : Nat) (pl : Nat) (tl : Nat) (fr_ : Nat) (rw_ : Nat) (brw : Nat) (po : Nat) (trc : Nat) (wi : Nat) (sz_ : Nat) (nu : Nat) (ca : Nat) (v_images : Int32) (v_unseen : Int32) (v_at : Int32) (v_use : Int32) (v_open : Int32) (v_told : Int32) (v_isWrong : Int32) (v_coded : Int32) (v_bestMany : Int32) (v_bestMinutes : Int32) (v_traced : Int32) (v_speaker : Int32) (v_isParted : Int32) (f : Nat → Int32) (k : Nat) (H : Heap) : Prop := ∃ (f2 : Nat → Int32), (f2 0 = (nI (k + 1))) ∧ (f2 1 = 0) ∧ (f2 2 = 0) ∧ va_P G classes [(mo, .inr (12, [.ref nw, .ref nk, .ref na, .int v_images, .ref fd, .ref ea, .ref so, .int v_unseen, .ref nd, .int v_at, .int v_use, .int v_open, .int v_told, .int v_isWrong, .int v_coded, .ref cd, .ref nmd, .ref pl, .ref tl, .ref fr_, .ref rw_, .ref brw, .int v_bestMany, .int v_bestMinutes, .ref po, .ref trc, .int v_traced, .int v_speaker, .int v_isParted, .ref wi, .ref sz_, .ref nu, .ref ca])), (nw, .inl (cy 0, 3567, .inl f2))] H ∧ va_D A [(mo, .inr (12, [.ref nw, .ref nk, .ref na, .int v_images, .ref fd, .ref ea, .ref so, .int v_unseen, .ref nd, .int v_at, .int v_use, .int v_open, .int v_told, .int v_isWrong, .int v_coded, .ref cd, .ref nmd, .ref pl, .ref tl, .ref fr_, .ref rw_, .ref brw, .int v_bestMany, .int v_bestMinutes, .ref po, .ref trc, .int v_traced, .int v_speaker, .int v_isParted, .ref wi, .ref sz_, .ref nu, .ref ca])), (nw, .inl (cy 0, 3567, .inl f2))]
set_option maxHeartbeats 4000000 in
set_option maxRecDepth 100000 in
theorem c_X12_tenth (l : Launch) (G : va_G) (cy : Nat → ClassId) (sk : Nat → Nat) (sz : Nat) (mo : Nat) (nw : Nat) (nk : Nat) (na : Nat) (fd : Nat) (ea : Nat) (so : Nat) (nd : Nat) (cd : Nat) (nmd : Nat) (pl : Nat) (tl : Nat) (fr_ : Nat) (rw_ : Nat) (brw : Nat) (po : Nat) (trc : Nat) (wi : Nat) (sz_ : Nat) (nu : Nat) (ca : Nat) (v_images : Int32) (v_unseen : Int32) (v_at : Int32) (v_use : Int32) (v_open : Int32) (v_told : Int32) (v_isWrong : Int32) (v_coded : Int32) (v_bestMany : Int32) (v_bestMinutes : Int32) (v_traced : Int32) (v_speaker : Int32) (v_isParted : Int32) (f : Nat → Int32) (k : Nat) (h0 : f 0 = (nI k)) (h1 : f 1 = 0) (h2 : f 2 = 0) : Met l yX12_tenth (wsO yX12_tenth cX12_tenth 2 none) ({ frames := 0, cells := 0, slots := 0, locals := 0 }) (va_Pc [.ref mo] (PR G cy sk sz [(mo, .inr (12, [.ref nw, .ref nk, .ref na, .int v_images, .ref fd, .ref ea, .ref so, .int v_unseen, .ref nd, .int v_at, .int v_use, .int v_open, .int v_told, .int v_isWrong, .int v_coded, .ref cd, .ref nmd, .ref pl, .ref tl, .ref fr_, .ref rw_, .ref brw, .int v_bestMany, .int v_bestMinutes, .ref po, .ref trc, .int v_traced, .int v_speaker, .int v_isParted, .ref wi, .ref sz_, .ref nu, .ref ca])), (nw, .inl (cy 0, 3567, .inl f))])) (va_Qv (fun (_ : Unit) => True) (fun _ t => B_c_X12_tenth G cy (va_A [(mo, .inr (12, [.ref nw, .ref nk, .ref na, .int v_images, .ref fd, .ref ea, .ref so, .int v_unseen, .ref nd, .int v_at, .int v_use, .int v_open, .int v_told, .int v_isWrong, .int v_coded, .ref cd, .ref nmd, .ref pl, .ref tl, .ref fr_, .ref rw_, .ref brw, .int v_bestMany, .int v_bestMinutes, .ref po, .ref trc, .int v_traced, .int v_speaker, .int v_isParted, .ref wi, .ref sz_, .ref nu, .ref ca])), (nw, .inl (cy 0, 3567, .inl f))] sz) mo nw nk na fd ea so nd cd nmd pl tl fr_ rw_ brw po trc wi sz_ nu ca v_images v_unseen v_at v_use v_open v_told v_isWrong v_coded v_bestMany v_bestMinutes v_traced v_speaker v_isParted f k t.heap) (va_A [(mo, .inr (12, [.ref nw, .ref nk, .ref na, .int v_images, .ref fd, .ref ea, .ref so, .int v_unseen, .ref nd, .int v_at, .int v_use, .int v_open, .int v_told, .int v_isWrong, .int v_coded, .ref cd, .ref nmd, .ref pl, .ref tl, .ref fr_, .ref rw_, .ref brw, .int v_bestMany, .int v_bestMinutes, .ref po, .ref trc, .int v_traced, .int v_speaker, .int v_isParted, .ref wi, .ref sz_, .ref nu, .ref ca])), (nw, .inl (cy 0, 3567, .inl f))] sz)) 0 0 (va_A [(mo, .inr (12, [.ref nw, .ref nk, .ref na, .int v_images, .ref fd, .ref ea, .ref so, .int v_unseen, .ref nd, .int v_at, .int v_use, .int v_open, .int v_told, .int v_isWrong, .int v_coded, .ref cd, .ref nmd, .ref pl, .ref tl, .ref fr_, .ref rw_, .ref brw, .int v_bestMany, .int v_bestMinutes, .ref po, .ref trc, .int v_traced, .int v_speaker, .int v_isParted, .ref wi, .ref sz_, .ref nu, .ref ca])), (nw, .inl (cy 0, 3567, .inl f))] sz) := by
  refine mt (by decide) (Nat.le_of_ble_eq_true rfl) ?_
  intro p e s m below meth c ls hx hb hr hml hts hown hlocks hin hsz hP hE hD hl
  subst hsz
  have hl : lv_has ls 2 [(0, .ref mo)] := hl
  have hD := hD.self (sz := s.heap.size)
  generalize hAe : va_A [(mo, .inr (12, [.ref nw, .ref nk, .ref na, .int v_images, .ref fd, .ref ea, .ref so, .int v_unseen, .ref nd, .int v_at, .int v_use, .int v_open, .int v_told, .int v_isWrong, .int v_coded, .ref cd, .ref nmd, .ref pl, .ref tl, .ref fr_, .ref rw_, .ref brw, .int v_bestMany, .int v_bestMinutes, .ref po, .ref trc, .int v_traced, .int v_speaker, .int v_isParted, .ref wi, .ref sz_, .ref nu, .ref ca])), (nw, .inl (cy 0, 3567, .inl f))] s.heap.size = A at hD ⊢
  have hA : ∀ q : Nat, s.heap.size ≤ q → A q := fun q h => by rw [← hAe]; exact Or.inr h
  have hS : va_S A s.heap s.heap [] := va_S.rf
  refine lv_aload_n hx hb dX12_tenth_0 rfl (lv_at hl 0 rfl) ?_
  refine va_get (D := G) (ci := 12) (v := .ref nw) (C := RX12) (T := TX12) (N := 33) hx hb hts inB12 hown hE.1 hP 0 rfl rfl 0 (by decide) (hts _ m_1323) (fun _ h9 => h9) rfl dX12_tenth_1 ?_
  refine lv_iconst (v := 0) hx hb dX12_tenth_4 (by decide) ?_
  refine lv_dup2_11 hx hb dX12_tenth_5 rfl rfl ?_
  refine va_iald hx hb hE.1 hP 1 0 rfl rfl (vinL (by decide)) dX12_tenth_6 ?_
  refine tp (v := (nI k)) h0 ?_
  refine lv_iconst (v := 1) hx hb dX12_tenth_7 (by decide) ?_
  refine lv_iadd hx hb dX12_tenth_8 ?_
  refine tp (v := (nI (k + 1))) (nI_1 k) ?_
  refine va_iast hx hb hE.1 hP hD hS 1 0 rfl rfl (vinL (by decide)) dX12_tenth_9 (fun H locs hP hD hS => ?_)
  have hP : va_P G classes [(mo, .inr (12, [.ref nw, .ref nk, .ref na, .int v_images, .ref fd, .ref ea, .ref so, .int v_unseen, .ref nd, .int v_at, .int v_use, .int v_open, .int v_told, .int v_isWrong, .int v_coded, .ref cd, .ref nmd, .ref pl, .ref tl, .ref fr_, .ref rw_, .ref brw, .int v_bestMany, .int v_bestMinutes, .ref po, .ref trc, .int v_traced, .int v_speaker, .int v_isParted, .ref wi, .ref sz_, .ref nu, .ref ca])), (nw, .inl (cy 0, 3567, .inl (upd f 0 (nI (k + 1)))))] H := hP
  have hD : va_D A [(mo, .inr (12, [.ref nw, .ref nk, .ref na, .int v_images, .ref fd, .ref ea, .ref so, .int v_unseen, .ref nd, .int v_at, .int v_use, .int v_open, .int v_told, .int v_isWrong, .int v_coded, .ref cd, .ref nmd, .ref pl, .ref tl, .ref fr_, .ref rw_, .ref brw, .int v_bestMany, .int v_bestMinutes, .ref po, .ref trc, .int v_traced, .int v_speaker, .int v_isParted, .ref wi, .ref sz_, .ref nu, .ref ca])), (nw, .inl (cy 0, 3567, .inl (upd f 0 (nI (k + 1)))))] := hD
  refine lv_iconst (v := 0) hx hb dX12_tenth_10 (by decide) ?_
  refine lv_istore_n (lv' := [(1, .int 0), (0, .ref mo)]) hx hb dX12_tenth_11 rfl hl (by decide) rfl (fun ls hl => ?_)
  refine lv_iload_n hx hb dX12_tenth_12 rfl (lv_at hl 0 rfl) ?_
  refine lv_aload_n hx hb dX12_tenth_13 rfl (lv_at hl 1 rfl) ?_
  refine va_get (D := G) (ci := 12) (v := .ref nw) (C := RX12) (T := TX12) (N := 33) hx hb hts inB12 hown hE.1 hP 0 rfl rfl 0 (by decide) (hts _ m_1323) (fun _ h9 => h9) rfl dX12_tenth_14 ?_
  refine lv_iconst (v := 1) hx hb dX12_tenth_17 (by decide) ?_
  refine va_iald hx hb hE.1 hP 1 0 rfl rfl (vinL (by decide)) dX12_tenth_18 ?_
  refine tp (v := 0) h1 ?_
  refine lv_icmp_ge (tgt := 33) hx hb dX12_tenth_19 (by decide) (fun _ => ?_) (fun h9 => absurd h9 (by decide))
  refine lv_iconst (v := 0) hx hb dX12_tenth_33 (by decide) ?_
  refine lv_istore_n (lv' := [(1, .int 0), (0, .ref mo)]) hx hb dX12_tenth_34 rfl hl (by decide) rfl (fun ls hl => ?_)
  refine lv_iload_n hx hb dX12_tenth_35 rfl (lv_at hl 0 rfl) ?_
  refine lv_aload_n hx hb dX12_tenth_36 rfl (lv_at hl 1 rfl) ?_
  refine va_get (D := G) (ci := 12) (v := .ref nw) (C := RX12) (T := TX12) (N := 33) hx hb hts inB12 hown hE.1 hP 0 rfl rfl 0 (by decide) (hts _ m_1323) (fun _ h9 => h9) rfl dX12_tenth_37 ?_
  refine lv_iconst (v := 2) hx hb dX12_tenth_40 (by decide) ?_
  refine va_iald hx hb hE.1 hP 1 0 rfl rfl (vinL (by decide)) dX12_tenth_41 ?_
  refine tp (v := 0) h2 ?_
  refine lv_icmp_ge (tgt := 56) hx hb dX12_tenth_42 (by decide) (fun _ => ?_) (fun h9 => absurd h9 (by decide))
  have hP9 := P_cut (wc := [(mo, .inr (12, [.ref nw, .ref nk, .ref na, .int v_images, .ref fd, .ref ea, .ref so, .int v_unseen, .ref nd, .int v_at, .int v_use, .int v_open, .int v_told, .int v_isWrong, .int v_coded, .ref cd, .ref nmd, .ref pl, .ref tl, .ref fr_, .ref rw_, .ref brw, .int v_bestMany, .int v_bestMinutes, .ref po, .ref trc, .int v_traced, .int v_speaker, .int v_isParted, .ref wi, .ref sz_, .ref nu, .ref ca])), (nw, .inl (cy 0, 3567, .inl (upd f 0 (nI (k + 1)))))]) hP [0, 1] rfl
  have hD9 := hD.sub (ws' := [(mo, .inr (12, [.ref nw, .ref nk, .ref na, .int v_images, .ref fd, .ref ea, .ref so, .int v_unseen, .ref nd, .int v_at, .int v_use, .int v_open, .int v_told, .int v_isWrong, .int v_coded, .ref cd, .ref nmd, .ref pl, .ref tl, .ref fr_, .ref rw_, .ref brw, .int v_bestMany, .int v_bestMinutes, .ref po, .ref trc, .int v_traced, .int v_speaker, .int v_isParted, .ref wi, .ref sz_, .ref nu, .ref ca])), (nw, .inl (cy 0, 3567, .inl (upd f 0 (nI (k + 1)))))]) [0, 1] (by decide) rfl
  refine W.widen (k := 0) (n := 0) (by first | exact Nat.le_of_ble_eq_true rfl | omega) (by first | exact Nat.le_of_ble_eq_true rfl | omega) ?_
  exact W.vret hx hb hr (fun t ht hW => ⟨⟨(), rfl, trivial, by dsimp only; rw [ht]; exact ⟨(upd f 0 (nI (k + 1))), rfl, h1, h2, hP9, hD9⟩⟩, hS.F ht⟩) hS.2.2 dX12_tenth_56
set_option maxHeartbeats 4000000 in
set_option maxRecDepth 100000 in
theorem c_X12_sumOf (l : Launch) (G : va_G) (cy : Nat → ClassId) (sk : Nat → Nat) (sz : Nat) (mo : Nat) (nw : Nat) (nk : Nat) (na : Nat) (fd : Nat) (ea : Nat) (so : Nat) (nd : Nat) (cd : Nat) (nmd : Nat) (pl : Nat) (tl : Nat) (fr_ : Nat) (rw_ : Nat) (brw : Nat) (po : Nat) (trc : Nat) (wi : Nat) (sz_ : Nat) (nu : Nat) (ca : Nat) (v_images : Int32) (v_unseen : Int32) (v_at : Int32) (v_use : Int32) (v_open : Int32) (v_told : Int32) (v_isWrong : Int32) (v_coded : Int32) (v_bestMany : Int32) (v_bestMinutes : Int32) (v_traced : Int32) (v_speaker : Int32) (v_isParted : Int32) (f : Nat → Int32) (v : Int32) (h2 : f 2 = 0) : Met l yX12_sumOf (wsO yX12_sumOf cX12_sumOf 4 (some .int)) ({ frames := 0, cells := 0, slots := 0, locals := 0 }) (va_Pc [.ref mo, .int v] (PR G cy sk sz [(mo, .inr (12, [.ref nw, .ref nk, .ref na, .int v_images, .ref fd, .ref ea, .ref so, .int v_unseen, .ref nd, .int v_at, .int v_use, .int v_open, .int v_told, .int v_isWrong, .int v_coded, .ref cd, .ref nmd, .ref pl, .ref tl, .ref fr_, .ref rw_, .ref brw, .int v_bestMany, .int v_bestMinutes, .ref po, .ref trc, .int v_traced, .int v_speaker, .int v_isParted, .ref wi, .ref sz_, .ref nu, .ref ca])), (nw, .inl (cy 0, 3567, .inl f))])) (vp_Si (fun r => r = 0)) 0 0 (fun _ => False) := by
  refine mt (by decide) (Nat.le_of_ble_eq_true rfl) ?_
  intro p e s m below meth c ls hx hb hr hml hts hown hlocks hin hsz hP hE hD hl
  subst hsz
  have hl : lv_has ls 4 [(0, .ref mo), (1, .int v)] := hl
  refine lv_iconst (v := 0) hx hb dX12_sumOf_0 (by decide) ?_
  refine lv_istore_n (lv' := [(2, .int 0), (0, .ref mo), (1, .int v)]) hx hb dX12_sumOf_1 rfl hl (by decide) rfl (fun ls hl => ?_)
  refine lv_iconst (v := 0) hx hb dX12_sumOf_2 (by decide) ?_
  refine lv_istore_n (lv' := [(3, .int 0), (2, .int 0), (0, .ref mo), (1, .int v)]) hx hb dX12_sumOf_3 rfl hl (by decide) rfl (fun ls hl => ?_)
  refine lv_iload_n hx hb dX12_sumOf_4 rfl (lv_at hl 0 rfl) ?_
  refine lv_aload_n hx hb dX12_sumOf_5 rfl (lv_at hl 2 rfl) ?_
  refine va_get (D := G) (ci := 12) (v := .ref nw) (C := RX12) (T := TX12) (N := 33) hx hb hts inB12 hown hE.1 hP 0 rfl rfl 0 (by decide) (hts _ m_1323) (fun _ h9 => h9) rfl dX12_sumOf_6 ?_
  refine lv_iconst (v := 2) hx hb dX12_sumOf_9 (by decide) ?_
  refine va_iald hx hb hE.1 hP 1 0 rfl rfl (vinL (by decide)) dX12_sumOf_10 ?_
  refine tp (v := 0) h2 ?_
  refine lv_icmp_ge (tgt := 35) hx hb dX12_sumOf_11 (by decide) (fun _ => ?_) (fun h9 => absurd h9 (by decide))
  refine lv_iload_n hx hb dX12_sumOf_35 rfl (lv_at hl 1 rfl) ?_
  exact W.iret (v := 0) hx hb hr (fun t ht hW => ⟨0, rfl, rfl, ht⟩) (fun _ h => by cases h) dX12_sumOf_36
set_option maxHeartbeats 4000000 in
set_option maxRecDepth 100000 in
theorem c_X12_copy (l : Launch) (G : va_G) (cy : Nat → ClassId) (sk : Nat → Nat) (sz : Nat) (a1 : Nat) (a2 : Nat) (f : Nat → Int32) (g : Nat → Int32)  : Met l yX12_copy (wsO yX12_copy cX12_copy 3 none) ({ frames := 0, cells := 0, slots := 0, locals := 0 }) (va_Pc [.ref a1, .ref a2] (PR G cy sk sz [(a1, .inl (cy 0, 3567, .inl f)), (a2, .inl (cy 0, 3567, .inl g))])) (va_Qv (fun (_ : Unit) => True) (fun _ _ => True) (va_A [(a1, .inl (cy 0, 3567, .inl f)), (a2, .inl (cy 0, 3567, .inl g))] sz)) 0 0 (va_A [(a1, .inl (cy 0, 3567, .inl f)), (a2, .inl (cy 0, 3567, .inl g))] sz) := by
  refine mt (by decide) (Nat.le_of_ble_eq_true rfl) ?_
  intro p e s m below meth c ls hx hb hr hml hts hown hlocks hin hsz hP hE hD hl
  subst hsz
  have hl : lv_has ls 3 [(0, .ref a1), (1, .ref a2)] := hl
  have hD := hD.self (sz := s.heap.size)
  generalize hAe : va_A [(a1, .inl (cy 0, 3567, .inl f)), (a2, .inl (cy 0, 3567, .inl g))] s.heap.size = A at hD ⊢
  have hA : ∀ q : Nat, s.heap.size ≤ q → A q := fun q h => by rw [← hAe]; exact Or.inr h
  have hS : va_S A s.heap s.heap [] := va_S.rf
  refine lv_iconst (v := 0) hx hb dX12_copy_0 (by decide) ?_
  refine lv_istore_n (lv' := [(2, .int 0), (0, .ref a1), (1, .ref a2)]) hx hb dX12_copy_1 rfl hl (by decide) rfl (fun ls hl => ?_)
  have lp : ∀ (nn i : Nat), i ≤ 3567 → 3567 + 1 ≤ i + nn → ∀ (g2 : Nat → Int32), ∀ (H : Heap) (locs : List Loc), va_P G classes [(a1, .inl (cy 0, 3567, .inl f)), (a2, .inl (cy 0, 3567, .inl g2))] H → va_D A [(a1, .inl (cy 0, 3567, .inl f)), (a2, .inl (cy 0, 3567, .inl g2))] → va_S A s.heap H locs → ∀ (ls : Array Slot), lv_has ls 3 [(2, .int (nI i)), (0, .ref a1), (1, .ref a2)] → W p l e (headSpec (wsO yX12_copy cX12_copy 3 none) ({ frames := 0, cells := 0, slots := 0, locals := 0 })).room s m [.ref a1, .ref a2].toArray below meth c H locs 0 0 (MQ below (va_Qv (fun (_ : Unit) => True) (fun _ _ => True) A) [.ref a1, .ref a2].toArray s 0 0 A) (F0 m 2 ls []) := by
    intro nn
    induction nn with
    | zero => intro i h1 h2; exact absurd h2 (by omega)
    | succ nn ih =>
      intro i hi hin0 g2 H locs hP hD hS ls hl
      rcases Nat.lt_or_ge i 3567 with hlt | hge
      · refine lv_iload_n hx hb dX12_copy_2 rfl (lv_at hl 0 rfl) ?_
        refine lv_sipush (v := 3567) hx hb dX12_copy_3 (by decide) ?_
        refine lv_icmp_ge (tgt := 21) hx hb dX12_copy_6 (by decide) (fun h9 => absurd h9 (nI_ge hlt (by decide))) (fun _ => ?_)
        refine lv_aload_n hx hb dX12_copy_9 rfl (lv_at hl 2 rfl) ?_
        refine lv_iload_n hx hb dX12_copy_10 rfl (lv_at hl 0 rfl) ?_
        refine lv_aload_n hx hb dX12_copy_11 rfl (lv_at hl 1 rfl) ?_
        refine lv_iload_n hx hb dX12_copy_12 rfl (lv_at hl 0 rfl) ?_
        refine va_iald hx hb hE.1 hP 0 0 rfl rfl (vp_in_nI hlt (by decide)) dX12_copy_13 ?_
        refine lv_topi (fun y1 ey1 => ?_)
        refine va_iast hx hb hE.1 hP hD hS 1 0 rfl rfl (vp_in_nI hlt (by decide)) dX12_copy_14 (fun H locs hP hD hS => ?_)
        have hP : va_P G classes [(a1, .inl (cy 0, 3567, .inl f)), (a2, .inl (cy 0, 3567, .inl (upd g2 ((nI i)).toNatClampNeg y1)))] H := hP
        have hD : va_D A [(a1, .inl (cy 0, 3567, .inl f)), (a2, .inl (cy 0, 3567, .inl (upd g2 ((nI i)).toNatClampNeg y1)))] := hD
        refine lv_iinc (v := (nI (i + 1))) (lv' := [(2, .int (nI (i + 1))), (0, .ref a1), (1, .ref a2)]) hx hb dX12_copy_15 hl (k := 0) rfl (nI_1 (i)) (by decide) rfl (fun ls hl => ?_)
        refine lv_goto (tgt := 2) hx hb dX12_copy_18 (by decide) ?_
        exact ih (i + 1) hlt (by omega) _ _ _ hP hD hS ls (lv_sub hl [0, 1, 2] rfl)
      · have hie : i = 3567 := Nat.le_antisymm hi hge
        subst hie
        refine lv_iload_n hx hb dX12_copy_2 rfl (lv_at hl 0 rfl) ?_
        refine lv_sipush (v := 3567) hx hb dX12_copy_3 (by decide) ?_
        refine lv_icmp_ge (tgt := 21) hx hb dX12_copy_6 (by decide) (fun _ => ?_) (fun h9 => absurd (Int32.le_refl _) h9)
        refine W.widen (k := 0) (n := 0) (by first | exact Nat.le_of_ble_eq_true rfl | omega) (by first | exact Nat.le_of_ble_eq_true rfl | omega) ?_
        exact W.vret hx hb hr (fun t ht hW => ⟨⟨(), rfl, trivial, trivial⟩, hS.F ht⟩) hS.2.2 dX12_copy_21
  exact lp (3567 + 1) 0 (Nat.zero_le _) (by omega) _ _ _ hP hD hS ls (lv_sub hl [0, 1, 2] rfl)
set_option maxHeartbeats 4000000 in
set_option maxRecDepth 100000 in
theorem c_X12_here (l : Launch) (G : va_G) (cy : Nat → ClassId) (sk : Nat → Nat) (sz : Nat) (mo : Nat) (nw : Nat) (nk : Nat) (na : Nat) (fd : Nat) (ea : Nat) (so : Nat) (nd : Nat) (cd : Nat) (nmd : Nat) (pl : Nat) (tl : Nat) (fr_ : Nat) (rw_ : Nat) (brw : Nat) (po : Nat) (trc : Nat) (wi : Nat) (sz_ : Nat) (nu : Nat) (ca : Nat) (v_images : Int32) (v_unseen : Int32) (v_at : Int32) (v_use : Int32) (v_open : Int32) (v_told : Int32) (v_isWrong : Int32) (v_coded : Int32) (v_bestMany : Int32) (v_bestMinutes : Int32) (v_traced : Int32) (v_speaker : Int32) (v_isParted : Int32) (f : Nat → Int32) (h4 : f 4 = 0) : Met l yX12_here (wsO yX12_here cX12_here 1 (some .int)) ({ frames := 0, cells := 0, slots := 0, locals := 0 }) (va_Pc [.ref mo] (PR G cy sk sz [(mo, .inr (12, [.ref nw, .ref nk, .ref na, .int v_images, .ref fd, .ref ea, .ref so, .int v_unseen, .ref nd, .int 0, .int v_use, .int v_open, .int v_told, .int v_isWrong, .int v_coded, .ref cd, .ref nmd, .ref pl, .ref tl, .ref fr_, .ref rw_, .ref brw, .int v_bestMany, .int v_bestMinutes, .ref po, .ref trc, .int v_traced, .int v_speaker, .int v_isParted, .ref wi, .ref sz_, .ref nu, .ref ca])), (nw, .inl (cy 0, 3567, .inl f))])) (vp_Si (fun r => r = (-1))) 0 0 (fun _ => False) := by
  refine mt (by decide) (Nat.le_of_ble_eq_true rfl) ?_
  intro p e s m below meth c ls hx hb hr hml hts hown hlocks hin hsz hP hE hD hl
  subst hsz
  have hl : lv_has ls 1 [(0, .ref mo)] := hl
  refine lv_aload_n hx hb dX12_here_0 rfl (lv_at hl 0 rfl) ?_
  refine va_get (D := G) (ci := 12) (v := .int v_isWrong) (C := RX12) (T := TX12) (N := 33) hx hb hts inB12 hown hE.1 hP 0 rfl rfl 13 (by decide) (hts _ m_1336) (fun _ h9 => h9) rfl dX12_here_1 ?_
  refine lv_if_ne (tgt := 51) hx hb dX12_here_4 (by decide) (fun c_1 => ?_) (fun c_1 => ?_)
  · refine lv_aload_n hx hb dX12_here_51 rfl (lv_at hl 0 rfl) ?_
    refine va_get (D := G) (ci := 12) (v := .int v_isWrong) (C := RX12) (T := TX12) (N := 33) hx hb hts inB12 hown hE.1 hP 0 rfl rfl 13 (by decide) (hts _ m_1336) (fun _ h9 => h9) rfl dX12_here_52 ?_
    refine lv_if_ne (tgt := 87) hx hb dX12_here_55 (by decide) (fun _ => ?_) (fun h9 => absurd h9 c_1)
    refine lv_iconst (v := (-1)) hx hb dX12_here_87 (by decide) ?_
    exact W.iret (v := (-1)) hx hb hr (fun t ht hW => ⟨(-1), rfl, rfl, ht⟩) (fun _ h => by cases h) dX12_here_88
  · refine lv_aload_n hx hb dX12_here_7 rfl (lv_at hl 0 rfl) ?_
    refine va_get (D := G) (ci := 12) (v := .int 0) (C := RX12) (T := TX12) (N := 33) hx hb hts inB12 hown hE.1 hP 0 rfl rfl 9 (by decide) (hts _ m_1332) (fun _ h9 => h9) rfl dX12_here_8 ?_
    refine lv_aload_n hx hb dX12_here_11 rfl (lv_at hl 0 rfl) ?_
    refine va_get (D := G) (ci := 12) (v := .ref nw) (C := RX12) (T := TX12) (N := 33) hx hb hts inB12 hown hE.1 hP 0 rfl rfl 0 (by decide) (hts _ m_1323) (fun _ h9 => h9) rfl dX12_here_12 ?_
    refine lv_iconst (v := 4) hx hb dX12_here_15 (by decide) ?_
    refine va_iald hx hb hE.1 hP 1 0 rfl rfl (vinL (by decide)) dX12_here_16 ?_
    refine tp (v := 0) h4 ?_
    refine lv_icmp_ge (tgt := 51) hx hb dX12_here_17 (by decide) (fun _ => ?_) (fun h9 => absurd h9 (by decide))
    refine lv_aload_n hx hb dX12_here_51 rfl (lv_at hl 0 rfl) ?_
    refine va_get (D := G) (ci := 12) (v := .int v_isWrong) (C := RX12) (T := TX12) (N := 33) hx hb hts inB12 hown hE.1 hP 0 rfl rfl 13 (by decide) (hts _ m_1336) (fun _ h9 => h9) rfl dX12_here_52 ?_
    refine lv_if_ne (tgt := 87) hx hb dX12_here_55 (by decide) (fun h9 => absurd c_1 h9) (fun _ => ?_)
    refine lv_aload_n hx hb dX12_here_58 rfl (lv_at hl 0 rfl) ?_
    refine va_get (D := G) (ci := 12) (v := .int 0) (C := RX12) (T := TX12) (N := 33) hx hb hts inB12 hown hE.1 hP 0 rfl rfl 9 (by decide) (hts _ m_1332) (fun _ h9 => h9) rfl dX12_here_59 ?_
    refine lv_aload_n hx hb dX12_here_62 rfl (lv_at hl 0 rfl) ?_
    refine va_get (D := G) (ci := 12) (v := .ref nw) (C := RX12) (T := TX12) (N := 33) hx hb hts inB12 hown hE.1 hP 0 rfl rfl 0 (by decide) (hts _ m_1323) (fun _ h9 => h9) rfl dX12_here_63 ?_
    refine lv_iconst (v := 4) hx hb dX12_here_66 (by decide) ?_
    refine va_iald hx hb hE.1 hP 1 0 rfl rfl (vinL (by decide)) dX12_here_67 ?_
    refine tp (v := 0) h4 ?_
    refine lv_icmp_ge (tgt := 87) hx hb dX12_here_68 (by decide) (fun _ => ?_) (fun h9 => absurd h9 (by decide))
    refine lv_iconst (v := (-1)) hx hb dX12_here_87 (by decide) ?_
    exact W.iret (v := (-1)) hx hb hr (fun t ht hW => ⟨(-1), rfl, rfl, ht⟩) (fun _ h => by cases h) dX12_here_88
def B_c_X12_takes (G : va_G) (cy : Nat → ClassId) (A : Nat → Prop) (mo : Nat) (nw : Nat) (nk : Nat) (na : Nat) (fd : Nat) (ea : Nat) (so : Nat) (nd : Nat) (cd : Nat) (nmd : Nat) (pl : Nat) (tl : Nat) (fr_ : Nat) (rw_ : Nat) (brw : Nat) (po : Nat) (trc : Nat) (wi : Nat) (sz_ : Nat) (nu : Nat) (ca : Nat) (v_images : Int32) (v_unseen : Int32) (v_at : Int32) (v_use : Int32) (v_open : Int32) (v_told : Int32) (v_isWrong : Int32) (v_coded : Int32) (v_bestMany : Int32) (v_bestMinutes : Int32) (v_traced : Int32) (v_speaker : Int32) (v_isParted : Int32) (f : Nat → Int32) (cc : Int32) (H : Heap) : Prop := va_P G classes [(mo, .inr (12, [.ref nw, .ref nk, .ref na, .int v_images, .ref fd, .ref ea, .ref so, .int v_unseen, .ref nd, .int 0, .int v_use, .int v_open, .int v_told, .int v_isWrong, .int v_coded, .ref cd, .ref nmd, .ref pl, .ref tl, .ref fr_, .ref rw_, .ref brw, .int v_bestMany, .int v_bestMinutes, .ref po, .ref trc, .int v_traced, .int v_speaker, .int v_isParted, .ref wi, .ref sz_, .ref nu, .ref ca])), (nw, .inl (cy 0, 3567, .inl f))] H ∧ va_D A [(mo, .inr (12, [.ref nw, .ref nk, .ref na, .int v_images, .ref fd, .ref ea, .ref so, .int v_unseen, .ref nd, .int 0, .int v_use, .int v_open, .int v_told, .int v_isWrong, .int v_coded, .ref cd, .ref nmd, .ref pl, .ref tl, .ref fr_, .ref rw_, .ref brw, .int v_bestMany, .int v_bestMinutes, .ref po, .ref trc, .int v_traced, .int v_speaker, .int v_isParted, .ref wi, .ref sz_, .ref nu, .ref ca])), (nw, .inl (cy 0, 3567, .inl f))]
set_option maxHeartbeats 4000000 in
set_option maxRecDepth 100000 in
theorem c_X12_takes (l : Launch) (G : va_G) (cy : Nat → ClassId) (sk : Nat → Nat) (sz : Nat) (mo : Nat) (nw : Nat) (nk : Nat) (na : Nat) (fd : Nat) (ea : Nat) (so : Nat) (nd : Nat) (cd : Nat) (nmd : Nat) (pl : Nat) (tl : Nat) (fr_ : Nat) (rw_ : Nat) (brw : Nat) (po : Nat) (trc : Nat) (wi : Nat) (sz_ : Nat) (nu : Nat) (ca : Nat) (v_images : Int32) (v_unseen : Int32) (v_at : Int32) (v_use : Int32) (v_open : Int32) (v_told : Int32) (v_isWrong : Int32) (v_coded : Int32) (v_bestMany : Int32) (v_bestMinutes : Int32) (v_traced : Int32) (v_speaker : Int32) (v_isParted : Int32) (f : Nat → Int32) (cc : Int32) (h4 : f 4 = 0) (hc : ¬ (-1) = cc) : Met l yX12_takes (wsO yX12_takes cX12_takes 3 (some .boolean)) ({ frames := 1, cells := 0, slots := 0, locals := 20 }) (va_Pc [.ref mo, .int cc] (PR G cy sk sz [(mo, .inr (12, [.ref nw, .ref nk, .ref na, .int v_images, .ref fd, .ref ea, .ref so, .int v_unseen, .ref nd, .int 0, .int v_use, .int v_open, .int v_told, .int v_isWrong, .int v_coded, .ref cd, .ref nmd, .ref pl, .ref tl, .ref fr_, .ref rw_, .ref brw, .int v_bestMany, .int v_bestMinutes, .ref po, .ref trc, .int v_traced, .int v_speaker, .int v_isParted, .ref wi, .ref sz_, .ref nu, .ref ca])), (nw, .inl (cy 0, 3567, .inl f))])) (va_Qi (fun r (_ : Unit) => r = 0) (fun _ t => B_c_X12_takes G cy (va_A [(mo, .inr (12, [.ref nw, .ref nk, .ref na, .int v_images, .ref fd, .ref ea, .ref so, .int v_unseen, .ref nd, .int 0, .int v_use, .int v_open, .int v_told, .int v_isWrong, .int v_coded, .ref cd, .ref nmd, .ref pl, .ref tl, .ref fr_, .ref rw_, .ref brw, .int v_bestMany, .int v_bestMinutes, .ref po, .ref trc, .int v_traced, .int v_speaker, .int v_isParted, .ref wi, .ref sz_, .ref nu, .ref ca])), (nw, .inl (cy 0, 3567, .inl f))] sz) mo nw nk na fd ea so nd cd nmd pl tl fr_ rw_ brw po trc wi sz_ nu ca v_images v_unseen v_at v_use v_open v_told v_isWrong v_coded v_bestMany v_bestMinutes v_traced v_speaker v_isParted f cc t.heap) (va_A [(mo, .inr (12, [.ref nw, .ref nk, .ref na, .int v_images, .ref fd, .ref ea, .ref so, .int v_unseen, .ref nd, .int 0, .int v_use, .int v_open, .int v_told, .int v_isWrong, .int v_coded, .ref cd, .ref nmd, .ref pl, .ref tl, .ref fr_, .ref rw_, .ref brw, .int v_bestMany, .int v_bestMinutes, .ref po, .ref trc, .int v_traced, .int v_speaker, .int v_isParted, .ref wi, .ref sz_, .ref nu, .ref ca])), (nw, .inl (cy 0, 3567, .inl f))] sz)) 0 0 (va_A [(mo, .inr (12, [.ref nw, .ref nk, .ref na, .int v_images, .ref fd, .ref ea, .ref so, .int v_unseen, .ref nd, .int 0, .int v_use, .int v_open, .int v_told, .int v_isWrong, .int v_coded, .ref cd, .ref nmd, .ref pl, .ref tl, .ref fr_, .ref rw_, .ref brw, .int v_bestMany, .int v_bestMinutes, .ref po, .ref trc, .int v_traced, .int v_speaker, .int v_isParted, .ref wi, .ref sz_, .ref nu, .ref ca])), (nw, .inl (cy 0, 3567, .inl f))] sz) := by
  refine mt (by decide) (Nat.le_of_ble_eq_true rfl) ?_
  intro p e s m below meth c ls hx hb hr hml hts hown hlocks hin hsz hP hE hD hl
  subst hsz
  have hl : lv_has ls 3 [(0, .ref mo), (1, .int cc)] := hl
  have hD := hD.self (sz := s.heap.size)
  generalize hAe : va_A [(mo, .inr (12, [.ref nw, .ref nk, .ref na, .int v_images, .ref fd, .ref ea, .ref so, .int v_unseen, .ref nd, .int 0, .int v_use, .int v_open, .int v_told, .int v_isWrong, .int v_coded, .ref cd, .ref nmd, .ref pl, .ref tl, .ref fr_, .ref rw_, .ref brw, .int v_bestMany, .int v_bestMinutes, .ref po, .ref trc, .int v_traced, .int v_speaker, .int v_isParted, .ref wi, .ref sz_, .ref nu, .ref ca])), (nw, .inl (cy 0, 3567, .inl f))] s.heap.size = A at hD ⊢
  have hA : ∀ q : Nat, s.heap.size ≤ q → A q := fun q h => by rw [← hAe]; exact Or.inr h
  have hS : va_S A s.heap s.heap [] := va_S.rf
  refine lv_aload_n hx hb dX12_takes_0 rfl (lv_at hl 0 rfl) ?_
  refine rV (rest := []) hx hb hml hown hts hE (c_X12_here l G cy sk s.heap.size mo nw nk na fd ea so nd cd nmd pl tl fr_ rw_ brw po trc wi sz_ nu ca v_images v_unseen 0 v_use v_open v_told v_isWrong v_coded v_bestMany v_bestMinutes v_traced v_speaker v_isParted f h4) kV_X12_here m_1575 rfl rfl ⟨(Nat.le_of_ble_eq_true rfl), (Nat.le_of_ble_eq_true rfl)⟩ hP hD 0 rfl rfl rfl [0, 1] rfl rfl rfl rfl hl.1 (Nat.le_of_ble_eq_true rfl) dX12_takes_1 ⟨(Nat.le_of_ble_eq_true rfl), (Nat.le_of_ble_eq_true rfl)⟩ (fun r_1 hr_ => ?_)
  subst hr_
  refine lv_iload_n hx hb dX12_takes_4 rfl (lv_at hl 1 rfl) ?_
  refine lv_icmp_ne (tgt := 12) hx hb dX12_takes_5 (by decide) (fun _ => ?_) (fun h9 => absurd h9 hc)
  refine lv_iconst (v := 0) hx hb dX12_takes_12 (by decide) ?_
  refine lv_istore_n (lv' := [(2, .int 0), (0, .ref mo), (1, .int cc)]) hx hb dX12_takes_13 rfl hl (by decide) rfl (fun ls hl => ?_)
  refine lv_aload_n hx hb dX12_takes_14 rfl (lv_at hl 1 rfl) ?_
  refine lv_dup hx hb dX12_takes_15 rfl ?_
  refine va_get (D := G) (ci := 12) (v := .int 0) (C := RX12) (T := TX12) (N := 33) hx hb hts inB12 hown hE.1 hP 0 rfl rfl 9 (by decide) (hts _ m_1332) (fun _ h9 => h9) rfl dX12_takes_16 ?_
  refine lv_iload_n hx hb dX12_takes_19 rfl (lv_at hl 0 rfl) ?_
  refine lv_if_eq (tgt := 27) hx hb dX12_takes_20 (by decide) (fun _ => ?_) (fun h9 => absurd h9 (by decide))
  refine lv_iconst (v := 0) hx hb dX12_takes_27 (by decide) ?_
  refine lv_iadd hx hb dX12_takes_28 ?_
  refine tp (v := 0) (by decide) ?_
  refine va_put (D := G) (ci := 12) (v := .int 0) (ty := .int) (C := RX12) (T := TX12) (N := 33) hx hb hts inB12 tyX12 tyX12_ok nmX12 hown hE.1 hP hD hS 0 rfl rfl 9 (by decide) (hts _ m_1332) (fun _ h9 => h9) rfl (by decide +kernel) rfl rfl (Nat.le_of_ble_eq_true rfl) dX12_takes_29 (fun H locs hP hD hS => ?_)
  have hP : va_P G classes [(mo, .inr (12, [.ref nw, .ref nk, .ref na, .int v_images, .ref fd, .ref ea, .ref so, .int v_unseen, .ref nd, .int 0, .int v_use, .int v_open, .int v_told, .int v_isWrong, .int v_coded, .ref cd, .ref nmd, .ref pl, .ref tl, .ref fr_, .ref rw_, .ref brw, .int v_bestMany, .int v_bestMinutes, .ref po, .ref trc, .int v_traced, .int v_speaker, .int v_isParted, .ref wi, .ref sz_, .ref nu, .ref ca])), (nw, .inl (cy 0, 3567, .inl f))] H := hP
  have hD : va_D A [(mo, .inr (12, [.ref nw, .ref nk, .ref na, .int v_images, .ref fd, .ref ea, .ref so, .int v_unseen, .ref nd, .int 0, .int v_use, .int v_open, .int v_told, .int v_isWrong, .int v_coded, .ref cd, .ref nmd, .ref pl, .ref tl, .ref fr_, .ref rw_, .ref brw, .int v_bestMany, .int v_bestMinutes, .ref po, .ref trc, .int v_traced, .int v_speaker, .int v_isParted, .ref wi, .ref sz_, .ref nu, .ref ca])), (nw, .inl (cy 0, 3567, .inl f))] := hD
  refine lv_iload_n hx hb dX12_takes_32 rfl (lv_at hl 0 rfl) ?_
  have hP9 := P_cut (wc := [(mo, .inr (12, [.ref nw, .ref nk, .ref na, .int v_images, .ref fd, .ref ea, .ref so, .int v_unseen, .ref nd, .int 0, .int v_use, .int v_open, .int v_told, .int v_isWrong, .int v_coded, .ref cd, .ref nmd, .ref pl, .ref tl, .ref fr_, .ref rw_, .ref brw, .int v_bestMany, .int v_bestMinutes, .ref po, .ref trc, .int v_traced, .int v_speaker, .int v_isParted, .ref wi, .ref sz_, .ref nu, .ref ca])), (nw, .inl (cy 0, 3567, .inl f))]) hP [0, 1] rfl
  have hD9 := hD.sub (ws' := [(mo, .inr (12, [.ref nw, .ref nk, .ref na, .int v_images, .ref fd, .ref ea, .ref so, .int v_unseen, .ref nd, .int 0, .int v_use, .int v_open, .int v_told, .int v_isWrong, .int v_coded, .ref cd, .ref nmd, .ref pl, .ref tl, .ref fr_, .ref rw_, .ref brw, .int v_bestMany, .int v_bestMinutes, .ref po, .ref trc, .int v_traced, .int v_speaker, .int v_isParted, .ref wi, .ref sz_, .ref nu, .ref ca])), (nw, .inl (cy 0, 3567, .inl f))]) [0, 1] (by decide) rfl
  refine W.widen (k := 0) (n := 0) (by first | exact Nat.le_of_ble_eq_true rfl | omega) (by first | exact Nat.le_of_ble_eq_true rfl | omega) ?_
  exact W.zret (v := 0) hx hb hr rfl (fun t ht hW => ⟨⟨0, (), rfl, rfl, by dsimp only; rw [ht]; exact ⟨hP9, hD9⟩⟩, hS.F ht⟩) hS.2.2 dX12_takes_33
