theorem lf_c_X12_sheet_0 (ash : Int32) (ab : Int32) (an : Int32) (h_2 : inR ash 0 3) (c_3 : ab = 0) : (1 : Int32) = (F_sheet ash ab an) := by first | (simp only [F_sheet, *, and_true, true_and, and_false, false_and, if_true, if_false]; done) | (simp [F_sheet, *]; done) | (unfold F_sheet; simp_all; done) | (simp only [← Int32.not_lt] at *; simp [F_sheet, *]; done) | (subst_vars; simp only [← Int32.not_lt] at *; simp [F_sheet, *]; done)
theorem lf_c_X12_sheet_1 (ash : Int32) (ab : Int32) (an : Int32) (h_2 : inR ash 0 3) (c_3 : ¬ ab = 0) (c_4 : ab = 8) (c_5 : 0 ≤ an) (c_6 : an ≤ 24) : (1 : Int32) = (F_sheet ash ab an) := by first | (simp only [F_sheet, *, and_true, true_and, and_false, false_and, if_true, if_false]; done) | (simp [F_sheet, *]; done) | (unfold F_sheet; simp_all; done) | (simp only [← Int32.not_lt] at *; simp [F_sheet, *]; done) | (subst_vars; simp only [← Int32.not_lt] at *; simp [F_sheet, *]; done)
theorem lf_c_X12_sheet_2 (ash : Int32) (ab : Int32) (an : Int32) (h_2 : inR ash 0 3) (c_3 : ¬ ab = 0) (c_4 : ab = 8) (c_5 : 0 ≤ an) (c_6 : ¬ an ≤ 24) : ((-1000001) : Int32) = (F_sheet ash ab an) := by first | (simp only [F_sheet, *, and_true, true_and, and_false, false_and, if_true, if_false]; done) | (simp [F_sheet, *]; done) | (unfold F_sheet; simp_all; done) | (simp only [← Int32.not_lt] at *; simp [F_sheet, *]; done) | (subst_vars; simp only [← Int32.not_lt] at *; simp [F_sheet, *]; done)
theorem lf_c_X12_sheet_3 (ash : Int32) (ab : Int32) (an : Int32) (h_2 : inR ash 0 3) (c_3 : ¬ ab = 0) (c_4 : ab = 8) (c_5 : ¬ 0 ≤ an) : ((-1000003) : Int32) = (F_sheet ash ab an) := by first | (simp only [F_sheet, *, and_true, true_and, and_false, false_and, if_true, if_false]; done) | (simp [F_sheet, *]; done) | (unfold F_sheet; simp_all; done) | (simp only [← Int32.not_lt] at *; simp [F_sheet, *]; done) | (subst_vars; simp only [← Int32.not_lt] at *; simp [F_sheet, *]; done)
theorem lf_c_X12_sheet_4 (ash : Int32) (ab : Int32) (an : Int32) (h_2 : inR ash 0 3) (c_3 : ¬ ab = 0) (c_4 : ¬ ab = 8) (c_9 : ab = 16) (c_10 : 0 ≤ an) (c_11 : an ≤ 24) : (1 : Int32) = (F_sheet ash ab an) := by first | (simp only [F_sheet, *, and_true, true_and, and_false, false_and, if_true, if_false]; done) | (simp [F_sheet, *]; done) | (unfold F_sheet; simp_all; done) | (simp only [← Int32.not_lt] at *; simp [F_sheet, *]; done) | (subst_vars; simp only [← Int32.not_lt] at *; simp [F_sheet, *]; done)
theorem lf_c_X12_sheet_5 (ash : Int32) (ab : Int32) (an : Int32) (h_2 : inR ash 0 3) (c_3 : ¬ ab = 0) (c_4 : ¬ ab = 8) (c_9 : ab = 16) (c_10 : 0 ≤ an) (c_11 : ¬ an ≤ 24) : ((-1000001) : Int32) = (F_sheet ash ab an) := by first | (simp only [F_sheet, *, and_true, true_and, and_false, false_and, if_true, if_false]; done) | (simp [F_sheet, *]; done) | (unfold F_sheet; simp_all; done) | (simp only [← Int32.not_lt] at *; simp [F_sheet, *]; done) | (subst_vars; simp only [← Int32.not_lt] at *; simp [F_sheet, *]; done)
theorem lf_c_X12_sheet_6 (ash : Int32) (ab : Int32) (an : Int32) (h_2 : inR ash 0 3) (c_3 : ¬ ab = 0) (c_4 : ¬ ab = 8) (c_9 : ab = 16) (c_10 : ¬ 0 ≤ an) : ((-1000003) : Int32) = (F_sheet ash ab an) := by first | (simp only [F_sheet, *, and_true, true_and, and_false, false_and, if_true, if_false]; done) | (simp [F_sheet, *]; done) | (unfold F_sheet; simp_all; done) | (simp only [← Int32.not_lt] at *; simp [F_sheet, *]; done) | (subst_vars; simp only [← Int32.not_lt] at *; simp [F_sheet, *]; done)
theorem lf_c_X12_sheet_7 (ash : Int32) (ab : Int32) (an : Int32) (h_2 : inR ash 0 3) (c_3 : ¬ ab = 0) (c_4 : ¬ ab = 8) (c_9 : ¬ ab = 16) (c_14 : ab = 32) (c_15 : 0 ≤ an) (c_16 : an ≤ 24) : (1 : Int32) = (F_sheet ash ab an) := by first | (simp only [F_sheet, *, and_true, true_and, and_false, false_and, if_true, if_false]; done) | (simp [F_sheet, *]; done) | (unfold F_sheet; simp_all; done) | (simp only [← Int32.not_lt] at *; simp [F_sheet, *]; done) | (subst_vars; simp only [← Int32.not_lt] at *; simp [F_sheet, *]; done)
theorem lf_c_X12_sheet_8 (ash : Int32) (ab : Int32) (an : Int32) (h_2 : inR ash 0 3) (c_3 : ¬ ab = 0) (c_4 : ¬ ab = 8) (c_9 : ¬ ab = 16) (c_14 : ab = 32) (c_15 : 0 ≤ an) (c_16 : ¬ an ≤ 24) : ((-1000001) : Int32) = (F_sheet ash ab an) := by first | (simp only [F_sheet, *, and_true, true_and, and_false, false_and, if_true, if_false]; done) | (simp [F_sheet, *]; done) | (unfold F_sheet; simp_all; done) | (simp only [← Int32.not_lt] at *; simp [F_sheet, *]; done) | (subst_vars; simp only [← Int32.not_lt] at *; simp [F_sheet, *]; done)
theorem lf_c_X12_sheet_9 (ash : Int32) (ab : Int32) (an : Int32) (h_2 : inR ash 0 3) (c_3 : ¬ ab = 0) (c_4 : ¬ ab = 8) (c_9 : ¬ ab = 16) (c_14 : ab = 32) (c_15 : ¬ 0 ≤ an) : ((-1000003) : Int32) = (F_sheet ash ab an) := by first | (simp only [F_sheet, *, and_true, true_and, and_false, false_and, if_true, if_false]; done) | (simp [F_sheet, *]; done) | (unfold F_sheet; simp_all; done) | (simp only [← Int32.not_lt] at *; simp [F_sheet, *]; done) | (subst_vars; simp only [← Int32.not_lt] at *; simp [F_sheet, *]; done)
theorem lf_c_X12_sheet_10 (ash : Int32) (ab : Int32) (an : Int32) (h_2 : inR ash 0 3) (c_3 : ¬ ab = 0) (c_4 : ¬ ab = 8) (c_9 : ¬ ab = 16) (c_14 : ¬ ab = 32) : ((-1000001) : Int32) = (F_sheet ash ab an) := by first | (simp only [F_sheet, *, and_true, true_and, and_false, false_and, if_true, if_false]; done) | (simp [F_sheet, *]; done) | (unfold F_sheet; simp_all; done) | (simp only [← Int32.not_lt] at *; simp [F_sheet, *]; done) | (subst_vars; simp only [← Int32.not_lt] at *; simp [F_sheet, *]; done)
theorem lf_c_X12_sheet_11 (ash : Int32) (ab : Int32) (an : Int32) (h_2 : ¬ inR ash 0 3) : ((-1000001) : Int32) = (F_sheet ash ab an) := by first | (simp only [F_sheet, *, and_true, true_and, and_false, false_and, if_true, if_false]; done) | (simp [F_sheet, *]; done) | (unfold F_sheet; simp_all; done) | (simp only [← Int32.not_lt] at *; simp [F_sheet, *]; done) | (subst_vars; simp only [← Int32.not_lt] at *; simp [F_sheet, *]; done)
set_option maxHeartbeats 4000000 in
set_option maxRecDepth 100000 in
theorem c_X12_sheet (l : Launch) (G : va_G) (cy : Nat → ClassId) (sk : Nat → Nat) (sz : Nat) (mo : Nat) (nw : Nat) (nk : Nat) (na : Nat) (fd : Nat) (ea : Nat) (so : Nat) (nd : Nat) (cd : Nat) (nmd : Nat) (pl : Nat) (tl : Nat) (fr_ : Nat) (rw_ : Nat) (brw : Nat) (po : Nat) (trc : Nat) (wi : Nat) (sz_ : Nat) (nu : Nat) (ca : Nat) (ff : Nat → Int32) (ash : Int32) (ab : Int32) (an : Int32)  : Met l yX12_sheet (wsO yX12_sheet cX12_sheet 5 (some .int)) ({ frames := 2, cells := 0, slots := 0, locals := 42 }) (va_Pc [.ref mo, .int ash, .int ab, .int an] (PR G cy sk sz [(mo, .inr (12, [.ref nw, .ref nk, .ref na, .int 0, .ref fd, .ref ea, .ref so, .int (-1), .ref nd, .int 0, .int 0, .int 0, .int 0, .int 0, .int 0, .ref cd, .ref nmd, .ref pl, .ref tl, .ref fr_, .ref rw_, .ref brw, .int 0, .int 0, .ref po, .ref trc, .int 0, .int 0, .int 0, .ref wi, .ref sz_, .ref nu, .ref ca])), (nw, .inl (cy 0, 3567, .inl nw0)), (fd, .inl (cy 0, 7, .inl ff)), (wi, .inl (cy 0, 4, .inl (fun _ => 0))), (sz_, .inl (cy 0, 4, .inl (fun _ => 0))), (nu, .inl (cy 0, 96, .inl (fun _ => 0)))])) (va_Qi (fun r (_ : Unit) => r = (F_sheet ash ab an)) (fun _ _ => True) (va_A [(mo, .inr (12, [.ref nw, .ref nk, .ref na, .int 0, .ref fd, .ref ea, .ref so, .int (-1), .ref nd, .int 0, .int 0, .int 0, .int 0, .int 0, .int 0, .ref cd, .ref nmd, .ref pl, .ref tl, .ref fr_, .ref rw_, .ref brw, .int 0, .int 0, .ref po, .ref trc, .int 0, .int 0, .int 0, .ref wi, .ref sz_, .ref nu, .ref ca])), (nw, .inl (cy 0, 3567, .inl nw0)), (fd, .inl (cy 0, 7, .inl ff)), (wi, .inl (cy 0, 4, .inl (fun _ => 0))), (sz_, .inl (cy 0, 4, .inl (fun _ => 0))), (nu, .inl (cy 0, 96, .inl (fun _ => 0)))] sz)) 0 0 (va_A [(mo, .inr (12, [.ref nw, .ref nk, .ref na, .int 0, .ref fd, .ref ea, .ref so, .int (-1), .ref nd, .int 0, .int 0, .int 0, .int 0, .int 0, .int 0, .ref cd, .ref nmd, .ref pl, .ref tl, .ref fr_, .ref rw_, .ref brw, .int 0, .int 0, .ref po, .ref trc, .int 0, .int 0, .int 0, .ref wi, .ref sz_, .ref nu, .ref ca])), (nw, .inl (cy 0, 3567, .inl nw0)), (fd, .inl (cy 0, 7, .inl ff)), (wi, .inl (cy 0, 4, .inl (fun _ => 0))), (sz_, .inl (cy 0, 4, .inl (fun _ => 0))), (nu, .inl (cy 0, 96, .inl (fun _ => 0)))] sz) := by
  refine mt (by decide) (Nat.le_of_ble_eq_true rfl) ?_
  intro p e s m below meth c ls hx hb hr hml hts hown hlocks hin hsz hP hE hD hl
  subst hsz
  have hl : lv_has ls 5 [(0, .ref mo), (1, .int ash), (2, .int ab), (3, .int an)] := hl
  have hD := hD.self (sz := s.heap.size)
  generalize hAe : va_A [(mo, .inr (12, [.ref nw, .ref nk, .ref na, .int 0, .ref fd, .ref ea, .ref so, .int (-1), .ref nd, .int 0, .int 0, .int 0, .int 0, .int 0, .int 0, .ref cd, .ref nmd, .ref pl, .ref tl, .ref fr_, .ref rw_, .ref brw, .int 0, .int 0, .ref po, .ref trc, .int 0, .int 0, .int 0, .ref wi, .ref sz_, .ref nu, .ref ca])), (nw, .inl (cy 0, 3567, .inl nw0)), (fd, .inl (cy 0, 7, .inl ff)), (wi, .inl (cy 0, 4, .inl (fun _ => 0))), (sz_, .inl (cy 0, 4, .inl (fun _ => 0))), (nu, .inl (cy 0, 96, .inl (fun _ => 0)))] s.heap.size = A at hD ⊢
  have hA : ∀ q : Nat, s.heap.size ≤ q → A q := fun q h => by rw [← hAe]; exact Or.inr h
  have hS : va_S A s.heap s.heap [] := va_S.rf
  refine lv_iload_n hx hb dX12_sheet_0 rfl (lv_at hl 1 rfl) ?_
  refine rS (rest := []) hx hb hml hown hts hE (c_X12_isSheet l G cy sk s.heap.size ash) kS_X12_isSheet m_1497 rfl rfl ⟨(Nat.le_of_ble_eq_true rfl), (Nat.le_of_ble_eq_true rfl)⟩ hP hD [] rfl rfl rfl rfl hl.1 (Nat.le_of_ble_eq_true rfl) dX12_sheet_1 ⟨(Nat.le_of_ble_eq_true rfl), (Nat.le_of_ble_eq_true rfl)⟩ (fun r_1 hr_ => ?_)
  rcases hr_ with ⟨rfl, h_2⟩ | ⟨rfl, h_2⟩
  · refine lv_if_eq (tgt := 29) hx hb dX12_sheet_4 (by decide) (fun h9 => absurd h9 (by decide)) (fun _ => ?_)
    refine lv_iload_n hx hb dX12_sheet_7 rfl (lv_at hl 2 rfl) ?_
    refine lv_if_eq (tgt := 36) hx hb dX12_sheet_8 (by decide) (fun c_3 => ?_) (fun c_3 => ?_)
    · refine lv_iload_n hx hb dX12_sheet_36 rfl (lv_at hl 2 rfl) ?_
      refine lv_if_eq (tgt := 51) hx hb dX12_sheet_37 (by decide) (fun _ => ?_) (fun h9 => absurd c_3 h9)
      refine lv_iload_n hx hb dX12_sheet_51 rfl (lv_at hl 2 rfl) ?_
      refine lv_if_eq (tgt := 68) hx hb dX12_sheet_52 (by decide) (fun _ => ?_) (fun h9 => absurd c_3 h9)
      refine lv_aload_n hx hb dX12_sheet_68 rfl (lv_at hl 0 rfl) ?_
      refine va_get (D := G) (ci := 12) (v := .ref wi) (C := RX12) (T := TX12) (N := 33) hx hb hts inB12 hown hE.1 hP 0 rfl rfl 29 (by decide) (hts _ m_1352) (fun _ h9 => h9) rfl dX12_sheet_69 ?_
      refine lv_iload_n hx hb dX12_sheet_72 rfl (lv_at hl 1 rfl) ?_
      refine lv_iload_n hx hb dX12_sheet_73 rfl (lv_at hl 2 rfl) ?_
      refine va_iast hx hb hE.1 hP hD hS 3 0 rfl rfl (vinB h_2 (by decide) (by decide)) dX12_sheet_74 (fun H locs hP hD hS => ?_)
      have hP : va_P G classes [(mo, .inr (12, [.ref nw, .ref nk, .ref na, .int 0, .ref fd, .ref ea, .ref so, .int (-1), .ref nd, .int 0, .int 0, .int 0, .int 0, .int 0, .int 0, .ref cd, .ref nmd, .ref pl, .ref tl, .ref fr_, .ref rw_, .ref brw, .int 0, .int 0, .ref po, .ref trc, .int 0, .int 0, .int 0, .ref wi, .ref sz_, .ref nu, .ref ca])), (nw, .inl (cy 0, 3567, .inl nw0)), (fd, .inl (cy 0, 7, .inl ff)), (wi, .inl (cy 0, 4, .inl (upd (fun _ => 0) (ash).toNatClampNeg ab))), (sz_, .inl (cy 0, 4, .inl (fun _ => 0))), (nu, .inl (cy 0, 96, .inl (fun _ => 0)))] H := hP
      have hD : va_D A [(mo, .inr (12, [.ref nw, .ref nk, .ref na, .int 0, .ref fd, .ref ea, .ref so, .int (-1), .ref nd, .int 0, .int 0, .int 0, .int 0, .int 0, .int 0, .ref cd, .ref nmd, .ref pl, .ref tl, .ref fr_, .ref rw_, .ref brw, .int 0, .int 0, .ref po, .ref trc, .int 0, .int 0, .int 0, .ref wi, .ref sz_, .ref nu, .ref ca])), (nw, .inl (cy 0, 3567, .inl nw0)), (fd, .inl (cy 0, 7, .inl ff)), (wi, .inl (cy 0, 4, .inl (upd (fun _ => 0) (ash).toNatClampNeg ab))), (sz_, .inl (cy 0, 4, .inl (fun _ => 0))), (nu, .inl (cy 0, 96, .inl (fun _ => 0)))] := hD
      refine lv_aload_n hx hb dX12_sheet_75 rfl (lv_at hl 0 rfl) ?_
      refine va_get (D := G) (ci := 12) (v := .ref sz_) (C := RX12) (T := TX12) (N := 33) hx hb hts inB12 hown hE.1 hP 0 rfl rfl 30 (by decide) (hts _ m_1353) (fun _ h9 => h9) rfl dX12_sheet_76 ?_
      refine lv_iload_n hx hb dX12_sheet_79 rfl (lv_at hl 1 rfl) ?_
      refine lv_iload_n hx hb dX12_sheet_80 rfl (lv_at hl 2 rfl) ?_
      refine lv_if_ne (tgt := 88) hx hb dX12_sheet_81 (by decide) (fun h9 => absurd c_3 h9) (fun _ => ?_)
      refine lv_iconst (v := 0) hx hb dX12_sheet_84 (by decide) ?_
      refine lv_goto (tgt := 89) hx hb dX12_sheet_85 (by decide) ?_
      refine va_iast hx hb hE.1 hP hD hS 4 0 rfl rfl (vinB h_2 (by decide) (by decide)) dX12_sheet_89 (fun H locs hP hD hS => ?_)
      have hP : va_P G classes [(mo, .inr (12, [.ref nw, .ref nk, .ref na, .int 0, .ref fd, .ref ea, .ref so, .int (-1), .ref nd, .int 0, .int 0, .int 0, .int 0, .int 0, .int 0, .ref cd, .ref nmd, .ref pl, .ref tl, .ref fr_, .ref rw_, .ref brw, .int 0, .int 0, .ref po, .ref trc, .int 0, .int 0, .int 0, .ref wi, .ref sz_, .ref nu, .ref ca])), (nw, .inl (cy 0, 3567, .inl nw0)), (fd, .inl (cy 0, 7, .inl ff)), (wi, .inl (cy 0, 4, .inl (upd (fun _ => 0) (ash).toNatClampNeg ab))), (sz_, .inl (cy 0, 4, .inl (upd (fun _ => 0) (ash).toNatClampNeg 0))), (nu, .inl (cy 0, 96, .inl (fun _ => 0)))] H := hP
      have hD : va_D A [(mo, .inr (12, [.ref nw, .ref nk, .ref na, .int 0, .ref fd, .ref ea, .ref so, .int (-1), .ref nd, .int 0, .int 0, .int 0, .int 0, .int 0, .int 0, .ref cd, .ref nmd, .ref pl, .ref tl, .ref fr_, .ref rw_, .ref brw, .int 0, .int 0, .ref po, .ref trc, .int 0, .int 0, .int 0, .ref wi, .ref sz_, .ref nu, .ref ca])), (nw, .inl (cy 0, 3567, .inl nw0)), (fd, .inl (cy 0, 7, .inl ff)), (wi, .inl (cy 0, 4, .inl (upd (fun _ => 0) (ash).toNatClampNeg ab))), (sz_, .inl (cy 0, 4, .inl (upd (fun _ => 0) (ash).toNatClampNeg 0))), (nu, .inl (cy 0, 96, .inl (fun _ => 0)))] := hD
      refine lv_iconst (v := 0) hx hb dX12_sheet_90 (by decide) ?_
      refine lv_istore (lv' := [(4, .int 0), (0, .ref mo), (1, .int ash), (2, .int ab), (3, .int an)]) hx hb dX12_sheet_91 hl (by decide) rfl (fun ls hl => ?_)
      have lp : ∀ (nn i : Nat), i ≤ 24 → 24 + 1 ≤ i + nn → ∀ (gu : Nat → Int32), ∀ (H : Heap) (locs : List Loc), va_P G classes [(mo, .inr (12, [.ref nw, .ref nk, .ref na, .int 0, .ref fd, .ref ea, .ref so, .int (-1), .ref nd, .int 0, .int 0, .int 0, .int 0, .int 0, .int 0, .ref cd, .ref nmd, .ref pl, .ref tl, .ref fr_, .ref rw_, .ref brw, .int 0, .int 0, .ref po, .ref trc, .int 0, .int 0, .int 0, .ref wi, .ref sz_, .ref nu, .ref ca])), (nw, .inl (cy 0, 3567, .inl nw0)), (fd, .inl (cy 0, 7, .inl ff)), (wi, .inl (cy 0, 4, .inl (upd (fun _ => 0) (ash).toNatClampNeg ab))), (sz_, .inl (cy 0, 4, .inl (upd (fun _ => 0) (ash).toNatClampNeg 0))), (nu, .inl (cy 0, 96, .inl gu))] H → va_D A [(mo, .inr (12, [.ref nw, .ref nk, .ref na, .int 0, .ref fd, .ref ea, .ref so, .int (-1), .ref nd, .int 0, .int 0, .int 0, .int 0, .int 0, .int 0, .ref cd, .ref nmd, .ref pl, .ref tl, .ref fr_, .ref rw_, .ref brw, .int 0, .int 0, .ref po, .ref trc, .int 0, .int 0, .int 0, .ref wi, .ref sz_, .ref nu, .ref ca])), (nw, .inl (cy 0, 3567, .inl nw0)), (fd, .inl (cy 0, 7, .inl ff)), (wi, .inl (cy 0, 4, .inl (upd (fun _ => 0) (ash).toNatClampNeg ab))), (sz_, .inl (cy 0, 4, .inl (upd (fun _ => 0) (ash).toNatClampNeg 0))), (nu, .inl (cy 0, 96, .inl gu))] → va_S A s.heap H locs → ∀ (ls : Array Slot), lv_has ls 5 [(4, .int (nI i)), (0, .ref mo), (1, .int ash), (2, .int ab), (3, .int an)] → W p l e (headSpec (wsO yX12_sheet cX12_sheet 5 (some .int)) ({ frames := 2, cells := 0, slots := 0, locals := 42 })).room s m [.ref mo, .int ash, .int ab, .int an].toArray below meth c H locs 0 0 (MQ below (va_Qi (fun r (_ : Unit) => r = (F_sheet ash ab an)) (fun _ _ => True) A) [.ref mo, .int ash, .int ab, .int an].toArray s 0 0 A) (F0 m 93 ls []) := by
        intro nn
        induction nn with
        | zero => intro i h1 h2; exact absurd h2 (by omega)
        | succ nn ih =>
          intro i hi hin0 gu H locs hP hD hS ls hl
          rcases Nat.lt_or_ge i 24 with hlt | hge
          · refine lv_iload hx hb dX12_sheet_93 (lv_at hl 0 rfl) ?_
            refine lv_bipush (v := 24) hx hb dX12_sheet_95 (by decide) ?_
            refine lv_icmp_ge (tgt := 119) hx hb dX12_sheet_97 (by decide) (fun h9 => absurd h9 (nI_ge hlt (by decide))) (fun _ => ?_)
            refine lv_aload_n hx hb dX12_sheet_100 rfl (lv_at hl 1 rfl) ?_
            refine va_get (D := G) (ci := 12) (v := .ref nu) (C := RX12) (T := TX12) (N := 33) hx hb hts inB12 hown hE.1 hP 0 rfl rfl 31 (by decide) (hts _ m_1354) (fun _ h9 => h9) rfl dX12_sheet_101 ?_
            refine lv_bipush (v := 24) hx hb dX12_sheet_104 (by decide) ?_
            refine lv_iload_n hx hb dX12_sheet_106 rfl (lv_at hl 2 rfl) ?_
            refine lv_imul hx hb dX12_sheet_107 ?_
            refine lv_iload hx hb dX12_sheet_108 (lv_at hl 0 rfl) ?_
            refine lv_iadd hx hb dX12_sheet_110 ?_
            refine lv_iconst (v := 0) hx hb dX12_sheet_111 (by decide) ?_
            refine va_iast hx hb hE.1 hP hD hS 5 0 rfl rfl (vin96 h_2 hlt) dX12_sheet_112 (fun H locs hP hD hS => ?_)
            have hP : va_P G classes [(mo, .inr (12, [.ref nw, .ref nk, .ref na, .int 0, .ref fd, .ref ea, .ref so, .int (-1), .ref nd, .int 0, .int 0, .int 0, .int 0, .int 0, .int 0, .ref cd, .ref nmd, .ref pl, .ref tl, .ref fr_, .ref rw_, .ref brw, .int 0, .int 0, .ref po, .ref trc, .int 0, .int 0, .int 0, .ref wi, .ref sz_, .ref nu, .ref ca])), (nw, .inl (cy 0, 3567, .inl nw0)), (fd, .inl (cy 0, 7, .inl ff)), (wi, .inl (cy 0, 4, .inl (upd (fun _ => 0) (ash).toNatClampNeg ab))), (sz_, .inl (cy 0, 4, .inl (upd (fun _ => 0) (ash).toNatClampNeg 0))), (nu, .inl (cy 0, 96, .inl (upd gu (((24 * ash) + (nI i))).toNatClampNeg 0)))] H := hP
            have hD : va_D A [(mo, .inr (12, [.ref nw, .ref nk, .ref na, .int 0, .ref fd, .ref ea, .ref so, .int (-1), .ref nd, .int 0, .int 0, .int 0, .int 0, .int 0, .int 0, .ref cd, .ref nmd, .ref pl, .ref tl, .ref fr_, .ref rw_, .ref brw, .int 0, .int 0, .ref po, .ref trc, .int 0, .int 0, .int 0, .ref wi, .ref sz_, .ref nu, .ref ca])), (nw, .inl (cy 0, 3567, .inl nw0)), (fd, .inl (cy 0, 7, .inl ff)), (wi, .inl (cy 0, 4, .inl (upd (fun _ => 0) (ash).toNatClampNeg ab))), (sz_, .inl (cy 0, 4, .inl (upd (fun _ => 0) (ash).toNatClampNeg 0))), (nu, .inl (cy 0, 96, .inl (upd gu (((24 * ash) + (nI i))).toNatClampNeg 0)))] := hD
            refine lv_iinc (v := (nI (i + 1))) (lv' := [(4, .int (nI (i + 1))), (0, .ref mo), (1, .int ash), (2, .int ab), (3, .int an)]) hx hb dX12_sheet_113 hl (k := 0) rfl (nI_1 (i)) (by decide) rfl (fun ls hl => ?_)
            refine lv_goto (tgt := 93) hx hb dX12_sheet_116 (by decide) ?_
            exact ih (i + 1) hlt (by omega) _ _ _ hP hD hS ls (lv_sub hl [0, 1, 2, 3, 4] rfl)
          · have hie : i = 24 := Nat.le_antisymm hi hge
            subst hie
            refine lv_iload hx hb dX12_sheet_93 (lv_at hl 0 rfl) ?_
            refine lv_bipush (v := 24) hx hb dX12_sheet_95 (by decide) ?_
            refine lv_icmp_ge (tgt := 119) hx hb dX12_sheet_97 (by decide) (fun _ => ?_) (fun h9 => absurd (Int32.le_refl _) h9)
            refine lv_iconst (v := 1) hx hb dX12_sheet_119 (by decide) ?_
            refine W.widen (k := 0) (n := 0) (by first | exact Nat.le_of_ble_eq_true rfl | omega) (by first | exact Nat.le_of_ble_eq_true rfl | omega) ?_
            exact W.iret (v := 1) hx hb hr (fun t ht hW => ⟨⟨1, (), rfl, (lf_c_X12_sheet_0 ash ab an h_2 c_3), trivial⟩, hS.F ht⟩) hS.2.2 dX12_sheet_120
      exact lp (24 + 1) 0 (Nat.zero_le _) (by omega) _ _ _ hP hD hS ls (lv_sub hl [0, 1, 2, 3, 4] rfl)
    · refine lv_iload_n hx hb dX12_sheet_11 rfl (lv_at hl 2 rfl) ?_
      refine lv_bipush (v := 8) hx hb dX12_sheet_12 (by decide) ?_
      refine lv_icmp_eq (tgt := 36) hx hb dX12_sheet_14 (by decide) (fun c_4 => ?_) (fun c_4 => ?_)
      · refine lv_iload_n hx hb dX12_sheet_36 rfl (lv_at hl 2 rfl) ?_
        refine lv_if_eq (tgt := 51) hx hb dX12_sheet_37 (by decide) (fun h9 => absurd h9 c_3) (fun _ => ?_)
        refine lv_iload_n hx hb dX12_sheet_40 rfl (lv_at hl 3 rfl) ?_
        refine lv_if_ge (tgt := 51) hx hb dX12_sheet_41 (by decide) (fun c_5 => ?_) (fun c_5 => ?_)
        · refine lv_iload_n hx hb dX12_sheet_51 rfl (lv_at hl 2 rfl) ?_
          refine lv_if_eq (tgt := 68) hx hb dX12_sheet_52 (by decide) (fun h9 => absurd h9 c_3) (fun _ => ?_)
          refine lv_iload_n hx hb dX12_sheet_55 rfl (lv_at hl 3 rfl) ?_
          refine lv_bipush (v := 24) hx hb dX12_sheet_56 (by decide) ?_
          refine lv_icmp_le (tgt := 68) hx hb dX12_sheet_58 (by decide) (fun c_6 => ?_) (fun c_6 => ?_)
          · refine lv_aload_n hx hb dX12_sheet_68 rfl (lv_at hl 0 rfl) ?_
            refine va_get (D := G) (ci := 12) (v := .ref wi) (C := RX12) (T := TX12) (N := 33) hx hb hts inB12 hown hE.1 hP 0 rfl rfl 29 (by decide) (hts _ m_1352) (fun _ h9 => h9) rfl dX12_sheet_69 ?_
            refine lv_iload_n hx hb dX12_sheet_72 rfl (lv_at hl 1 rfl) ?_
            refine lv_iload_n hx hb dX12_sheet_73 rfl (lv_at hl 2 rfl) ?_
            refine va_iast hx hb hE.1 hP hD hS 3 0 rfl rfl (vinB h_2 (by decide) (by decide)) dX12_sheet_74 (fun H locs hP hD hS => ?_)
            have hP : va_P G classes [(mo, .inr (12, [.ref nw, .ref nk, .ref na, .int 0, .ref fd, .ref ea, .ref so, .int (-1), .ref nd, .int 0, .int 0, .int 0, .int 0, .int 0, .int 0, .ref cd, .ref nmd, .ref pl, .ref tl, .ref fr_, .ref rw_, .ref brw, .int 0, .int 0, .ref po, .ref trc, .int 0, .int 0, .int 0, .ref wi, .ref sz_, .ref nu, .ref ca])), (nw, .inl (cy 0, 3567, .inl nw0)), (fd, .inl (cy 0, 7, .inl ff)), (wi, .inl (cy 0, 4, .inl (upd (fun _ => 0) (ash).toNatClampNeg ab))), (sz_, .inl (cy 0, 4, .inl (fun _ => 0))), (nu, .inl (cy 0, 96, .inl (fun _ => 0)))] H := hP
            have hD : va_D A [(mo, .inr (12, [.ref nw, .ref nk, .ref na, .int 0, .ref fd, .ref ea, .ref so, .int (-1), .ref nd, .int 0, .int 0, .int 0, .int 0, .int 0, .int 0, .ref cd, .ref nmd, .ref pl, .ref tl, .ref fr_, .ref rw_, .ref brw, .int 0, .int 0, .ref po, .ref trc, .int 0, .int 0, .int 0, .ref wi, .ref sz_, .ref nu, .ref ca])), (nw, .inl (cy 0, 3567, .inl nw0)), (fd, .inl (cy 0, 7, .inl ff)), (wi, .inl (cy 0, 4, .inl (upd (fun _ => 0) (ash).toNatClampNeg ab))), (sz_, .inl (cy 0, 4, .inl (fun _ => 0))), (nu, .inl (cy 0, 96, .inl (fun _ => 0)))] := hD
            refine lv_aload_n hx hb dX12_sheet_75 rfl (lv_at hl 0 rfl) ?_
            refine va_get (D := G) (ci := 12) (v := .ref sz_) (C := RX12) (T := TX12) (N := 33) hx hb hts inB12 hown hE.1 hP 0 rfl rfl 30 (by decide) (hts _ m_1353) (fun _ h9 => h9) rfl dX12_sheet_76 ?_
            refine lv_iload_n hx hb dX12_sheet_79 rfl (lv_at hl 1 rfl) ?_
            refine lv_iload_n hx hb dX12_sheet_80 rfl (lv_at hl 2 rfl) ?_
            refine lv_if_ne (tgt := 88) hx hb dX12_sheet_81 (by decide) (fun _ => ?_) (fun h9 => absurd h9 c_3)
            refine lv_iload_n hx hb dX12_sheet_88 rfl (lv_at hl 3 rfl) ?_
            refine va_iast hx hb hE.1 hP hD hS 4 0 rfl rfl (vinB h_2 (by decide) (by decide)) dX12_sheet_89 (fun H locs hP hD hS => ?_)
            have hP : va_P G classes [(mo, .inr (12, [.ref nw, .ref nk, .ref na, .int 0, .ref fd, .ref ea, .ref so, .int (-1), .ref nd, .int 0, .int 0, .int 0, .int 0, .int 0, .int 0, .ref cd, .ref nmd, .ref pl, .ref tl, .ref fr_, .ref rw_, .ref brw, .int 0, .int 0, .ref po, .ref trc, .int 0, .int 0, .int 0, .ref wi, .ref sz_, .ref nu, .ref ca])), (nw, .inl (cy 0, 3567, .inl nw0)), (fd, .inl (cy 0, 7, .inl ff)), (wi, .inl (cy 0, 4, .inl (upd (fun _ => 0) (ash).toNatClampNeg ab))), (sz_, .inl (cy 0, 4, .inl (upd (fun _ => 0) (ash).toNatClampNeg an))), (nu, .inl (cy 0, 96, .inl (fun _ => 0)))] H := hP
            have hD : va_D A [(mo, .inr (12, [.ref nw, .ref nk, .ref na, .int 0, .ref fd, .ref ea, .ref so, .int (-1), .ref nd, .int 0, .int 0, .int 0, .int 0, .int 0, .int 0, .ref cd, .ref nmd, .ref pl, .ref tl, .ref fr_, .ref rw_, .ref brw, .int 0, .int 0, .ref po, .ref trc, .int 0, .int 0, .int 0, .ref wi, .ref sz_, .ref nu, .ref ca])), (nw, .inl (cy 0, 3567, .inl nw0)), (fd, .inl (cy 0, 7, .inl ff)), (wi, .inl (cy 0, 4, .inl (upd (fun _ => 0) (ash).toNatClampNeg ab))), (sz_, .inl (cy 0, 4, .inl (upd (fun _ => 0) (ash).toNatClampNeg an))), (nu, .inl (cy 0, 96, .inl (fun _ => 0)))] := hD
            refine lv_iconst (v := 0) hx hb dX12_sheet_90 (by decide) ?_
            refine lv_istore (lv' := [(4, .int 0), (0, .ref mo), (1, .int ash), (2, .int ab), (3, .int an)]) hx hb dX12_sheet_91 hl (by decide) rfl (fun ls hl => ?_)
            have lp : ∀ (nn i : Nat), i ≤ 24 → 24 + 1 ≤ i + nn → ∀ (gu : Nat → Int32), ∀ (H : Heap) (locs : List Loc), va_P G classes [(mo, .inr (12, [.ref nw, .ref nk, .ref na, .int 0, .ref fd, .ref ea, .ref so, .int (-1), .ref nd, .int 0, .int 0, .int 0, .int 0, .int 0, .int 0, .ref cd, .ref nmd, .ref pl, .ref tl, .ref fr_, .ref rw_, .ref brw, .int 0, .int 0, .ref po, .ref trc, .int 0, .int 0, .int 0, .ref wi, .ref sz_, .ref nu, .ref ca])), (nw, .inl (cy 0, 3567, .inl nw0)), (fd, .inl (cy 0, 7, .inl ff)), (wi, .inl (cy 0, 4, .inl (upd (fun _ => 0) (ash).toNatClampNeg ab))), (sz_, .inl (cy 0, 4, .inl (upd (fun _ => 0) (ash).toNatClampNeg an))), (nu, .inl (cy 0, 96, .inl gu))] H → va_D A [(mo, .inr (12, [.ref nw, .ref nk, .ref na, .int 0, .ref fd, .ref ea, .ref so, .int (-1), .ref nd, .int 0, .int 0, .int 0, .int 0, .int 0, .int 0, .ref cd, .ref nmd, .ref pl, .ref tl, .ref fr_, .ref rw_, .ref brw, .int 0, .int 0, .ref po, .ref trc, .int 0, .int 0, .int 0, .ref wi, .ref sz_, .ref nu, .ref ca])), (nw, .inl (cy 0, 3567, .inl nw0)), (fd, .inl (cy 0, 7, .inl ff)), (wi, .inl (cy 0, 4, .inl (upd (fun _ => 0) (ash).toNatClampNeg ab))), (sz_, .inl (cy 0, 4, .inl (upd (fun _ => 0) (ash).toNatClampNeg an))), (nu, .inl (cy 0, 96, .inl gu))] → va_S A s.heap H locs → ∀ (ls : Array Slot), lv_has ls 5 [(4, .int (nI i)), (0, .ref mo), (1, .int ash), (2, .int ab), (3, .int an)] → W p l e (headSpec (wsO yX12_sheet cX12_sheet 5 (some .int)) ({ frames := 2, cells := 0, slots := 0, locals := 42 })).room s m [.ref mo, .int ash, .int ab, .int an].toArray below meth c H locs 0 0 (MQ below (va_Qi (fun r (_ : Unit) => r = (F_sheet ash ab an)) (fun _ _ => True) A) [.ref mo, .int ash, .int ab, .int an].toArray s 0 0 A) (F0 m 93 ls []) := by
              intro nn
              induction nn with
              | zero => intro i h1 h2; exact absurd h2 (by omega)
              | succ nn ih =>
                intro i hi hin0 gu H locs hP hD hS ls hl
                rcases Nat.lt_or_ge i 24 with hlt | hge
                · refine lv_iload hx hb dX12_sheet_93 (lv_at hl 0 rfl) ?_
                  refine lv_bipush (v := 24) hx hb dX12_sheet_95 (by decide) ?_
                  refine lv_icmp_ge (tgt := 119) hx hb dX12_sheet_97 (by decide) (fun h9 => absurd h9 (nI_ge hlt (by decide))) (fun _ => ?_)
                  refine lv_aload_n hx hb dX12_sheet_100 rfl (lv_at hl 1 rfl) ?_
                  refine va_get (D := G) (ci := 12) (v := .ref nu) (C := RX12) (T := TX12) (N := 33) hx hb hts inB12 hown hE.1 hP 0 rfl rfl 31 (by decide) (hts _ m_1354) (fun _ h9 => h9) rfl dX12_sheet_101 ?_
                  refine lv_bipush (v := 24) hx hb dX12_sheet_104 (by decide) ?_
                  refine lv_iload_n hx hb dX12_sheet_106 rfl (lv_at hl 2 rfl) ?_
                  refine lv_imul hx hb dX12_sheet_107 ?_
                  refine lv_iload hx hb dX12_sheet_108 (lv_at hl 0 rfl) ?_
                  refine lv_iadd hx hb dX12_sheet_110 ?_
                  refine lv_iconst (v := 0) hx hb dX12_sheet_111 (by decide) ?_
                  refine va_iast hx hb hE.1 hP hD hS 5 0 rfl rfl (vin96 h_2 hlt) dX12_sheet_112 (fun H locs hP hD hS => ?_)
                  have hP : va_P G classes [(mo, .inr (12, [.ref nw, .ref nk, .ref na, .int 0, .ref fd, .ref ea, .ref so, .int (-1), .ref nd, .int 0, .int 0, .int 0, .int 0, .int 0, .int 0, .ref cd, .ref nmd, .ref pl, .ref tl, .ref fr_, .ref rw_, .ref brw, .int 0, .int 0, .ref po, .ref trc, .int 0, .int 0, .int 0, .ref wi, .ref sz_, .ref nu, .ref ca])), (nw, .inl (cy 0, 3567, .inl nw0)), (fd, .inl (cy 0, 7, .inl ff)), (wi, .inl (cy 0, 4, .inl (upd (fun _ => 0) (ash).toNatClampNeg ab))), (sz_, .inl (cy 0, 4, .inl (upd (fun _ => 0) (ash).toNatClampNeg an))), (nu, .inl (cy 0, 96, .inl (upd gu (((24 * ash) + (nI i))).toNatClampNeg 0)))] H := hP
                  have hD : va_D A [(mo, .inr (12, [.ref nw, .ref nk, .ref na, .int 0, .ref fd, .ref ea, .ref so, .int (-1), .ref nd, .int 0, .int 0, .int 0, .int 0, .int 0, .int 0, .ref cd, .ref nmd, .ref pl, .ref tl, .ref fr_, .ref rw_, .ref brw, .int 0, .int 0, .ref po, .ref trc, .int 0, .int 0, .int 0, .ref wi, .ref sz_, .ref nu, .ref ca])), (nw, .inl (cy 0, 3567, .inl nw0)), (fd, .inl (cy 0, 7, .inl ff)), (wi, .inl (cy 0, 4, .inl (upd (fun _ => 0) (ash).toNatClampNeg ab))), (sz_, .inl (cy 0, 4, .inl (upd (fun _ => 0) (ash).toNatClampNeg an))), (nu, .inl (cy 0, 96, .inl (upd gu (((24 * ash) + (nI i))).toNatClampNeg 0)))] := hD
                  refine lv_iinc (v := (nI (i + 1))) (lv' := [(4, .int (nI (i + 1))), (0, .ref mo), (1, .int ash), (2, .int ab), (3, .int an)]) hx hb dX12_sheet_113 hl (k := 0) rfl (nI_1 (i)) (by decide) rfl (fun ls hl => ?_)
                  refine lv_goto (tgt := 93) hx hb dX12_sheet_116 (by decide) ?_
                  exact ih (i + 1) hlt (by omega) _ _ _ hP hD hS ls (lv_sub hl [0, 1, 2, 3, 4] rfl)
                · have hie : i = 24 := Nat.le_antisymm hi hge
                  subst hie
                  refine lv_iload hx hb dX12_sheet_93 (lv_at hl 0 rfl) ?_
                  refine lv_bipush (v := 24) hx hb dX12_sheet_95 (by decide) ?_
                  refine lv_icmp_ge (tgt := 119) hx hb dX12_sheet_97 (by decide) (fun _ => ?_) (fun h9 => absurd (Int32.le_refl _) h9)
                  refine lv_iconst (v := 1) hx hb dX12_sheet_119 (by decide) ?_
                  refine W.widen (k := 0) (n := 0) (by first | exact Nat.le_of_ble_eq_true rfl | omega) (by first | exact Nat.le_of_ble_eq_true rfl | omega) ?_
                  exact W.iret (v := 1) hx hb hr (fun t ht hW => ⟨⟨1, (), rfl, (lf_c_X12_sheet_1 ash ab an h_2 c_3 c_4 c_5 c_6), trivial⟩, hS.F ht⟩) hS.2.2 dX12_sheet_120
            exact lp (24 + 1) 0 (Nat.zero_le _) (by omega) _ _ _ hP hD hS ls (lv_sub hl [0, 1, 2, 3, 4] rfl)
          · refine lv_aload_n hx hb dX12_sheet_61 rfl (lv_at hl 0 rfl) ?_
            refine lv_ldc (v := (-1000001)) hx hb hown (hts _ m_1433) dX12_sheet_62 ?_
            refine wV (B := (fun _ => True)) (wr := [(nw, .inl (cy 0, 3567, .inl nw0)), (wi, .inl (cy 0, 4, .inl (fun _ => 0))), (sz_, .inl (cy 0, 4, .inl (fun _ => 0))), (nu, .inl (cy 0, 96, .inl (fun _ => 0)))]) (rest := []) hx hb hml hown hts hE (c_X12_finding l G cy sk s.heap.size mo nw nk na fd ea so nd cd nmd pl tl fr_ rw_ brw po trc wi sz_ nu ca 0 (-1) 0 0 0 0 0 0 0 0 0 0 0 ff (-1000001) 1 (by decide) (vinL (by decide))) kV_X12_finding m_1434 rfl rfl ⟨(Nat.le_of_ble_eq_true rfl), (Nat.le_of_ble_eq_true rfl)⟩ hP hD hS hA 0 rfl rfl rfl [0, 2] [1, 3, 4, 5] rfl rfl rfl rfl (by decide) rfl rfl hl.1 (Nat.le_of_ble_eq_true rfl) dX12_sheet_64 ⟨(Nat.le_of_ble_eq_true rfl), (Nat.le_of_ble_eq_true rfl)⟩ (fun r_7 H locs hr_ haf hS => ?_)
            obtain ⟨-, -, hP, hD⟩ := haf
            have hP : va_P G classes [(nw, .inl (cy 0, 3567, .inl nw0)), (wi, .inl (cy 0, 4, .inl (fun _ => 0))), (sz_, .inl (cy 0, 4, .inl (fun _ => 0))), (nu, .inl (cy 0, 96, .inl (fun _ => 0)))] H := hP
            have hD : va_D A [(nw, .inl (cy 0, 3567, .inl nw0)), (wi, .inl (cy 0, 4, .inl (fun _ => 0))), (sz_, .inl (cy 0, 4, .inl (fun _ => 0))), (nu, .inl (cy 0, 96, .inl (fun _ => 0)))] := hD
            subst hr_
            refine W.widen (k := 0) (n := 0) (by first | exact Nat.le_of_ble_eq_true rfl | omega) (by first | exact Nat.le_of_ble_eq_true rfl | omega) ?_
            exact W.iret (v := (-1000001)) hx hb hr (fun t ht hW => ⟨⟨(-1000001), (), rfl, (lf_c_X12_sheet_2 ash ab an h_2 c_3 c_4 c_5 c_6), trivial⟩, hS.F ht⟩) hS.2.2 dX12_sheet_67
        · refine lv_aload_n hx hb dX12_sheet_44 rfl (lv_at hl 0 rfl) ?_
          refine lv_ldc (v := (-1000003)) hx hb hown (hts _ m_1455) dX12_sheet_45 ?_
          refine wV (B := (fun _ => True)) (wr := [(nw, .inl (cy 0, 3567, .inl nw0)), (wi, .inl (cy 0, 4, .inl (fun _ => 0))), (sz_, .inl (cy 0, 4, .inl (fun _ => 0))), (nu, .inl (cy 0, 96, .inl (fun _ => 0)))]) (rest := []) hx hb hml hown hts hE (c_X12_finding l G cy sk s.heap.size mo nw nk na fd ea so nd cd nmd pl tl fr_ rw_ brw po trc wi sz_ nu ca 0 (-1) 0 0 0 0 0 0 0 0 0 0 0 ff (-1000003) 3 (by decide) (vinL (by decide))) kV_X12_finding m_1434 rfl rfl ⟨(Nat.le_of_ble_eq_true rfl), (Nat.le_of_ble_eq_true rfl)⟩ hP hD hS hA 0 rfl rfl rfl [0, 2] [1, 3, 4, 5] rfl rfl rfl rfl (by decide) rfl rfl hl.1 (Nat.le_of_ble_eq_true rfl) dX12_sheet_47 ⟨(Nat.le_of_ble_eq_true rfl), (Nat.le_of_ble_eq_true rfl)⟩ (fun r_8 H locs hr_ haf hS => ?_)
          obtain ⟨-, -, hP, hD⟩ := haf
          have hP : va_P G classes [(nw, .inl (cy 0, 3567, .inl nw0)), (wi, .inl (cy 0, 4, .inl (fun _ => 0))), (sz_, .inl (cy 0, 4, .inl (fun _ => 0))), (nu, .inl (cy 0, 96, .inl (fun _ => 0)))] H := hP
          have hD : va_D A [(nw, .inl (cy 0, 3567, .inl nw0)), (wi, .inl (cy 0, 4, .inl (fun _ => 0))), (sz_, .inl (cy 0, 4, .inl (fun _ => 0))), (nu, .inl (cy 0, 96, .inl (fun _ => 0)))] := hD
          subst hr_
          refine W.widen (k := 0) (n := 0) (by first | exact Nat.le_of_ble_eq_true rfl | omega) (by first | exact Nat.le_of_ble_eq_true rfl | omega) ?_
          exact W.iret (v := (-1000003)) hx hb hr (fun t ht hW => ⟨⟨(-1000003), (), rfl, (lf_c_X12_sheet_3 ash ab an h_2 c_3 c_4 c_5), trivial⟩, hS.F ht⟩) hS.2.2 dX12_sheet_50
      · refine lv_iload_n hx hb dX12_sheet_17 rfl (lv_at hl 2 rfl) ?_
        refine lv_bipush (v := 16) hx hb dX12_sheet_18 (by decide) ?_
        refine lv_icmp_eq (tgt := 36) hx hb dX12_sheet_20 (by decide) (fun c_9 => ?_) (fun c_9 => ?_)
        · refine lv_iload_n hx hb dX12_sheet_36 rfl (lv_at hl 2 rfl) ?_
          refine lv_if_eq (tgt := 51) hx hb dX12_sheet_37 (by decide) (fun h9 => absurd h9 c_3) (fun _ => ?_)
          refine lv_iload_n hx hb dX12_sheet_40 rfl (lv_at hl 3 rfl) ?_
          refine lv_if_ge (tgt := 51) hx hb dX12_sheet_41 (by decide) (fun c_10 => ?_) (fun c_10 => ?_)
          · refine lv_iload_n hx hb dX12_sheet_51 rfl (lv_at hl 2 rfl) ?_
            refine lv_if_eq (tgt := 68) hx hb dX12_sheet_52 (by decide) (fun h9 => absurd h9 c_3) (fun _ => ?_)
            refine lv_iload_n hx hb dX12_sheet_55 rfl (lv_at hl 3 rfl) ?_
            refine lv_bipush (v := 24) hx hb dX12_sheet_56 (by decide) ?_
            refine lv_icmp_le (tgt := 68) hx hb dX12_sheet_58 (by decide) (fun c_11 => ?_) (fun c_11 => ?_)
            · refine lv_aload_n hx hb dX12_sheet_68 rfl (lv_at hl 0 rfl) ?_
              refine va_get (D := G) (ci := 12) (v := .ref wi) (C := RX12) (T := TX12) (N := 33) hx hb hts inB12 hown hE.1 hP 0 rfl rfl 29 (by decide) (hts _ m_1352) (fun _ h9 => h9) rfl dX12_sheet_69 ?_
              refine lv_iload_n hx hb dX12_sheet_72 rfl (lv_at hl 1 rfl) ?_
              refine lv_iload_n hx hb dX12_sheet_73 rfl (lv_at hl 2 rfl) ?_
              refine va_iast hx hb hE.1 hP hD hS 3 0 rfl rfl (vinB h_2 (by decide) (by decide)) dX12_sheet_74 (fun H locs hP hD hS => ?_)
              have hP : va_P G classes [(mo, .inr (12, [.ref nw, .ref nk, .ref na, .int 0, .ref fd, .ref ea, .ref so, .int (-1), .ref nd, .int 0, .int 0, .int 0, .int 0, .int 0, .int 0, .ref cd, .ref nmd, .ref pl, .ref tl, .ref fr_, .ref rw_, .ref brw, .int 0, .int 0, .ref po, .ref trc, .int 0, .int 0, .int 0, .ref wi, .ref sz_, .ref nu, .ref ca])), (nw, .inl (cy 0, 3567, .inl nw0)), (fd, .inl (cy 0, 7, .inl ff)), (wi, .inl (cy 0, 4, .inl (upd (fun _ => 0) (ash).toNatClampNeg ab))), (sz_, .inl (cy 0, 4, .inl (fun _ => 0))), (nu, .inl (cy 0, 96, .inl (fun _ => 0)))] H := hP
              have hD : va_D A [(mo, .inr (12, [.ref nw, .ref nk, .ref na, .int 0, .ref fd, .ref ea, .ref so, .int (-1), .ref nd, .int 0, .int 0, .int 0, .int 0, .int 0, .int 0, .ref cd, .ref nmd, .ref pl, .ref tl, .ref fr_, .ref rw_, .ref brw, .int 0, .int 0, .ref po, .ref trc, .int 0, .int 0, .int 0, .ref wi, .ref sz_, .ref nu, .ref ca])), (nw, .inl (cy 0, 3567, .inl nw0)), (fd, .inl (cy 0, 7, .inl ff)), (wi, .inl (cy 0, 4, .inl (upd (fun _ => 0) (ash).toNatClampNeg ab))), (sz_, .inl (cy 0, 4, .inl (fun _ => 0))), (nu, .inl (cy 0, 96, .inl (fun _ => 0)))] := hD
              refine lv_aload_n hx hb dX12_sheet_75 rfl (lv_at hl 0 rfl) ?_
              refine va_get (D := G) (ci := 12) (v := .ref sz_) (C := RX12) (T := TX12) (N := 33) hx hb hts inB12 hown hE.1 hP 0 rfl rfl 30 (by decide) (hts _ m_1353) (fun _ h9 => h9) rfl dX12_sheet_76 ?_
              refine lv_iload_n hx hb dX12_sheet_79 rfl (lv_at hl 1 rfl) ?_
              refine lv_iload_n hx hb dX12_sheet_80 rfl (lv_at hl 2 rfl) ?_
              refine lv_if_ne (tgt := 88) hx hb dX12_sheet_81 (by decide) (fun _ => ?_) (fun h9 => absurd h9 c_3)
              refine lv_iload_n hx hb dX12_sheet_88 rfl (lv_at hl 3 rfl) ?_
              refine va_iast hx hb hE.1 hP hD hS 4 0 rfl rfl (vinB h_2 (by decide) (by decide)) dX12_sheet_89 (fun H locs hP hD hS => ?_)
              have hP : va_P G classes [(mo, .inr (12, [.ref nw, .ref nk, .ref na, .int 0, .ref fd, .ref ea, .ref so, .int (-1), .ref nd, .int 0, .int 0, .int 0, .int 0, .int 0, .int 0, .ref cd, .ref nmd, .ref pl, .ref tl, .ref fr_, .ref rw_, .ref brw, .int 0, .int 0, .ref po, .ref trc, .int 0, .int 0, .int 0, .ref wi, .ref sz_, .ref nu, .ref ca])), (nw, .inl (cy 0, 3567, .inl nw0)), (fd, .inl (cy 0, 7, .inl ff)), (wi, .inl (cy 0, 4, .inl (upd (fun _ => 0) (ash).toNatClampNeg ab))), (sz_, .inl (cy 0, 4, .inl (upd (fun _ => 0) (ash).toNatClampNeg an))), (nu, .inl (cy 0, 96, .inl (fun _ => 0)))] H := hP
              have hD : va_D A [(mo, .inr (12, [.ref nw, .ref nk, .ref na, .int 0, .ref fd, .ref ea, .ref so, .int (-1), .ref nd, .int 0, .int 0, .int 0, .int 0, .int 0, .int 0, .ref cd, .ref nmd, .ref pl, .ref tl, .ref fr_, .ref rw_, .ref brw, .int 0, .int 0, .ref po, .ref trc, .int 0, .int 0, .int 0, .ref wi, .ref sz_, .ref nu, .ref ca])), (nw, .inl (cy 0, 3567, .inl nw0)), (fd, .inl (cy 0, 7, .inl ff)), (wi, .inl (cy 0, 4, .inl (upd (fun _ => 0) (ash).toNatClampNeg ab))), (sz_, .inl (cy 0, 4, .inl (upd (fun _ => 0) (ash).toNatClampNeg an))), (nu, .inl (cy 0, 96, .inl (fun _ => 0)))] := hD
              refine lv_iconst (v := 0) hx hb dX12_sheet_90 (by decide) ?_
              refine lv_istore (lv' := [(4, .int 0), (0, .ref mo), (1, .int ash), (2, .int ab), (3, .int an)]) hx hb dX12_sheet_91 hl (by decide) rfl (fun ls hl => ?_)
              have lp : ∀ (nn i : Nat), i ≤ 24 → 24 + 1 ≤ i + nn → ∀ (gu : Nat → Int32), ∀ (H : Heap) (locs : List Loc), va_P G classes [(mo, .inr (12, [.ref nw, .ref nk, .ref na, .int 0, .ref fd, .ref ea, .ref so, .int (-1), .ref nd, .int 0, .int 0, .int 0, .int 0, .int 0, .int 0, .ref cd, .ref nmd, .ref pl, .ref tl, .ref fr_, .ref rw_, .ref brw, .int 0, .int 0, .ref po, .ref trc, .int 0, .int 0, .int 0, .ref wi, .ref sz_, .ref nu, .ref ca])), (nw, .inl (cy 0, 3567, .inl nw0)), (fd, .inl (cy 0, 7, .inl ff)), (wi, .inl (cy 0, 4, .inl (upd (fun _ => 0) (ash).toNatClampNeg ab))), (sz_, .inl (cy 0, 4, .inl (upd (fun _ => 0) (ash).toNatClampNeg an))), (nu, .inl (cy 0, 96, .inl gu))] H → va_D A [(mo, .inr (12, [.ref nw, .ref nk, .ref na, .int 0, .ref fd, .ref ea, .ref so, .int (-1), .ref nd, .int 0, .int 0, .int 0, .int 0, .int 0, .int 0, .ref cd, .ref nmd, .ref pl, .ref tl, .ref fr_, .ref rw_, .ref brw, .int 0, .int 0, .ref po, .ref trc, .int 0, .int 0, .int 0, .ref wi, .ref sz_, .ref nu, .ref ca])), (nw, .inl (cy 0, 3567, .inl nw0)), (fd, .inl (cy 0, 7, .inl ff)), (wi, .inl (cy 0, 4, .inl (upd (fun _ => 0) (ash).toNatClampNeg ab))), (sz_, .inl (cy 0, 4, .inl (upd (fun _ => 0) (ash).toNatClampNeg an))), (nu, .inl (cy 0, 96, .inl gu))] → va_S A s.heap H locs → ∀ (ls : Array Slot), lv_has ls 5 [(4, .int (nI i)), (0, .ref mo), (1, .int ash), (2, .int ab), (3, .int an)] → W p l e (headSpec (wsO yX12_sheet cX12_sheet 5 (some .int)) ({ frames := 2, cells := 0, slots := 0, locals := 42 })).room s m [.ref mo, .int ash, .int ab, .int an].toArray below meth c H locs 0 0 (MQ below (va_Qi (fun r (_ : Unit) => r = (F_sheet ash ab an)) (fun _ _ => True) A) [.ref mo, .int ash, .int ab, .int an].toArray s 0 0 A) (F0 m 93 ls []) := by
                intro nn
                induction nn with
                | zero => intro i h1 h2; exact absurd h2 (by omega)
                | succ nn ih =>
                  intro i hi hin0 gu H locs hP hD hS ls hl
                  rcases Nat.lt_or_ge i 24 with hlt | hge
                  · refine lv_iload hx hb dX12_sheet_93 (lv_at hl 0 rfl) ?_
                    refine lv_bipush (v := 24) hx hb dX12_sheet_95 (by decide) ?_
                    refine lv_icmp_ge (tgt := 119) hx hb dX12_sheet_97 (by decide) (fun h9 => absurd h9 (nI_ge hlt (by decide))) (fun _ => ?_)
                    refine lv_aload_n hx hb dX12_sheet_100 rfl (lv_at hl 1 rfl) ?_
                    refine va_get (D := G) (ci := 12) (v := .ref nu) (C := RX12) (T := TX12) (N := 33) hx hb hts inB12 hown hE.1 hP 0 rfl rfl 31 (by decide) (hts _ m_1354) (fun _ h9 => h9) rfl dX12_sheet_101 ?_
                    refine lv_bipush (v := 24) hx hb dX12_sheet_104 (by decide) ?_
                    refine lv_iload_n hx hb dX12_sheet_106 rfl (lv_at hl 2 rfl) ?_
                    refine lv_imul hx hb dX12_sheet_107 ?_
                    refine lv_iload hx hb dX12_sheet_108 (lv_at hl 0 rfl) ?_
                    refine lv_iadd hx hb dX12_sheet_110 ?_
                    refine lv_iconst (v := 0) hx hb dX12_sheet_111 (by decide) ?_
                    refine va_iast hx hb hE.1 hP hD hS 5 0 rfl rfl (vin96 h_2 hlt) dX12_sheet_112 (fun H locs hP hD hS => ?_)
                    have hP : va_P G classes [(mo, .inr (12, [.ref nw, .ref nk, .ref na, .int 0, .ref fd, .ref ea, .ref so, .int (-1), .ref nd, .int 0, .int 0, .int 0, .int 0, .int 0, .int 0, .ref cd, .ref nmd, .ref pl, .ref tl, .ref fr_, .ref rw_, .ref brw, .int 0, .int 0, .ref po, .ref trc, .int 0, .int 0, .int 0, .ref wi, .ref sz_, .ref nu, .ref ca])), (nw, .inl (cy 0, 3567, .inl nw0)), (fd, .inl (cy 0, 7, .inl ff)), (wi, .inl (cy 0, 4, .inl (upd (fun _ => 0) (ash).toNatClampNeg ab))), (sz_, .inl (cy 0, 4, .inl (upd (fun _ => 0) (ash).toNatClampNeg an))), (nu, .inl (cy 0, 96, .inl (upd gu (((24 * ash) + (nI i))).toNatClampNeg 0)))] H := hP
                    have hD : va_D A [(mo, .inr (12, [.ref nw, .ref nk, .ref na, .int 0, .ref fd, .ref ea, .ref so, .int (-1), .ref nd, .int 0, .int 0, .int 0, .int 0, .int 0, .int 0, .ref cd, .ref nmd, .ref pl, .ref tl, .ref fr_, .ref rw_, .ref brw, .int 0, .int 0, .ref po, .ref trc, .int 0, .int 0, .int 0, .ref wi, .ref sz_, .ref nu, .ref ca])), (nw, .inl (cy 0, 3567, .inl nw0)), (fd, .inl (cy 0, 7, .inl ff)), (wi, .inl (cy 0, 4, .inl (upd (fun _ => 0) (ash).toNatClampNeg ab))), (sz_, .inl (cy 0, 4, .inl (upd (fun _ => 0) (ash).toNatClampNeg an))), (nu, .inl (cy 0, 96, .inl (upd gu (((24 * ash) + (nI i))).toNatClampNeg 0)))] := hD
                    refine lv_iinc (v := (nI (i + 1))) (lv' := [(4, .int (nI (i + 1))), (0, .ref mo), (1, .int ash), (2, .int ab), (3, .int an)]) hx hb dX12_sheet_113 hl (k := 0) rfl (nI_1 (i)) (by decide) rfl (fun ls hl => ?_)
                    refine lv_goto (tgt := 93) hx hb dX12_sheet_116 (by decide) ?_
                    exact ih (i + 1) hlt (by omega) _ _ _ hP hD hS ls (lv_sub hl [0, 1, 2, 3, 4] rfl)
                  · have hie : i = 24 := Nat.le_antisymm hi hge
                    subst hie
                    refine lv_iload hx hb dX12_sheet_93 (lv_at hl 0 rfl) ?_
                    refine lv_bipush (v := 24) hx hb dX12_sheet_95 (by decide) ?_
                    refine lv_icmp_ge (tgt := 119) hx hb dX12_sheet_97 (by decide) (fun _ => ?_) (fun h9 => absurd (Int32.le_refl _) h9)
                    refine lv_iconst (v := 1) hx hb dX12_sheet_119 (by decide) ?_
                    refine W.widen (k := 0) (n := 0) (by first | exact Nat.le_of_ble_eq_true rfl | omega) (by first | exact Nat.le_of_ble_eq_true rfl | omega) ?_
                    exact W.iret (v := 1) hx hb hr (fun t ht hW => ⟨⟨1, (), rfl, (lf_c_X12_sheet_4 ash ab an h_2 c_3 c_4 c_9 c_10 c_11), trivial⟩, hS.F ht⟩) hS.2.2 dX12_sheet_120
              exact lp (24 + 1) 0 (Nat.zero_le _) (by omega) _ _ _ hP hD hS ls (lv_sub hl [0, 1, 2, 3, 4] rfl)
            · refine lv_aload_n hx hb dX12_sheet_61 rfl (lv_at hl 0 rfl) ?_
              refine lv_ldc (v := (-1000001)) hx hb hown (hts _ m_1433) dX12_sheet_62 ?_
              refine wV (B := (fun _ => True)) (wr := [(nw, .inl (cy 0, 3567, .inl nw0)), (wi, .inl (cy 0, 4, .inl (fun _ => 0))), (sz_, .inl (cy 0, 4, .inl (fun _ => 0))), (nu, .inl (cy 0, 96, .inl (fun _ => 0)))]) (rest := []) hx hb hml hown hts hE (c_X12_finding l G cy sk s.heap.size mo nw nk na fd ea so nd cd nmd pl tl fr_ rw_ brw po trc wi sz_ nu ca 0 (-1) 0 0 0 0 0 0 0 0 0 0 0 ff (-1000001) 1 (by decide) (vinL (by decide))) kV_X12_finding m_1434 rfl rfl ⟨(Nat.le_of_ble_eq_true rfl), (Nat.le_of_ble_eq_true rfl)⟩ hP hD hS hA 0 rfl rfl rfl [0, 2] [1, 3, 4, 5] rfl rfl rfl rfl (by decide) rfl rfl hl.1 (Nat.le_of_ble_eq_true rfl) dX12_sheet_64 ⟨(Nat.le_of_ble_eq_true rfl), (Nat.le_of_ble_eq_true rfl)⟩ (fun r_12 H locs hr_ haf hS => ?_)
              obtain ⟨-, -, hP, hD⟩ := haf
              have hP : va_P G classes [(nw, .inl (cy 0, 3567, .inl nw0)), (wi, .inl (cy 0, 4, .inl (fun _ => 0))), (sz_, .inl (cy 0, 4, .inl (fun _ => 0))), (nu, .inl (cy 0, 96, .inl (fun _ => 0)))] H := hP
              have hD : va_D A [(nw, .inl (cy 0, 3567, .inl nw0)), (wi, .inl (cy 0, 4, .inl (fun _ => 0))), (sz_, .inl (cy 0, 4, .inl (fun _ => 0))), (nu, .inl (cy 0, 96, .inl (fun _ => 0)))] := hD
              subst hr_
              refine W.widen (k := 0) (n := 0) (by first | exact Nat.le_of_ble_eq_true rfl | omega) (by first | exact Nat.le_of_ble_eq_true rfl | omega) ?_
              exact W.iret (v := (-1000001)) hx hb hr (fun t ht hW => ⟨⟨(-1000001), (), rfl, (lf_c_X12_sheet_5 ash ab an h_2 c_3 c_4 c_9 c_10 c_11), trivial⟩, hS.F ht⟩) hS.2.2 dX12_sheet_67
          · refine lv_aload_n hx hb dX12_sheet_44 rfl (lv_at hl 0 rfl) ?_
            refine lv_ldc (v := (-1000003)) hx hb hown (hts _ m_1455) dX12_sheet_45 ?_
            refine wV (B := (fun _ => True)) (wr := [(nw, .inl (cy 0, 3567, .inl nw0)), (wi, .inl (cy 0, 4, .inl (fun _ => 0))), (sz_, .inl (cy 0, 4, .inl (fun _ => 0))), (nu, .inl (cy 0, 96, .inl (fun _ => 0)))]) (rest := []) hx hb hml hown hts hE (c_X12_finding l G cy sk s.heap.size mo nw nk na fd ea so nd cd nmd pl tl fr_ rw_ brw po trc wi sz_ nu ca 0 (-1) 0 0 0 0 0 0 0 0 0 0 0 ff (-1000003) 3 (by decide) (vinL (by decide))) kV_X12_finding m_1434 rfl rfl ⟨(Nat.le_of_ble_eq_true rfl), (Nat.le_of_ble_eq_true rfl)⟩ hP hD hS hA 0 rfl rfl rfl [0, 2] [1, 3, 4, 5] rfl rfl rfl rfl (by decide) rfl rfl hl.1 (Nat.le_of_ble_eq_true rfl) dX12_sheet_47 ⟨(Nat.le_of_ble_eq_true rfl), (Nat.le_of_ble_eq_true rfl)⟩ (fun r_13 H locs hr_ haf hS => ?_)
            obtain ⟨-, -, hP, hD⟩ := haf
            have hP : va_P G classes [(nw, .inl (cy 0, 3567, .inl nw0)), (wi, .inl (cy 0, 4, .inl (fun _ => 0))), (sz_, .inl (cy 0, 4, .inl (fun _ => 0))), (nu, .inl (cy 0, 96, .inl (fun _ => 0)))] H := hP
            have hD : va_D A [(nw, .inl (cy 0, 3567, .inl nw0)), (wi, .inl (cy 0, 4, .inl (fun _ => 0))), (sz_, .inl (cy 0, 4, .inl (fun _ => 0))), (nu, .inl (cy 0, 96, .inl (fun _ => 0)))] := hD
            subst hr_
            refine W.widen (k := 0) (n := 0) (by first | exact Nat.le_of_ble_eq_true rfl | omega) (by first | exact Nat.le_of_ble_eq_true rfl | omega) ?_
            exact W.iret (v := (-1000003)) hx hb hr (fun t ht hW => ⟨⟨(-1000003), (), rfl, (lf_c_X12_sheet_6 ash ab an h_2 c_3 c_4 c_9 c_10), trivial⟩, hS.F ht⟩) hS.2.2 dX12_sheet_50
        · refine lv_iload_n hx hb dX12_sheet_23 rfl (lv_at hl 2 rfl) ?_
          refine lv_bipush (v := 32) hx hb dX12_sheet_24 (by decide) ?_
          refine lv_icmp_eq (tgt := 36) hx hb dX12_sheet_26 (by decide) (fun c_14 => ?_) (fun c_14 => ?_)
          · refine lv_iload_n hx hb dX12_sheet_36 rfl (lv_at hl 2 rfl) ?_
            refine lv_if_eq (tgt := 51) hx hb dX12_sheet_37 (by decide) (fun h9 => absurd h9 c_3) (fun _ => ?_)
            refine lv_iload_n hx hb dX12_sheet_40 rfl (lv_at hl 3 rfl) ?_
            refine lv_if_ge (tgt := 51) hx hb dX12_sheet_41 (by decide) (fun c_15 => ?_) (fun c_15 => ?_)
            · refine lv_iload_n hx hb dX12_sheet_51 rfl (lv_at hl 2 rfl) ?_
              refine lv_if_eq (tgt := 68) hx hb dX12_sheet_52 (by decide) (fun h9 => absurd h9 c_3) (fun _ => ?_)
              refine lv_iload_n hx hb dX12_sheet_55 rfl (lv_at hl 3 rfl) ?_
              refine lv_bipush (v := 24) hx hb dX12_sheet_56 (by decide) ?_
              refine lv_icmp_le (tgt := 68) hx hb dX12_sheet_58 (by decide) (fun c_16 => ?_) (fun c_16 => ?_)
              · refine lv_aload_n hx hb dX12_sheet_68 rfl (lv_at hl 0 rfl) ?_
                refine va_get (D := G) (ci := 12) (v := .ref wi) (C := RX12) (T := TX12) (N := 33) hx hb hts inB12 hown hE.1 hP 0 rfl rfl 29 (by decide) (hts _ m_1352) (fun _ h9 => h9) rfl dX12_sheet_69 ?_
                refine lv_iload_n hx hb dX12_sheet_72 rfl (lv_at hl 1 rfl) ?_
                refine lv_iload_n hx hb dX12_sheet_73 rfl (lv_at hl 2 rfl) ?_
                refine va_iast hx hb hE.1 hP hD hS 3 0 rfl rfl (vinB h_2 (by decide) (by decide)) dX12_sheet_74 (fun H locs hP hD hS => ?_)
                have hP : va_P G classes [(mo, .inr (12, [.ref nw, .ref nk, .ref na, .int 0, .ref fd, .ref ea, .ref so, .int (-1), .ref nd, .int 0, .int 0, .int 0, .int 0, .int 0, .int 0, .ref cd, .ref nmd, .ref pl, .ref tl, .ref fr_, .ref rw_, .ref brw, .int 0, .int 0, .ref po, .ref trc, .int 0, .int 0, .int 0, .ref wi, .ref sz_, .ref nu, .ref ca])), (nw, .inl (cy 0, 3567, .inl nw0)), (fd, .inl (cy 0, 7, .inl ff)), (wi, .inl (cy 0, 4, .inl (upd (fun _ => 0) (ash).toNatClampNeg ab))), (sz_, .inl (cy 0, 4, .inl (fun _ => 0))), (nu, .inl (cy 0, 96, .inl (fun _ => 0)))] H := hP
                have hD : va_D A [(mo, .inr (12, [.ref nw, .ref nk, .ref na, .int 0, .ref fd, .ref ea, .ref so, .int (-1), .ref nd, .int 0, .int 0, .int 0, .int 0, .int 0, .int 0, .ref cd, .ref nmd, .ref pl, .ref tl, .ref fr_, .ref rw_, .ref brw, .int 0, .int 0, .ref po, .ref trc, .int 0, .int 0, .int 0, .ref wi, .ref sz_, .ref nu, .ref ca])), (nw, .inl (cy 0, 3567, .inl nw0)), (fd, .inl (cy 0, 7, .inl ff)), (wi, .inl (cy 0, 4, .inl (upd (fun _ => 0) (ash).toNatClampNeg ab))), (sz_, .inl (cy 0, 4, .inl (fun _ => 0))), (nu, .inl (cy 0, 96, .inl (fun _ => 0)))] := hD
                refine lv_aload_n hx hb dX12_sheet_75 rfl (lv_at hl 0 rfl) ?_
                refine va_get (D := G) (ci := 12) (v := .ref sz_) (C := RX12) (T := TX12) (N := 33) hx hb hts inB12 hown hE.1 hP 0 rfl rfl 30 (by decide) (hts _ m_1353) (fun _ h9 => h9) rfl dX12_sheet_76 ?_
                refine lv_iload_n hx hb dX12_sheet_79 rfl (lv_at hl 1 rfl) ?_
                refine lv_iload_n hx hb dX12_sheet_80 rfl (lv_at hl 2 rfl) ?_
                refine lv_if_ne (tgt := 88) hx hb dX12_sheet_81 (by decide) (fun _ => ?_) (fun h9 => absurd h9 c_3)
                refine lv_iload_n hx hb dX12_sheet_88 rfl (lv_at hl 3 rfl) ?_
                refine va_iast hx hb hE.1 hP hD hS 4 0 rfl rfl (vinB h_2 (by decide) (by decide)) dX12_sheet_89 (fun H locs hP hD hS => ?_)
                have hP : va_P G classes [(mo, .inr (12, [.ref nw, .ref nk, .ref na, .int 0, .ref fd, .ref ea, .ref so, .int (-1), .ref nd, .int 0, .int 0, .int 0, .int 0, .int 0, .int 0, .ref cd, .ref nmd, .ref pl, .ref tl, .ref fr_, .ref rw_, .ref brw, .int 0, .int 0, .ref po, .ref trc, .int 0, .int 0, .int 0, .ref wi, .ref sz_, .ref nu, .ref ca])), (nw, .inl (cy 0, 3567, .inl nw0)), (fd, .inl (cy 0, 7, .inl ff)), (wi, .inl (cy 0, 4, .inl (upd (fun _ => 0) (ash).toNatClampNeg ab))), (sz_, .inl (cy 0, 4, .inl (upd (fun _ => 0) (ash).toNatClampNeg an))), (nu, .inl (cy 0, 96, .inl (fun _ => 0)))] H := hP
                have hD : va_D A [(mo, .inr (12, [.ref nw, .ref nk, .ref na, .int 0, .ref fd, .ref ea, .ref so, .int (-1), .ref nd, .int 0, .int 0, .int 0, .int 0, .int 0, .int 0, .ref cd, .ref nmd, .ref pl, .ref tl, .ref fr_, .ref rw_, .ref brw, .int 0, .int 0, .ref po, .ref trc, .int 0, .int 0, .int 0, .ref wi, .ref sz_, .ref nu, .ref ca])), (nw, .inl (cy 0, 3567, .inl nw0)), (fd, .inl (cy 0, 7, .inl ff)), (wi, .inl (cy 0, 4, .inl (upd (fun _ => 0) (ash).toNatClampNeg ab))), (sz_, .inl (cy 0, 4, .inl (upd (fun _ => 0) (ash).toNatClampNeg an))), (nu, .inl (cy 0, 96, .inl (fun _ => 0)))] := hD
                refine lv_iconst (v := 0) hx hb dX12_sheet_90 (by decide) ?_
                refine lv_istore (lv' := [(4, .int 0), (0, .ref mo), (1, .int ash), (2, .int ab), (3, .int an)]) hx hb dX12_sheet_91 hl (by decide) rfl (fun ls hl => ?_)
                have lp : ∀ (nn i : Nat), i ≤ 24 → 24 + 1 ≤ i + nn → ∀ (gu : Nat → Int32), ∀ (H : Heap) (locs : List Loc), va_P G classes [(mo, .inr (12, [.ref nw, .ref nk, .ref na, .int 0, .ref fd, .ref ea, .ref so, .int (-1), .ref nd, .int 0, .int 0, .int 0, .int 0, .int 0, .int 0, .ref cd, .ref nmd, .ref pl, .ref tl, .ref fr_, .ref rw_, .ref brw, .int 0, .int 0, .ref po, .ref trc, .int 0, .int 0, .int 0, .ref wi, .ref sz_, .ref nu, .ref ca])), (nw, .inl (cy 0, 3567, .inl nw0)), (fd, .inl (cy 0, 7, .inl ff)), (wi, .inl (cy 0, 4, .inl (upd (fun _ => 0) (ash).toNatClampNeg ab))), (sz_, .inl (cy 0, 4, .inl (upd (fun _ => 0) (ash).toNatClampNeg an))), (nu, .inl (cy 0, 96, .inl gu))] H → va_D A [(mo, .inr (12, [.ref nw, .ref nk, .ref na, .int 0, .ref fd, .ref ea, .ref so, .int (-1), .ref nd, .int 0, .int 0, .int 0, .int 0, .int 0, .int 0, .ref cd, .ref nmd, .ref pl, .ref tl, .ref fr_, .ref rw_, .ref brw, .int 0, .int 0, .ref po, .ref trc, .int 0, .int 0, .int 0, .ref wi, .ref sz_, .ref nu, .ref ca])), (nw, .inl (cy 0, 3567, .inl nw0)), (fd, .inl (cy 0, 7, .inl ff)), (wi, .inl (cy 0, 4, .inl (upd (fun _ => 0) (ash).toNatClampNeg ab))), (sz_, .inl (cy 0, 4, .inl (upd (fun _ => 0) (ash).toNatClampNeg an))), (nu, .inl (cy 0, 96, .inl gu))] → va_S A s.heap H locs → ∀ (ls : Array Slot), lv_has ls 5 [(4, .int (nI i)), (0, .ref mo), (1, .int ash), (2, .int ab), (3, .int an)] → W p l e (headSpec (wsO yX12_sheet cX12_sheet 5 (some .int)) ({ frames := 2, cells := 0, slots := 0, locals := 42 })).room s m [.ref mo, .int ash, .int ab, .int an].toArray below meth c H locs 0 0 (MQ below (va_Qi (fun r (_ : Unit) => r = (F_sheet ash ab an)) (fun _ _ => True) A) [.ref mo, .int ash, .int ab, .int an].toArray s 0 0 A) (F0 m 93 ls []) := by
                  intro nn
                  induction nn with
                  | zero => intro i h1 h2; exact absurd h2 (by omega)
                  | succ nn ih =>
                    intro i hi hin0 gu H locs hP hD hS ls hl
                    rcases Nat.lt_or_ge i 24 with hlt | hge
                    · refine lv_iload hx hb dX12_sheet_93 (lv_at hl 0 rfl) ?_
                      refine lv_bipush (v := 24) hx hb dX12_sheet_95 (by decide) ?_
                      refine lv_icmp_ge (tgt := 119) hx hb dX12_sheet_97 (by decide) (fun h9 => absurd h9 (nI_ge hlt (by decide))) (fun _ => ?_)
                      refine lv_aload_n hx hb dX12_sheet_100 rfl (lv_at hl 1 rfl) ?_
                      refine va_get (D := G) (ci := 12) (v := .ref nu) (C := RX12) (T := TX12) (N := 33) hx hb hts inB12 hown hE.1 hP 0 rfl rfl 31 (by decide) (hts _ m_1354) (fun _ h9 => h9) rfl dX12_sheet_101 ?_
                      refine lv_bipush (v := 24) hx hb dX12_sheet_104 (by decide) ?_
                      refine lv_iload_n hx hb dX12_sheet_106 rfl (lv_at hl 2 rfl) ?_
                      refine lv_imul hx hb dX12_sheet_107 ?_
                      refine lv_iload hx hb dX12_sheet_108 (lv_at hl 0 rfl) ?_
                      refine lv_iadd hx hb dX12_sheet_110 ?_
                      refine lv_iconst (v := 0) hx hb dX12_sheet_111 (by decide) ?_
                      refine va_iast hx hb hE.1 hP hD hS 5 0 rfl rfl (vin96 h_2 hlt) dX12_sheet_112 (fun H locs hP hD hS => ?_)
                      have hP : va_P G classes [(mo, .inr (12, [.ref nw, .ref nk, .ref na, .int 0, .ref fd, .ref ea, .ref so, .int (-1), .ref nd, .int 0, .int 0, .int 0, .int 0, .int 0, .int 0, .ref cd, .ref nmd, .ref pl, .ref tl, .ref fr_, .ref rw_, .ref brw, .int 0, .int 0, .ref po, .ref trc, .int 0, .int 0, .int 0, .ref wi, .ref sz_, .ref nu, .ref ca])), (nw, .inl (cy 0, 3567, .inl nw0)), (fd, .inl (cy 0, 7, .inl ff)), (wi, .inl (cy 0, 4, .inl (upd (fun _ => 0) (ash).toNatClampNeg ab))), (sz_, .inl (cy 0, 4, .inl (upd (fun _ => 0) (ash).toNatClampNeg an))), (nu, .inl (cy 0, 96, .inl (upd gu (((24 * ash) + (nI i))).toNatClampNeg 0)))] H := hP
                      have hD : va_D A [(mo, .inr (12, [.ref nw, .ref nk, .ref na, .int 0, .ref fd, .ref ea, .ref so, .int (-1), .ref nd, .int 0, .int 0, .int 0, .int 0, .int 0, .int 0, .ref cd, .ref nmd, .ref pl, .ref tl, .ref fr_, .ref rw_, .ref brw, .int 0, .int 0, .ref po, .ref trc, .int 0, .int 0, .int 0, .ref wi, .ref sz_, .ref nu, .ref ca])), (nw, .inl (cy 0, 3567, .inl nw0)), (fd, .inl (cy 0, 7, .inl ff)), (wi, .inl (cy 0, 4, .inl (upd (fun _ => 0) (ash).toNatClampNeg ab))), (sz_, .inl (cy 0, 4, .inl (upd (fun _ => 0) (ash).toNatClampNeg an))), (nu, .inl (cy 0, 96, .inl (upd gu (((24 * ash) + (nI i))).toNatClampNeg 0)))] := hD
                      refine lv_iinc (v := (nI (i + 1))) (lv' := [(4, .int (nI (i + 1))), (0, .ref mo), (1, .int ash), (2, .int ab), (3, .int an)]) hx hb dX12_sheet_113 hl (k := 0) rfl (nI_1 (i)) (by decide) rfl (fun ls hl => ?_)
                      refine lv_goto (tgt := 93) hx hb dX12_sheet_116 (by decide) ?_
                      exact ih (i + 1) hlt (by omega) _ _ _ hP hD hS ls (lv_sub hl [0, 1, 2, 3, 4] rfl)
                    · have hie : i = 24 := Nat.le_antisymm hi hge
                      subst hie
                      refine lv_iload hx hb dX12_sheet_93 (lv_at hl 0 rfl) ?_
                      refine lv_bipush (v := 24) hx hb dX12_sheet_95 (by decide) ?_
                      refine lv_icmp_ge (tgt := 119) hx hb dX12_sheet_97 (by decide) (fun _ => ?_) (fun h9 => absurd (Int32.le_refl _) h9)
                      refine lv_iconst (v := 1) hx hb dX12_sheet_119 (by decide) ?_
                      refine W.widen (k := 0) (n := 0) (by first | exact Nat.le_of_ble_eq_true rfl | omega) (by first | exact Nat.le_of_ble_eq_true rfl | omega) ?_
                      exact W.iret (v := 1) hx hb hr (fun t ht hW => ⟨⟨1, (), rfl, (lf_c_X12_sheet_7 ash ab an h_2 c_3 c_4 c_9 c_14 c_15 c_16), trivial⟩, hS.F ht⟩) hS.2.2 dX12_sheet_120
                exact lp (24 + 1) 0 (Nat.zero_le _) (by omega) _ _ _ hP hD hS ls (lv_sub hl [0, 1, 2, 3, 4] rfl)
              · refine lv_aload_n hx hb dX12_sheet_61 rfl (lv_at hl 0 rfl) ?_
                refine lv_ldc (v := (-1000001)) hx hb hown (hts _ m_1433) dX12_sheet_62 ?_
                refine wV (B := (fun _ => True)) (wr := [(nw, .inl (cy 0, 3567, .inl nw0)), (wi, .inl (cy 0, 4, .inl (fun _ => 0))), (sz_, .inl (cy 0, 4, .inl (fun _ => 0))), (nu, .inl (cy 0, 96, .inl (fun _ => 0)))]) (rest := []) hx hb hml hown hts hE (c_X12_finding l G cy sk s.heap.size mo nw nk na fd ea so nd cd nmd pl tl fr_ rw_ brw po trc wi sz_ nu ca 0 (-1) 0 0 0 0 0 0 0 0 0 0 0 ff (-1000001) 1 (by decide) (vinL (by decide))) kV_X12_finding m_1434 rfl rfl ⟨(Nat.le_of_ble_eq_true rfl), (Nat.le_of_ble_eq_true rfl)⟩ hP hD hS hA 0 rfl rfl rfl [0, 2] [1, 3, 4, 5] rfl rfl rfl rfl (by decide) rfl rfl hl.1 (Nat.le_of_ble_eq_true rfl) dX12_sheet_64 ⟨(Nat.le_of_ble_eq_true rfl), (Nat.le_of_ble_eq_true rfl)⟩ (fun r_17 H locs hr_ haf hS => ?_)
                obtain ⟨-, -, hP, hD⟩ := haf
                have hP : va_P G classes [(nw, .inl (cy 0, 3567, .inl nw0)), (wi, .inl (cy 0, 4, .inl (fun _ => 0))), (sz_, .inl (cy 0, 4, .inl (fun _ => 0))), (nu, .inl (cy 0, 96, .inl (fun _ => 0)))] H := hP
                have hD : va_D A [(nw, .inl (cy 0, 3567, .inl nw0)), (wi, .inl (cy 0, 4, .inl (fun _ => 0))), (sz_, .inl (cy 0, 4, .inl (fun _ => 0))), (nu, .inl (cy 0, 96, .inl (fun _ => 0)))] := hD
                subst hr_
                refine W.widen (k := 0) (n := 0) (by first | exact Nat.le_of_ble_eq_true rfl | omega) (by first | exact Nat.le_of_ble_eq_true rfl | omega) ?_
                exact W.iret (v := (-1000001)) hx hb hr (fun t ht hW => ⟨⟨(-1000001), (), rfl, (lf_c_X12_sheet_8 ash ab an h_2 c_3 c_4 c_9 c_14 c_15 c_16), trivial⟩, hS.F ht⟩) hS.2.2 dX12_sheet_67
            · refine lv_aload_n hx hb dX12_sheet_44 rfl (lv_at hl 0 rfl) ?_
              refine lv_ldc (v := (-1000003)) hx hb hown (hts _ m_1455) dX12_sheet_45 ?_
              refine wV (B := (fun _ => True)) (wr := [(nw, .inl (cy 0, 3567, .inl nw0)), (wi, .inl (cy 0, 4, .inl (fun _ => 0))), (sz_, .inl (cy 0, 4, .inl (fun _ => 0))), (nu, .inl (cy 0, 96, .inl (fun _ => 0)))]) (rest := []) hx hb hml hown hts hE (c_X12_finding l G cy sk s.heap.size mo nw nk na fd ea so nd cd nmd pl tl fr_ rw_ brw po trc wi sz_ nu ca 0 (-1) 0 0 0 0 0 0 0 0 0 0 0 ff (-1000003) 3 (by decide) (vinL (by decide))) kV_X12_finding m_1434 rfl rfl ⟨(Nat.le_of_ble_eq_true rfl), (Nat.le_of_ble_eq_true rfl)⟩ hP hD hS hA 0 rfl rfl rfl [0, 2] [1, 3, 4, 5] rfl rfl rfl rfl (by decide) rfl rfl hl.1 (Nat.le_of_ble_eq_true rfl) dX12_sheet_47 ⟨(Nat.le_of_ble_eq_true rfl), (Nat.le_of_ble_eq_true rfl)⟩ (fun r_18 H locs hr_ haf hS => ?_)
              obtain ⟨-, -, hP, hD⟩ := haf
              have hP : va_P G classes [(nw, .inl (cy 0, 3567, .inl nw0)), (wi, .inl (cy 0, 4, .inl (fun _ => 0))), (sz_, .inl (cy 0, 4, .inl (fun _ => 0))), (nu, .inl (cy 0, 96, .inl (fun _ => 0)))] H := hP
              have hD : va_D A [(nw, .inl (cy 0, 3567, .inl nw0)), (wi, .inl (cy 0, 4, .inl (fun _ => 0))), (sz_, .inl (cy 0, 4, .inl (fun _ => 0))), (nu, .inl (cy 0, 96, .inl (fun _ => 0)))] := hD
              subst hr_
              refine W.widen (k := 0) (n := 0) (by first | exact Nat.le_of_ble_eq_true rfl | omega) (by first | exact Nat.le_of_ble_eq_true rfl | omega) ?_
              exact W.iret (v := (-1000003)) hx hb hr (fun t ht hW => ⟨⟨(-1000003), (), rfl, (lf_c_X12_sheet_9 ash ab an h_2 c_3 c_4 c_9 c_14 c_15), trivial⟩, hS.F ht⟩) hS.2.2 dX12_sheet_50
          · refine lv_aload_n hx hb dX12_sheet_29 rfl (lv_at hl 0 rfl) ?_
            refine lv_ldc (v := (-1000001)) hx hb hown (hts _ m_1433) dX12_sheet_30 ?_
            refine wV (B := (fun _ => True)) (wr := [(nw, .inl (cy 0, 3567, .inl nw0)), (wi, .inl (cy 0, 4, .inl (fun _ => 0))), (sz_, .inl (cy 0, 4, .inl (fun _ => 0))), (nu, .inl (cy 0, 96, .inl (fun _ => 0)))]) (rest := []) hx hb hml hown hts hE (c_X12_finding l G cy sk s.heap.size mo nw nk na fd ea so nd cd nmd pl tl fr_ rw_ brw po trc wi sz_ nu ca 0 (-1) 0 0 0 0 0 0 0 0 0 0 0 ff (-1000001) 1 (by decide) (vinL (by decide))) kV_X12_finding m_1434 rfl rfl ⟨(Nat.le_of_ble_eq_true rfl), (Nat.le_of_ble_eq_true rfl)⟩ hP hD hS hA 0 rfl rfl rfl [0, 2] [1, 3, 4, 5] rfl rfl rfl rfl (by decide) rfl rfl hl.1 (Nat.le_of_ble_eq_true rfl) dX12_sheet_32 ⟨(Nat.le_of_ble_eq_true rfl), (Nat.le_of_ble_eq_true rfl)⟩ (fun r_19 H locs hr_ haf hS => ?_)
            obtain ⟨-, -, hP, hD⟩ := haf
            have hP : va_P G classes [(nw, .inl (cy 0, 3567, .inl nw0)), (wi, .inl (cy 0, 4, .inl (fun _ => 0))), (sz_, .inl (cy 0, 4, .inl (fun _ => 0))), (nu, .inl (cy 0, 96, .inl (fun _ => 0)))] H := hP
            have hD : va_D A [(nw, .inl (cy 0, 3567, .inl nw0)), (wi, .inl (cy 0, 4, .inl (fun _ => 0))), (sz_, .inl (cy 0, 4, .inl (fun _ => 0))), (nu, .inl (cy 0, 96, .inl (fun _ => 0)))] := hD
            subst hr_
            refine W.widen (k := 0) (n := 0) (by first | exact Nat.le_of_ble_eq_true rfl | omega) (by first | exact Nat.le_of_ble_eq_true rfl | omega) ?_
            exact W.iret (v := (-1000001)) hx hb hr (fun t ht hW => ⟨⟨(-1000001), (), rfl, (lf_c_X12_sheet_10 ash ab an h_2 c_3 c_4 c_9 c_14), trivial⟩, hS.F ht⟩) hS.2.2 dX12_sheet_35
  · refine lv_if_eq (tgt := 29) hx hb dX12_sheet_4 (by decide) (fun _ => ?_) (fun h9 => absurd h9 (by decide))
    refine lv_aload_n hx hb dX12_sheet_29 rfl (lv_at hl 0 rfl) ?_
    refine lv_ldc (v := (-1000001)) hx hb hown (hts _ m_1433) dX12_sheet_30 ?_
    refine wV (B := (fun _ => True)) (wr := [(nw, .inl (cy 0, 3567, .inl nw0)), (wi, .inl (cy 0, 4, .inl (fun _ => 0))), (sz_, .inl (cy 0, 4, .inl (fun _ => 0))), (nu, .inl (cy 0, 96, .inl (fun _ => 0)))]) (rest := []) hx hb hml hown hts hE (c_X12_finding l G cy sk s.heap.size mo nw nk na fd ea so nd cd nmd pl tl fr_ rw_ brw po trc wi sz_ nu ca 0 (-1) 0 0 0 0 0 0 0 0 0 0 0 ff (-1000001) 1 (by decide) (vinL (by decide))) kV_X12_finding m_1434 rfl rfl ⟨(Nat.le_of_ble_eq_true rfl), (Nat.le_of_ble_eq_true rfl)⟩ hP hD hS hA 0 rfl rfl rfl [0, 2] [1, 3, 4, 5] rfl rfl rfl rfl (by decide) rfl rfl hl.1 (Nat.le_of_ble_eq_true rfl) dX12_sheet_32 ⟨(Nat.le_of_ble_eq_true rfl), (Nat.le_of_ble_eq_true rfl)⟩ (fun r_20 H locs hr_ haf hS => ?_)
    obtain ⟨-, -, hP, hD⟩ := haf
    have hP : va_P G classes [(nw, .inl (cy 0, 3567, .inl nw0)), (wi, .inl (cy 0, 4, .inl (fun _ => 0))), (sz_, .inl (cy 0, 4, .inl (fun _ => 0))), (nu, .inl (cy 0, 96, .inl (fun _ => 0)))] H := hP
    have hD : va_D A [(nw, .inl (cy 0, 3567, .inl nw0)), (wi, .inl (cy 0, 4, .inl (fun _ => 0))), (sz_, .inl (cy 0, 4, .inl (fun _ => 0))), (nu, .inl (cy 0, 96, .inl (fun _ => 0)))] := hD
    subst hr_
    refine W.widen (k := 0) (n := 0) (by first | exact Nat.le_of_ble_eq_true rfl | omega) (by first | exact Nat.le_of_ble_eq_true rfl | omega) ?_
    exact W.iret (v := (-1000001)) hx hb hr (fun t ht hW => ⟨⟨(-1000001), (), rfl, (lf_c_X12_sheet_11 ash ab an h_2), trivial⟩, hS.F ht⟩) hS.2.2 dX12_sheet_35
theorem lf_c_X12_put_0 (ash : Int32) (h_2 : inR ash 0 3) : ((-1000002) : Int32) = (F_put ash) := by first | (simp only [F_put, *, and_true, true_and, and_false, false_and, if_true, if_false]; done) | (simp [F_put, *]; done) | (unfold F_put; simp_all; done)
theorem lf_c_X12_put_1 (ash : Int32) (h_2 : ¬ inR ash 0 3) : ((-1000001) : Int32) = (F_put ash) := by first | (simp only [F_put, *, and_true, true_and, and_false, false_and, if_true, if_false]; done) | (simp [F_put, *]; done) | (unfold F_put; simp_all; done)
set_option maxHeartbeats 4000000 in
set_option maxRecDepth 100000 in
theorem c_X12_put (l : Launch) (G : va_G) (cy : Nat → ClassId) (sk : Nat → Nat) (sz : Nat) (mo : Nat) (nw : Nat) (nk : Nat) (na : Nat) (fd : Nat) (ea : Nat) (so : Nat) (nd : Nat) (cd : Nat) (nmd : Nat) (pl : Nat) (tl : Nat) (fr_ : Nat) (rw_ : Nat) (brw : Nat) (po : Nat) (trc : Nat) (wi : Nat) (sz_ : Nat) (nu : Nat) (ca : Nat) (ff : Nat → Int32) (ash : Int32) (a2 : Int32) (a3 : Int32)  : Met l yX12_put (wsO yX12_put cX12_put 4 (some .int)) ({ frames := 2, cells := 0, slots := 0, locals := 42 }) (va_Pc [.ref mo, .int ash, .int a2, .int a3] (PR G cy sk sz [(mo, .inr (12, [.ref nw, .ref nk, .ref na, .int 0, .ref fd, .ref ea, .ref so, .int (-1), .ref nd, .int 0, .int 0, .int 0, .int 0, .int 0, .int 0, .ref cd, .ref nmd, .ref pl, .ref tl, .ref fr_, .ref rw_, .ref brw, .int 0, .int 0, .ref po, .ref trc, .int 0, .int 0, .int 0, .ref wi, .ref sz_, .ref nu, .ref ca])), (nw, .inl (cy 0, 3567, .inl nw0)), (fd, .inl (cy 0, 7, .inl ff)), (wi, .inl (cy 0, 4, .inl (fun _ => 0)))])) (va_Qi (fun r (_ : Unit) => r = (F_put ash)) (fun _ _ => True) (va_A [(mo, .inr (12, [.ref nw, .ref nk, .ref na, .int 0, .ref fd, .ref ea, .ref so, .int (-1), .ref nd, .int 0, .int 0, .int 0, .int 0, .int 0, .int 0, .ref cd, .ref nmd, .ref pl, .ref tl, .ref fr_, .ref rw_, .ref brw, .int 0, .int 0, .ref po, .ref trc, .int 0, .int 0, .int 0, .ref wi, .ref sz_, .ref nu, .ref ca])), (nw, .inl (cy 0, 3567, .inl nw0)), (fd, .inl (cy 0, 7, .inl ff)), (wi, .inl (cy 0, 4, .inl (fun _ => 0)))] sz)) 0 0 (va_A [(mo, .inr (12, [.ref nw, .ref nk, .ref na, .int 0, .ref fd, .ref ea, .ref so, .int (-1), .ref nd, .int 0, .int 0, .int 0, .int 0, .int 0, .int 0, .ref cd, .ref nmd, .ref pl, .ref tl, .ref fr_, .ref rw_, .ref brw, .int 0, .int 0, .ref po, .ref trc, .int 0, .int 0, .int 0, .ref wi, .ref sz_, .ref nu, .ref ca])), (nw, .inl (cy 0, 3567, .inl nw0)), (fd, .inl (cy 0, 7, .inl ff)), (wi, .inl (cy 0, 4, .inl (fun _ => 0)))] sz) := by
  refine mt (by decide) (Nat.le_of_ble_eq_true rfl) ?_
  intro p e s m below meth c ls hx hb hr hml hts hown hlocks hin hsz hP hE hD hl
  subst hsz
  have hl : lv_has ls 4 [(0, .ref mo), (1, .int ash), (2, .int a2), (3, .int a3)] := hl
  have hD := hD.self (sz := s.heap.size)
  generalize hAe : va_A [(mo, .inr (12, [.ref nw, .ref nk, .ref na, .int 0, .ref fd, .ref ea, .ref so, .int (-1), .ref nd, .int 0, .int 0, .int 0, .int 0, .int 0, .int 0, .ref cd, .ref nmd, .ref pl, .ref tl, .ref fr_, .ref rw_, .ref brw, .int 0, .int 0, .ref po, .ref trc, .int 0, .int 0, .int 0, .ref wi, .ref sz_, .ref nu, .ref ca])), (nw, .inl (cy 0, 3567, .inl nw0)), (fd, .inl (cy 0, 7, .inl ff)), (wi, .inl (cy 0, 4, .inl (fun _ => 0)))] s.heap.size = A at hD ⊢
  have hA : ∀ q : Nat, s.heap.size ≤ q → A q := fun q h => by rw [← hAe]; exact Or.inr h
  have hS : va_S A s.heap s.heap [] := va_S.rf
  refine lv_iload_n hx hb dX12_put_0 rfl (lv_at hl 1 rfl) ?_
  refine rS (rest := []) hx hb hml hown hts hE (c_X12_isSheet l G cy sk s.heap.size ash) kS_X12_isSheet m_1497 rfl rfl ⟨(Nat.le_of_ble_eq_true rfl), (Nat.le_of_ble_eq_true rfl)⟩ hP hD [] rfl rfl rfl rfl hl.1 (Nat.le_of_ble_eq_true rfl) dX12_put_1 ⟨(Nat.le_of_ble_eq_true rfl), (Nat.le_of_ble_eq_true rfl)⟩ (fun r_1 hr_ => ?_)
  rcases hr_ with ⟨rfl, h_2⟩ | ⟨rfl, h_2⟩
  · refine lv_if_ne (tgt := 14) hx hb dX12_put_4 (by decide) (fun _ => ?_) (fun h9 => absurd h9 (by decide))
    refine lv_aload_n hx hb dX12_put_14 rfl (lv_at hl 0 rfl) ?_
    refine va_get (D := G) (ci := 12) (v := .ref wi) (C := RX12) (T := TX12) (N := 33) hx hb hts inB12 hown hE.1 hP 0 rfl rfl 29 (by decide) (hts _ m_1352) (fun _ h9 => h9) rfl dX12_put_15 ?_
    refine lv_iload_n hx hb dX12_put_18 rfl (lv_at hl 1 rfl) ?_
    refine va_iald hx hb hE.1 hP 3 0 rfl rfl (vinB h_2 (by decide) (by decide)) dX12_put_19 ?_
    refine tp (v := 0) rfl ?_
    refine lv_if_ne (tgt := 30) hx hb dX12_put_20 (by decide) (fun h9 => absurd h9 (by decide)) (fun _ => ?_)
    refine lv_aload_n hx hb dX12_put_23 rfl (lv_at hl 0 rfl) ?_
    refine lv_ldc (v := (-1000002)) hx hb hown (hts _ m_1500) dX12_put_24 ?_
    refine wV (B := (fun _ => True)) (wr := [(nw, .inl (cy 0, 3567, .inl nw0)), (wi, .inl (cy 0, 4, .inl (fun _ => 0)))]) (rest := []) hx hb hml hown hts hE (c_X12_finding l G cy sk s.heap.size mo nw nk na fd ea so nd cd nmd pl tl fr_ rw_ brw po trc wi sz_ nu ca 0 (-1) 0 0 0 0 0 0 0 0 0 0 0 ff (-1000002) 2 (by decide) (vinL (by decide))) kV_X12_finding m_1434 rfl rfl ⟨(Nat.le_of_ble_eq_true rfl), (Nat.le_of_ble_eq_true rfl)⟩ hP hD hS hA 0 rfl rfl rfl [0, 2] [1, 3] rfl rfl rfl rfl (by decide) rfl rfl hl.1 (Nat.le_of_ble_eq_true rfl) dX12_put_26 ⟨(Nat.le_of_ble_eq_true rfl), (Nat.le_of_ble_eq_true rfl)⟩ (fun r_3 H locs hr_ haf hS => ?_)
    obtain ⟨-, -, hP, hD⟩ := haf
    have hP : va_P G classes [(nw, .inl (cy 0, 3567, .inl nw0)), (wi, .inl (cy 0, 4, .inl (fun _ => 0)))] H := hP
    have hD : va_D A [(nw, .inl (cy 0, 3567, .inl nw0)), (wi, .inl (cy 0, 4, .inl (fun _ => 0)))] := hD
    subst hr_
    refine W.widen (k := 0) (n := 0) (by first | exact Nat.le_of_ble_eq_true rfl | omega) (by first | exact Nat.le_of_ble_eq_true rfl | omega) ?_
    exact W.iret (v := (-1000002)) hx hb hr (fun t ht hW => ⟨⟨(-1000002), (), rfl, (lf_c_X12_put_0 ash h_2), trivial⟩, hS.F ht⟩) hS.2.2 dX12_put_29
  · refine lv_if_ne (tgt := 14) hx hb dX12_put_4 (by decide) (fun h9 => absurd h9 (by decide)) (fun _ => ?_)
    refine lv_aload_n hx hb dX12_put_7 rfl (lv_at hl 0 rfl) ?_
    refine lv_ldc (v := (-1000001)) hx hb hown (hts _ m_1433) dX12_put_8 ?_
    refine wV (B := (fun _ => True)) (wr := [(nw, .inl (cy 0, 3567, .inl nw0)), (wi, .inl (cy 0, 4, .inl (fun _ => 0)))]) (rest := []) hx hb hml hown hts hE (c_X12_finding l G cy sk s.heap.size mo nw nk na fd ea so nd cd nmd pl tl fr_ rw_ brw po trc wi sz_ nu ca 0 (-1) 0 0 0 0 0 0 0 0 0 0 0 ff (-1000001) 1 (by decide) (vinL (by decide))) kV_X12_finding m_1434 rfl rfl ⟨(Nat.le_of_ble_eq_true rfl), (Nat.le_of_ble_eq_true rfl)⟩ hP hD hS hA 0 rfl rfl rfl [0, 2] [1, 3] rfl rfl rfl rfl (by decide) rfl rfl hl.1 (Nat.le_of_ble_eq_true rfl) dX12_put_10 ⟨(Nat.le_of_ble_eq_true rfl), (Nat.le_of_ble_eq_true rfl)⟩ (fun r_4 H locs hr_ haf hS => ?_)
    obtain ⟨-, -, hP, hD⟩ := haf
    have hP : va_P G classes [(nw, .inl (cy 0, 3567, .inl nw0)), (wi, .inl (cy 0, 4, .inl (fun _ => 0)))] H := hP
    have hD : va_D A [(nw, .inl (cy 0, 3567, .inl nw0)), (wi, .inl (cy 0, 4, .inl (fun _ => 0)))] := hD
    subst hr_
    refine W.widen (k := 0) (n := 0) (by first | exact Nat.le_of_ble_eq_true rfl | omega) (by first | exact Nat.le_of_ble_eq_true rfl | omega) ?_
    exact W.iret (v := (-1000001)) hx hb hr (fun t ht hW => ⟨⟨(-1000001), (), rfl, (lf_c_X12_put_1 ash h_2), trivial⟩, hS.F ht⟩) hS.2.2 dX12_put_13
theorem lf_c_X12_move_0 (ash : Int32) (ao : Int32) (h_2 : inR ash 0 3) (h_4 : inR ao 0 3) : ((-1000002) : Int32) = (F_move ash ao) := by first | (simp only [F_move, *, and_true, true_and, and_false, false_and, if_true, if_false]; done) | (simp [F_move, *]; done) | (unfold F_move; simp_all; done)
theorem lf_c_X12_move_1 (ash : Int32) (ao : Int32) (h_2 : inR ash 0 3) (h_4 : ¬ inR ao 0 3) : ((-1000001) : Int32) = (F_move ash ao) := by first | (simp only [F_move, *, and_true, true_and, and_false, false_and, if_true, if_false]; done) | (simp [F_move, *]; done) | (unfold F_move; simp_all; done)
theorem lf_c_X12_move_2 (ash : Int32) (ao : Int32) (h_2 : ¬ inR ash 0 3) : ((-1000001) : Int32) = (F_move ash ao) := by first | (simp only [F_move, *, and_true, true_and, and_false, false_and, if_true, if_false]; done) | (simp [F_move, *]; done) | (unfold F_move; simp_all; done)
set_option maxHeartbeats 4000000 in
set_option maxRecDepth 100000 in
theorem c_X12_move (l : Launch) (G : va_G) (cy : Nat → ClassId) (sk : Nat → Nat) (sz : Nat) (mo : Nat) (nw : Nat) (nk : Nat) (na : Nat) (fd : Nat) (ea : Nat) (so : Nat) (nd : Nat) (cd : Nat) (nmd : Nat) (pl : Nat) (tl : Nat) (fr_ : Nat) (rw_ : Nat) (brw : Nat) (po : Nat) (trc : Nat) (wi : Nat) (sz_ : Nat) (nu : Nat) (ca : Nat) (ff : Nat → Int32) (ash : Int32) (a2 : Int32) (ao : Int32) (a4 : Int32) (a5 : Int32)  : Met l yX12_move (wsO yX12_move cX12_move 7 (some .int)) ({ frames := 2, cells := 0, slots := 0, locals := 42 }) (va_Pc [.ref mo, .int ash, .int a2, .int ao, .int a4, .int a5] (PR G cy sk sz [(mo, .inr (12, [.ref nw, .ref nk, .ref na, .int 0, .ref fd, .ref ea, .ref so, .int (-1), .ref nd, .int 0, .int 0, .int 0, .int 0, .int 0, .int 0, .ref cd, .ref nmd, .ref pl, .ref tl, .ref fr_, .ref rw_, .ref brw, .int 0, .int 0, .ref po, .ref trc, .int 0, .int 0, .int 0, .ref wi, .ref sz_, .ref nu, .ref ca])), (nw, .inl (cy 0, 3567, .inl nw0)), (fd, .inl (cy 0, 7, .inl ff)), (wi, .inl (cy 0, 4, .inl (fun _ => 0)))])) (va_Qi (fun r (_ : Unit) => r = (F_move ash ao)) (fun _ _ => True) (va_A [(mo, .inr (12, [.ref nw, .ref nk, .ref na, .int 0, .ref fd, .ref ea, .ref so, .int (-1), .ref nd, .int 0, .int 0, .int 0, .int 0, .int 0, .int 0, .ref cd, .ref nmd, .ref pl, .ref tl, .ref fr_, .ref rw_, .ref brw, .int 0, .int 0, .ref po, .ref trc, .int 0, .int 0, .int 0, .ref wi, .ref sz_, .ref nu, .ref ca])), (nw, .inl (cy 0, 3567, .inl nw0)), (fd, .inl (cy 0, 7, .inl ff)), (wi, .inl (cy 0, 4, .inl (fun _ => 0)))] sz)) 0 0 (va_A [(mo, .inr (12, [.ref nw, .ref nk, .ref na, .int 0, .ref fd, .ref ea, .ref so, .int (-1), .ref nd, .int 0, .int 0, .int 0, .int 0, .int 0, .int 0, .ref cd, .ref nmd, .ref pl, .ref tl, .ref fr_, .ref rw_, .ref brw, .int 0, .int 0, .ref po, .ref trc, .int 0, .int 0, .int 0, .ref wi, .ref sz_, .ref nu, .ref ca])), (nw, .inl (cy 0, 3567, .inl nw0)), (fd, .inl (cy 0, 7, .inl ff)), (wi, .inl (cy 0, 4, .inl (fun _ => 0)))] sz) := by
  refine mt (by decide) (Nat.le_of_ble_eq_true rfl) ?_
  intro p e s m below meth c ls hx hb hr hml hts hown hlocks hin hsz hP hE hD hl
  subst hsz
  have hl : lv_has ls 7 [(0, .ref mo), (1, .int ash), (2, .int a2), (3, .int ao), (4, .int a4), (5, .int a5)] := hl
  have hD := hD.self (sz := s.heap.size)
  generalize hAe : va_A [(mo, .inr (12, [.ref nw, .ref nk, .ref na, .int 0, .ref fd, .ref ea, .ref so, .int (-1), .ref nd, .int 0, .int 0, .int 0, .int 0, .int 0, .int 0, .ref cd, .ref nmd, .ref pl, .ref tl, .ref fr_, .ref rw_, .ref brw, .int 0, .int 0, .ref po, .ref trc, .int 0, .int 0, .int 0, .ref wi, .ref sz_, .ref nu, .ref ca])), (nw, .inl (cy 0, 3567, .inl nw0)), (fd, .inl (cy 0, 7, .inl ff)), (wi, .inl (cy 0, 4, .inl (fun _ => 0)))] s.heap.size = A at hD ⊢
  have hA : ∀ q : Nat, s.heap.size ≤ q → A q := fun q h => by rw [← hAe]; exact Or.inr h
  have hS : va_S A s.heap s.heap [] := va_S.rf
  refine lv_iload_n hx hb dX12_move_0 rfl (lv_at hl 1 rfl) ?_
  refine rS (rest := []) hx hb hml hown hts hE (c_X12_isSheet l G cy sk s.heap.size ash) kS_X12_isSheet m_1497 rfl rfl ⟨(Nat.le_of_ble_eq_true rfl), (Nat.le_of_ble_eq_true rfl)⟩ hP hD [] rfl rfl rfl rfl hl.1 (Nat.le_of_ble_eq_true rfl) dX12_move_1 ⟨(Nat.le_of_ble_eq_true rfl), (Nat.le_of_ble_eq_true rfl)⟩ (fun r_1 hr_ => ?_)
  rcases hr_ with ⟨rfl, h_2⟩ | ⟨rfl, h_2⟩
  · refine lv_if_eq (tgt := 14) hx hb dX12_move_4 (by decide) (fun h9 => absurd h9 (by decide)) (fun _ => ?_)
    refine lv_iload_n hx hb dX12_move_7 rfl (lv_at hl 3 rfl) ?_
    refine rS (rest := []) hx hb hml hown hts hE (c_X12_isSheet l G cy sk s.heap.size ao) kS_X12_isSheet m_1497 rfl rfl ⟨(Nat.le_of_ble_eq_true rfl), (Nat.le_of_ble_eq_true rfl)⟩ hP hD [] rfl rfl rfl rfl hl.1 (Nat.le_of_ble_eq_true rfl) dX12_move_8 ⟨(Nat.le_of_ble_eq_true rfl), (Nat.le_of_ble_eq_true rfl)⟩ (fun r_3 hr_ => ?_)
    rcases hr_ with ⟨rfl, h_4⟩ | ⟨rfl, h_4⟩
    · refine lv_if_ne (tgt := 21) hx hb dX12_move_11 (by decide) (fun _ => ?_) (fun h9 => absurd h9 (by decide))
      refine lv_aload_n hx hb dX12_move_21 rfl (lv_at hl 0 rfl) ?_
      refine va_get (D := G) (ci := 12) (v := .ref wi) (C := RX12) (T := TX12) (N := 33) hx hb hts inB12 hown hE.1 hP 0 rfl rfl 29 (by decide) (hts _ m_1352) (fun _ h9 => h9) rfl dX12_move_22 ?_
      refine lv_iload_n hx hb dX12_move_25 rfl (lv_at hl 1 rfl) ?_
      refine va_iald hx hb hE.1 hP 3 0 rfl rfl (vinB h_2 (by decide) (by decide)) dX12_move_26 ?_
      refine tp (v := 0) rfl ?_
      refine lv_if_eq (tgt := 39) hx hb dX12_move_27 (by decide) (fun _ => ?_) (fun h9 => absurd h9 (by decide))
      refine lv_aload_n hx hb dX12_move_39 rfl (lv_at hl 0 rfl) ?_
      refine lv_ldc (v := (-1000002)) hx hb hown (hts _ m_1500) dX12_move_40 ?_
      refine wV (B := (fun _ => True)) (wr := [(nw, .inl (cy 0, 3567, .inl nw0)), (wi, .inl (cy 0, 4, .inl (fun _ => 0)))]) (rest := []) hx hb hml hown hts hE (c_X12_finding l G cy sk s.heap.size mo nw nk na fd ea so nd cd nmd pl tl fr_ rw_ brw po trc wi sz_ nu ca 0 (-1) 0 0 0 0 0 0 0 0 0 0 0 ff (-1000002) 2 (by decide) (vinL (by decide))) kV_X12_finding m_1434 rfl rfl ⟨(Nat.le_of_ble_eq_true rfl), (Nat.le_of_ble_eq_true rfl)⟩ hP hD hS hA 0 rfl rfl rfl [0, 2] [1, 3] rfl rfl rfl rfl (by decide) rfl rfl hl.1 (Nat.le_of_ble_eq_true rfl) dX12_move_42 ⟨(Nat.le_of_ble_eq_true rfl), (Nat.le_of_ble_eq_true rfl)⟩ (fun r_5 H locs hr_ haf hS => ?_)
      obtain ⟨-, -, hP, hD⟩ := haf
      have hP : va_P G classes [(nw, .inl (cy 0, 3567, .inl nw0)), (wi, .inl (cy 0, 4, .inl (fun _ => 0)))] H := hP
      have hD : va_D A [(nw, .inl (cy 0, 3567, .inl nw0)), (wi, .inl (cy 0, 4, .inl (fun _ => 0)))] := hD
      subst hr_
      refine W.widen (k := 0) (n := 0) (by first | exact Nat.le_of_ble_eq_true rfl | omega) (by first | exact Nat.le_of_ble_eq_true rfl | omega) ?_
      exact W.iret (v := (-1000002)) hx hb hr (fun t ht hW => ⟨⟨(-1000002), (), rfl, (lf_c_X12_move_0 ash ao h_2 h_4), trivial⟩, hS.F ht⟩) hS.2.2 dX12_move_45
    · refine lv_if_ne (tgt := 21) hx hb dX12_move_11 (by decide) (fun h9 => absurd h9 (by decide)) (fun _ => ?_)
      refine lv_aload_n hx hb dX12_move_14 rfl (lv_at hl 0 rfl) ?_
      refine lv_ldc (v := (-1000001)) hx hb hown (hts _ m_1433) dX12_move_15 ?_
      refine wV (B := (fun _ => True)) (wr := [(nw, .inl (cy 0, 3567, .inl nw0)), (wi, .inl (cy 0, 4, .inl (fun _ => 0)))]) (rest := []) hx hb hml hown hts hE (c_X12_finding l G cy sk s.heap.size mo nw nk na fd ea so nd cd nmd pl tl fr_ rw_ brw po trc wi sz_ nu ca 0 (-1) 0 0 0 0 0 0 0 0 0 0 0 ff (-1000001) 1 (by decide) (vinL (by decide))) kV_X12_finding m_1434 rfl rfl ⟨(Nat.le_of_ble_eq_true rfl), (Nat.le_of_ble_eq_true rfl)⟩ hP hD hS hA 0 rfl rfl rfl [0, 2] [1, 3] rfl rfl rfl rfl (by decide) rfl rfl hl.1 (Nat.le_of_ble_eq_true rfl) dX12_move_17 ⟨(Nat.le_of_ble_eq_true rfl), (Nat.le_of_ble_eq_true rfl)⟩ (fun r_6 H locs hr_ haf hS => ?_)
      obtain ⟨-, -, hP, hD⟩ := haf
      have hP : va_P G classes [(nw, .inl (cy 0, 3567, .inl nw0)), (wi, .inl (cy 0, 4, .inl (fun _ => 0)))] H := hP
      have hD : va_D A [(nw, .inl (cy 0, 3567, .inl nw0)), (wi, .inl (cy 0, 4, .inl (fun _ => 0)))] := hD
      subst hr_
      refine W.widen (k := 0) (n := 0) (by first | exact Nat.le_of_ble_eq_true rfl | omega) (by first | exact Nat.le_of_ble_eq_true rfl | omega) ?_
      exact W.iret (v := (-1000001)) hx hb hr (fun t ht hW => ⟨⟨(-1000001), (), rfl, (lf_c_X12_move_1 ash ao h_2 h_4), trivial⟩, hS.F ht⟩) hS.2.2 dX12_move_20
  · refine lv_if_eq (tgt := 14) hx hb dX12_move_4 (by decide) (fun _ => ?_) (fun h9 => absurd h9 (by decide))
    refine lv_aload_n hx hb dX12_move_14 rfl (lv_at hl 0 rfl) ?_
    refine lv_ldc (v := (-1000001)) hx hb hown (hts _ m_1433) dX12_move_15 ?_
    refine wV (B := (fun _ => True)) (wr := [(nw, .inl (cy 0, 3567, .inl nw0)), (wi, .inl (cy 0, 4, .inl (fun _ => 0)))]) (rest := []) hx hb hml hown hts hE (c_X12_finding l G cy sk s.heap.size mo nw nk na fd ea so nd cd nmd pl tl fr_ rw_ brw po trc wi sz_ nu ca 0 (-1) 0 0 0 0 0 0 0 0 0 0 0 ff (-1000001) 1 (by decide) (vinL (by decide))) kV_X12_finding m_1434 rfl rfl ⟨(Nat.le_of_ble_eq_true rfl), (Nat.le_of_ble_eq_true rfl)⟩ hP hD hS hA 0 rfl rfl rfl [0, 2] [1, 3] rfl rfl rfl rfl (by decide) rfl rfl hl.1 (Nat.le_of_ble_eq_true rfl) dX12_move_17 ⟨(Nat.le_of_ble_eq_true rfl), (Nat.le_of_ble_eq_true rfl)⟩ (fun r_7 H locs hr_ haf hS => ?_)
    obtain ⟨-, -, hP, hD⟩ := haf
    have hP : va_P G classes [(nw, .inl (cy 0, 3567, .inl nw0)), (wi, .inl (cy 0, 4, .inl (fun _ => 0)))] H := hP
    have hD : va_D A [(nw, .inl (cy 0, 3567, .inl nw0)), (wi, .inl (cy 0, 4, .inl (fun _ => 0)))] := hD
    subst hr_
    refine W.widen (k := 0) (n := 0) (by first | exact Nat.le_of_ble_eq_true rfl | omega) (by first | exact Nat.le_of_ble_eq_true rfl | omega) ?_
    exact W.iret (v := (-1000001)) hx hb hr (fun t ht hW => ⟨⟨(-1000001), (), rfl, (lf_c_X12_move_2 ash ao h_2), trivial⟩, hS.F ht⟩) hS.2.2 dX12_move_20
