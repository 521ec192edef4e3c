theorem kf_c_X12_learn_0 (aa : Int32) (c_5 : (-2) ≤ aa) (c_9 : aa < 0) (c_10 : ¬ aa = (-1)) (h9 : ¬ aa = (-2)) : False := by simp only [inR, Int32.le_iff_toInt_le, Int32.lt_iff_toInt_lt, ← Int32.toInt_inj] at *; simp at *; omega
theorem lf_c_X12_learn_1 (akn : Int32) (aw : Int32) (aa : Int32) (h_2 : inR akn 0 31) (h_4 : inR aw 0 31) (c_5 : (-2) ≤ aa) (h_8 : (aw &&& (akn ^^^ (-1))) = 0) (c_9 : aa < 0) (c_10 : ¬ aa = (-1)) (c_11 : aa = (-2)) : (0 : Int32) = (F_learn akn aw aa) := by first | (simp only [F_learn]; rw [if_pos ⟨h_2, h_4, c_5⟩, if_neg]; exact fun q => absurd q.2 (by assumption)) | (simp only [F_learn]; rw [if_pos ⟨h_2, h_4, c_5⟩, if_neg]; exact fun q => absurd q.2 (Int32.not_lt.mpr (by assumption))) | (simp only [F_learn, *, and_true, true_and, and_false, false_and, if_true, if_false]; done) | (simp [F_learn, *]; done) | (subst_vars; simp [F_learn, *]; done) | (simp only [F_learn]; simp_all; done)
theorem lf_c_X12_learn_2 (akn : Int32) (aw : Int32) (aa : Int32) (h_2 : inR akn 0 31) (h_4 : inR aw 0 31) (c_5 : (-2) ≤ aa) (h_8 : (aw &&& (akn ^^^ (-1))) = 0) (c_9 : aa < 0) (c_10 : aa = (-1)) : (0 : Int32) = (F_learn akn aw aa) := by first | (simp only [F_learn]; rw [if_pos ⟨h_2, h_4, c_5⟩, if_neg]; exact fun q => absurd q.2 (by assumption)) | (simp only [F_learn]; rw [if_pos ⟨h_2, h_4, c_5⟩, if_neg]; exact fun q => absurd q.2 (Int32.not_lt.mpr (by assumption))) | (simp only [F_learn, *, and_true, true_and, and_false, false_and, if_true, if_false]; done) | (simp [F_learn, *]; done) | (subst_vars; simp [F_learn, *]; done) | (simp only [F_learn]; simp_all; done)
theorem lf_c_X12_learn_3 (akn : Int32) (aw : Int32) (aa : Int32) (h_2 : inR akn 0 31) (h_4 : inR aw 0 31) (c_5 : (-2) ≤ aa) (h_8 : (aw &&& (akn ^^^ (-1))) = 0) (c_9 : ¬ aa < 0) : ((-1000002) : Int32) = (F_learn akn aw aa) := by first | (simp only [F_learn]; rw [if_pos ⟨h_2, h_4, c_5⟩, if_neg]; exact fun q => absurd q.2 (by assumption)) | (simp only [F_learn]; rw [if_pos ⟨h_2, h_4, c_5⟩, if_neg]; exact fun q => absurd q.2 (Int32.not_lt.mpr (by assumption))) | (simp only [F_learn, *, and_true, true_and, and_false, false_and, if_true, if_false]; done) | (simp [F_learn, *]; done) | (subst_vars; simp [F_learn, *]; done) | (simp only [F_learn]; simp_all; done)
theorem lf_c_X12_learn_4 (akn : Int32) (aw : Int32) (aa : Int32) (h_2 : inR akn 0 31) (h_4 : inR aw 0 31) (c_5 : (-2) ≤ aa) (h_8 : ¬ (aw &&& (akn ^^^ (-1))) = 0) : ((-1000002) : Int32) = (F_learn akn aw aa) := by first | (simp only [F_learn]; rw [if_pos ⟨h_2, h_4, c_5⟩, if_neg]; exact fun q => absurd q.2 (by assumption)) | (simp only [F_learn]; rw [if_pos ⟨h_2, h_4, c_5⟩, if_neg]; exact fun q => absurd q.2 (Int32.not_lt.mpr (by assumption))) | (simp only [F_learn, *, and_true, true_and, and_false, false_and, if_true, if_false]; done) | (simp [F_learn, *]; done) | (subst_vars; simp [F_learn, *]; done) | (simp only [F_learn]; simp_all; done)
theorem lf_c_X12_learn_5 (akn : Int32) (aw : Int32) (aa : Int32) (h_2 : inR akn 0 31) (h_4 : inR aw 0 31) (c_5 : ¬ (-2) ≤ aa) : ((-1000001) : Int32) = (F_learn akn aw aa) := by first | (simp only [F_learn]; rw [if_pos ⟨h_2, h_4, c_5⟩, if_neg]; exact fun q => absurd q.2 (by assumption)) | (simp only [F_learn]; rw [if_pos ⟨h_2, h_4, c_5⟩, if_neg]; exact fun q => absurd q.2 (Int32.not_lt.mpr (by assumption))) | (simp only [F_learn, *, and_true, true_and, and_false, false_and, if_true, if_false]; done) | (simp [F_learn, *]; done) | (subst_vars; simp [F_learn, *]; done) | (simp only [F_learn]; simp_all; done)
theorem lf_c_X12_learn_6 (akn : Int32) (aw : Int32) (aa : Int32) (h_2 : inR akn 0 31) (h_4 : ¬ inR aw 0 31) : ((-1000001) : Int32) = (F_learn akn aw aa) := by first | (simp only [F_learn]; rw [if_pos ⟨h_2, h_4, c_5⟩, if_neg]; exact fun q => absurd q.2 (by assumption)) | (simp only [F_learn]; rw [if_pos ⟨h_2, h_4, c_5⟩, if_neg]; exact fun q => absurd q.2 (Int32.not_lt.mpr (by assumption))) | (simp only [F_learn, *, and_true, true_and, and_false, false_and, if_true, if_false]; done) | (simp [F_learn, *]; done) | (subst_vars; simp [F_learn, *]; done) | (simp only [F_learn]; simp_all; done)
theorem lf_c_X12_learn_7 (akn : Int32) (aw : Int32) (aa : Int32) (h_2 : ¬ inR akn 0 31) : ((-1000001) : Int32) = (F_learn akn aw aa) := by first | (simp only [F_learn]; rw [if_pos ⟨h_2, h_4, c_5⟩, if_neg]; exact fun q => absurd q.2 (by assumption)) | (simp only [F_learn]; rw [if_pos ⟨h_2, h_4, c_5⟩, if_neg]; exact fun q => absurd q.2 (Int32.not_lt.mpr (by assumption))) | (simp only [F_learn, *, and_true, true_and, and_false, false_and, if_true, if_false]; done) | (simp [F_learn, *]; done) | (subst_vars; simp [F_learn, *]; done) | (simp only [F_learn]; simp_all; done)
set_option maxHeartbeats 4000000 in
set_option maxRecDepth 100000 in
theorem c_X12_learn (l : Launch) (G : va_G) (cy : Nat → ClassId) (sk : Nat → Nat) (sz : Nat) (mo : Nat) (nw : Nat) (nk : Nat) (na : Nat) (fd : Nat) (ea : Nat) (so : Nat) (nd : Nat) (cd : Nat) (nmd : Nat) (pl : Nat) (tl : Nat) (fr_ : Nat) (rw_ : Nat) (brw : Nat) (po : Nat) (trc : Nat) (wi : Nat) (sz_ : Nat) (nu : Nat) (ca : Nat) (ff : Nat → Int32) (akn : Int32) (aw : Int32) (aa : Int32)  : Met l yX12_learn (wsO yX12_learn cX12_learn 4 (some .int)) ({ frames := 1, cells := 0, slots := 0, locals := 26 }) (va_Pc [.ref mo, .int akn, .int aw, .int aa] (PR G cy sk sz [(mo, .inr (12, [.ref nw, .ref nk, .ref na, .int 0, .ref fd, .ref ea, .ref so, .int (-1), .ref nd, .int 0, .int 0, .int 0, .int 0, .int 0, .int 0, .ref cd, .ref nmd, .ref pl, .ref tl, .ref fr_, .ref rw_, .ref brw, .int 0, .int 0, .ref po, .ref trc, .int 0, .int 0, .int 0, .ref wi, .ref sz_, .ref nu, .ref ca])), (nw, .inl (cy 0, 3567, .inl nw0)), (fd, .inl (cy 0, 7, .inl ff))])) (va_Qi (fun r (_ : Unit) => r = (F_learn akn aw aa)) (fun _ _ => True) (va_A [(mo, .inr (12, [.ref nw, .ref nk, .ref na, .int 0, .ref fd, .ref ea, .ref so, .int (-1), .ref nd, .int 0, .int 0, .int 0, .int 0, .int 0, .int 0, .ref cd, .ref nmd, .ref pl, .ref tl, .ref fr_, .ref rw_, .ref brw, .int 0, .int 0, .ref po, .ref trc, .int 0, .int 0, .int 0, .ref wi, .ref sz_, .ref nu, .ref ca])), (nw, .inl (cy 0, 3567, .inl nw0)), (fd, .inl (cy 0, 7, .inl ff))] sz)) 0 0 (va_A [(mo, .inr (12, [.ref nw, .ref nk, .ref na, .int 0, .ref fd, .ref ea, .ref so, .int (-1), .ref nd, .int 0, .int 0, .int 0, .int 0, .int 0, .int 0, .ref cd, .ref nmd, .ref pl, .ref tl, .ref fr_, .ref rw_, .ref brw, .int 0, .int 0, .ref po, .ref trc, .int 0, .int 0, .int 0, .ref wi, .ref sz_, .ref nu, .ref ca])), (nw, .inl (cy 0, 3567, .inl nw0)), (fd, .inl (cy 0, 7, .inl ff))] sz) := by
  refine mt (by decide) (Nat.le_of_ble_eq_true rfl) ?_
  intro p e s m below meth c ls hx hb hr hml hts hown hlocks hin hsz hP hE hD hl
  subst hsz
  have hl : lv_has ls 4 [(0, .ref mo), (1, .int akn), (2, .int aw), (3, .int aa)] := hl
  have hD := hD.self (sz := s.heap.size)
  generalize hAe : va_A [(mo, .inr (12, [.ref nw, .ref nk, .ref na, .int 0, .ref fd, .ref ea, .ref so, .int (-1), .ref nd, .int 0, .int 0, .int 0, .int 0, .int 0, .int 0, .ref cd, .ref nmd, .ref pl, .ref tl, .ref fr_, .ref rw_, .ref brw, .int 0, .int 0, .ref po, .ref trc, .int 0, .int 0, .int 0, .ref wi, .ref sz_, .ref nu, .ref ca])), (nw, .inl (cy 0, 3567, .inl nw0)), (fd, .inl (cy 0, 7, .inl ff))] s.heap.size = A at hD ⊢
  have hA : ∀ q : Nat, s.heap.size ≤ q → A q := fun q h => by rw [← hAe]; exact Or.inr h
  have hS : va_S A s.heap s.heap [] := va_S.rf
  refine lv_iload_n hx hb dX12_learn_0 rfl (lv_at hl 1 rfl) ?_
  refine lv_iconst (v := 0) hx hb dX12_learn_1 (by decide) ?_
  refine lv_bipush (v := 31) hx hb dX12_learn_2 (by decide) ?_
  refine rS (rest := []) hx hb hml hown hts hE (c_X12_within l G cy sk s.heap.size akn 0 31) kS_X12_within m_1427 rfl rfl ⟨(Nat.le_of_ble_eq_true rfl), (Nat.le_of_ble_eq_true rfl)⟩ hP hD [] rfl rfl rfl rfl hl.1 (Nat.le_of_ble_eq_true rfl) dX12_learn_4 ⟨(Nat.le_of_ble_eq_true rfl), (Nat.le_of_ble_eq_true rfl)⟩ (fun r_1 hr_ => ?_)
  rcases hr_ with ⟨rfl, h_2⟩ | ⟨rfl, h_2⟩
  · refine lv_if_eq (tgt := 26) hx hb dX12_learn_7 (by decide) (fun h9 => absurd h9 (by decide)) (fun _ => ?_)
    refine lv_iload_n hx hb dX12_learn_10 rfl (lv_at hl 2 rfl) ?_
    refine lv_iconst (v := 0) hx hb dX12_learn_11 (by decide) ?_
    refine lv_bipush (v := 31) hx hb dX12_learn_12 (by decide) ?_
    refine rS (rest := []) hx hb hml hown hts hE (c_X12_within l G cy sk s.heap.size aw 0 31) kS_X12_within m_1427 rfl rfl ⟨(Nat.le_of_ble_eq_true rfl), (Nat.le_of_ble_eq_true rfl)⟩ hP hD [] rfl rfl rfl rfl hl.1 (Nat.le_of_ble_eq_true rfl) dX12_learn_14 ⟨(Nat.le_of_ble_eq_true rfl), (Nat.le_of_ble_eq_true rfl)⟩ (fun r_3 hr_ => ?_)
    rcases hr_ with ⟨rfl, h_4⟩ | ⟨rfl, h_4⟩
    · refine lv_if_eq (tgt := 26) hx hb dX12_learn_17 (by decide) (fun h9 => absurd h9 (by decide)) (fun _ => ?_)
      refine lv_iload_n hx hb dX12_learn_20 rfl (lv_at hl 3 rfl) ?_
      refine lv_bipush (v := (-2)) hx hb dX12_learn_21 (by decide) ?_
      refine lv_icmp_ge (tgt := 33) hx hb dX12_learn_23 (by decide) (fun c_5 => ?_) (fun c_5 => ?_)
      · refine lv_aload_n hx hb dX12_learn_33 rfl (lv_at hl 0 rfl) ?_
        refine lv_iconst (v := (-1)) hx hb dX12_learn_34 (by decide) ?_
        refine va_put (D := G) (ci := 12) (v := .int (-1)) (ty := .int) (C := RX12) (T := TX12) (N := 33) hx hb hts inB12 tyX12 tyX12_ok nmX12 hown hE.1 hP hD hS 0 rfl rfl 22 (by decide) (hts _ m_1345) (fun _ h9 => h9) rfl (by decide +kernel) rfl rfl (Nat.le_of_ble_eq_true rfl) dX12_learn_35 (fun H locs hP hD hS => ?_)
        have hP : va_P G classes [(mo, .inr (12, [.ref nw, .ref nk, .ref na, .int 0, .ref fd, .ref ea, .ref so, .int (-1), .ref nd, .int 0, .int 0, .int 0, .int 0, .int 0, .int 0, .ref cd, .ref nmd, .ref pl, .ref tl, .ref fr_, .ref rw_, .ref brw, .int (-1), .int 0, .ref po, .ref trc, .int 0, .int 0, .int 0, .ref wi, .ref sz_, .ref nu, .ref ca])), (nw, .inl (cy 0, 3567, .inl nw0)), (fd, .inl (cy 0, 7, .inl ff))] H := hP
        have hD : va_D A [(mo, .inr (12, [.ref nw, .ref nk, .ref na, .int 0, .ref fd, .ref ea, .ref so, .int (-1), .ref nd, .int 0, .int 0, .int 0, .int 0, .int 0, .int 0, .ref cd, .ref nmd, .ref pl, .ref tl, .ref fr_, .ref rw_, .ref brw, .int (-1), .int 0, .ref po, .ref trc, .int 0, .int 0, .int 0, .ref wi, .ref sz_, .ref nu, .ref ca])), (nw, .inl (cy 0, 3567, .inl nw0)), (fd, .inl (cy 0, 7, .inl ff))] := hD
        refine lv_aload_n hx hb dX12_learn_38 rfl (lv_at hl 0 rfl) ?_
        refine lv_iconst (v := 0) hx hb dX12_learn_39 (by decide) ?_
        refine va_put (D := G) (ci := 12) (v := .int 0) (ty := .int) (C := RX12) (T := TX12) (N := 33) hx hb hts inB12 tyX12 tyX12_ok nmX12 hown hE.1 hP hD hS 0 rfl rfl 23 (by decide) (hts _ m_1346) (fun _ h9 => h9) rfl (by decide +kernel) rfl rfl (Nat.le_of_ble_eq_true rfl) dX12_learn_40 (fun H locs hP hD hS => ?_)
        have hP : va_P G classes [(mo, .inr (12, [.ref nw, .ref nk, .ref na, .int 0, .ref fd, .ref ea, .ref so, .int (-1), .ref nd, .int 0, .int 0, .int 0, .int 0, .int 0, .int 0, .ref cd, .ref nmd, .ref pl, .ref tl, .ref fr_, .ref rw_, .ref brw, .int (-1), .int 0, .ref po, .ref trc, .int 0, .int 0, .int 0, .ref wi, .ref sz_, .ref nu, .ref ca])), (nw, .inl (cy 0, 3567, .inl nw0)), (fd, .inl (cy 0, 7, .inl ff))] H := hP
        have hD : va_D A [(mo, .inr (12, [.ref nw, .ref nk, .ref na, .int 0, .ref fd, .ref ea, .ref so, .int (-1), .ref nd, .int 0, .int 0, .int 0, .int 0, .int 0, .int 0, .ref cd, .ref nmd, .ref pl, .ref tl, .ref fr_, .ref rw_, .ref brw, .int (-1), .int 0, .ref po, .ref trc, .int 0, .int 0, .int 0, .ref wi, .ref sz_, .ref nu, .ref ca])), (nw, .inl (cy 0, 3567, .inl nw0)), (fd, .inl (cy 0, 7, .inl ff))] := hD
        refine lv_aload_n hx hb dX12_learn_43 rfl (lv_at hl 0 rfl) ?_
        refine lv_iconst (v := 0) hx hb dX12_learn_44 (by decide) ?_
        refine lv_iconst (v := 0) hx hb dX12_learn_45 (by decide) ?_
        refine lv_iload_n hx hb dX12_learn_46 rfl (lv_at hl 1 rfl) ?_
        refine lv_iload_n hx hb dX12_learn_47 rfl (lv_at hl 2 rfl) ?_
        refine lv_iconst (v := 0) hx hb dX12_learn_48 (by decide) ?_
        refine wVv (B := (B_c_X12_tryRows G cy (va_A [(mo, .inr (12, [.ref nw, .ref nk, .ref na, .int 0, .ref fd, .ref ea, .ref so, .int (-1), .ref nd, .int 0, .int 0, .int 0, .int 0, .int 0, .int 0, .ref cd, .ref nmd, .ref pl, .ref tl, .ref fr_, .ref rw_, .ref brw, .int (-1), .int 0, .ref po, .ref trc, .int 0, .int 0, .int 0, .ref wi, .ref sz_, .ref nu, .ref ca])), (nw, .inl (cy 0, 3567, .inl nw0))] H.size) mo nw nk na fd ea so nd cd nmd pl tl fr_ rw_ brw po trc wi sz_ nu ca 0 (-1) 0 0 0 0 0 0 0 0 0 0 0 nw0 akn aw)) (wr := [(fd, .inl (cy 0, 7, .inl ff))]) (rest := []) hx hb hml hown hts hE (c_X12_tryRows l G cy sk H.size mo nw nk na fd ea so nd cd nmd pl tl fr_ rw_ brw po trc wi sz_ nu ca 0 (-1) 0 0 0 0 0 0 0 0 0 0 0 nw0 akn aw rfl) kV_X12_tryRows m_1787 rfl rfl ⟨(Nat.le_of_ble_eq_true rfl), (Nat.le_of_ble_eq_true rfl)⟩ hP hD hS hA 0 rfl rfl rfl [0, 1] [2] rfl rfl rfl rfl (by decide) rfl rfl hl.1 (Nat.le_of_ble_eq_true rfl) dX12_learn_49 ⟨(Nat.le_of_ble_eq_true rfl), (Nat.le_of_ble_eq_true rfl)⟩ (fun H locs haf hS => ?_)
        obtain ⟨xv7, h_8, hP1, hD1⟩ := haf.1
        obtain ⟨hP, hD⟩ := haf.2.1 _ hP1 hD1
        have hP : va_P G classes [(fd, .inl (cy 0, 7, .inl ff)), (mo, .inr (12, [.ref nw, .ref nk, .ref na, .int 0, .ref fd, .ref ea, .ref so, .int (-1), .ref nd, .int 0, .int 0, .int 0, .int 0, .int 0, .int 0, .ref cd, .ref nmd, .ref pl, .ref tl, .ref fr_, .ref rw_, .ref brw, .int xv7, .int 0, .ref po, .ref trc, .int 0, .int 0, .int 0, .ref wi, .ref sz_, .ref nu, .ref ca])), (nw, .inl (cy 0, 3567, .inl nw0))] H := hP
        have hD : va_D A [(fd, .inl (cy 0, 7, .inl ff)), (mo, .inr (12, [.ref nw, .ref nk, .ref na, .int 0, .ref fd, .ref ea, .ref so, .int (-1), .ref nd, .int 0, .int 0, .int 0, .int 0, .int 0, .int 0, .ref cd, .ref nmd, .ref pl, .ref tl, .ref fr_, .ref rw_, .ref brw, .int xv7, .int 0, .ref po, .ref trc, .int 0, .int 0, .int 0, .ref wi, .ref sz_, .ref nu, .ref ca])), (nw, .inl (cy 0, 3567, .inl nw0))] := hD
        rcases h_8 with ⟨rfl, h_8⟩ | ⟨rfl, h_8⟩
        · refine lv_aload_n hx hb dX12_learn_52 rfl (lv_at hl 0 rfl) ?_
          refine va_get (D := G) (ci := 12) (v := .int 0) (C := RX12) (T := TX12) (N := 33) hx hb hts inB12 hown hE.1 hP 1 rfl rfl 22 (by decide) (hts _ m_1345) (fun _ h9 => h9) rfl dX12_learn_53 ?_
          refine lv_if_lt (tgt := 67) hx hb dX12_learn_56 (by decide) (fun h9 => absurd h9 (by decide)) (fun _ => ?_)
          refine lv_iload_n hx hb dX12_learn_59 rfl (lv_at hl 3 rfl) ?_
          refine lv_aload_n hx hb dX12_learn_60 rfl (lv_at hl 0 rfl) ?_
          refine va_get (D := G) (ci := 12) (v := .int 0) (C := RX12) (T := TX12) (N := 33) hx hb hts inB12 hown hE.1 hP 1 rfl rfl 22 (by decide) (hts _ m_1345) (fun _ h9 => h9) rfl dX12_learn_61 ?_
          refine lv_icmp_lt (tgt := 74) hx hb dX12_learn_64 (by decide) (fun c_9 => ?_) (fun c_9 => ?_)
          · refine lv_iload_n hx hb dX12_learn_74 rfl (lv_at hl 3 rfl) ?_
            refine lv_iconst (v := (-1)) hx hb dX12_learn_75 (by decide) ?_
            refine lv_icmp_ne (tgt := 86) hx hb dX12_learn_76 (by decide) (fun c_10 => ?_) (fun c_10 => ?_)
            · refine lv_iload_n hx hb dX12_learn_86 rfl (lv_at hl 3 rfl) ?_
              refine lv_bipush (v := (-2)) hx hb dX12_learn_87 (by decide) ?_
              refine lv_icmp_ne (tgt := 99) hx hb dX12_learn_89 (by decide) (fun h9 => (kf_c_X12_learn_0 aa c_5 c_9 c_10 h9).elim) (fun c_11 => ?_)
              refine lv_aload_n hx hb dX12_learn_92 rfl (lv_at hl 0 rfl) ?_
              refine va_get (D := G) (ci := 12) (v := .int 0) (C := RX12) (T := TX12) (N := 33) hx hb hts inB12 hown hE.1 hP 1 rfl rfl 22 (by decide) (hts _ m_1345) (fun _ h9 => h9) rfl dX12_learn_93 ?_
              refine lv_goto (tgt := 105) hx hb dX12_learn_96 (by decide) ?_
              refine W.widen (k := 0) (n := 0) (by first | exact Nat.le_of_ble_eq_true rfl | omega) (by first | exact Nat.le_of_ble_eq_true rfl | omega) ?_
              exact W.iret (v := 0) hx hb hr (fun t ht hW => ⟨⟨0, (), rfl, (lf_c_X12_learn_1 akn aw aa h_2 h_4 c_5 h_8 c_9 c_10 c_11), trivial⟩, hS.F ht⟩) hS.2.2 dX12_learn_105
            · refine lv_aload_n hx hb dX12_learn_79 rfl (lv_at hl 0 rfl) ?_
              refine va_get (D := G) (ci := 12) (v := .int 0) (C := RX12) (T := TX12) (N := 33) hx hb hts inB12 hown hE.1 hP 1 rfl rfl 23 (by decide) (hts _ m_1346) (fun _ h9 => h9) rfl dX12_learn_80 ?_
              refine lv_goto (tgt := 105) hx hb dX12_learn_83 (by decide) ?_
              refine W.widen (k := 0) (n := 0) (by first | exact Nat.le_of_ble_eq_true rfl | omega) (by first | exact Nat.le_of_ble_eq_true rfl | omega) ?_
              exact W.iret (v := 0) hx hb hr (fun t ht hW => ⟨⟨0, (), rfl, (lf_c_X12_learn_2 akn aw aa h_2 h_4 c_5 h_8 c_9 c_10), trivial⟩, hS.F ht⟩) hS.2.2 dX12_learn_105
          · refine lv_aload_n hx hb dX12_learn_67 rfl (lv_at hl 0 rfl) ?_
            refine lv_ldc (v := (-1000002)) hx hb hown (hts _ m_1500) dX12_learn_68 ?_
            refine wV (B := (fun _ => True)) (wr := [(nw, .inl (cy 0, 3567, .inl nw0))]) (rest := []) hx hb hml hown hts hE (c_X12_finding l G cy sk H.size mo nw nk na fd ea so nd cd nmd pl tl fr_ rw_ brw po trc wi sz_ nu ca 0 (-1) 0 0 0 0 0 0 0 0 0 0 0 ff (-1000002) 2 (by decide) (vinL (by decide))) kV_X12_finding m_1434 rfl rfl ⟨(Nat.le_of_ble_eq_true rfl), (Nat.le_of_ble_eq_true rfl)⟩ hP hD hS hA 1 rfl rfl rfl [1, 0] [2] rfl rfl rfl rfl (by decide) rfl rfl hl.1 (Nat.le_of_ble_eq_true rfl) dX12_learn_70 ⟨(Nat.le_of_ble_eq_true rfl), (Nat.le_of_ble_eq_true rfl)⟩ (fun r_12 H locs hr_ haf hS => ?_)
            obtain ⟨-, -, hP, hD⟩ := haf
            have hP : va_P G classes [(nw, .inl (cy 0, 3567, .inl nw0))] H := hP
            have hD : va_D A [(nw, .inl (cy 0, 3567, .inl nw0))] := hD
            subst hr_
            refine W.widen (k := 0) (n := 0) (by first | exact Nat.le_of_ble_eq_true rfl | omega) (by first | exact Nat.le_of_ble_eq_true rfl | omega) ?_
            exact W.iret (v := (-1000002)) hx hb hr (fun t ht hW => ⟨⟨(-1000002), (), rfl, (lf_c_X12_learn_3 akn aw aa h_2 h_4 c_5 h_8 c_9), trivial⟩, hS.F ht⟩) hS.2.2 dX12_learn_73
        · refine lv_aload_n hx hb dX12_learn_52 rfl (lv_at hl 0 rfl) ?_
          refine va_get (D := G) (ci := 12) (v := .int (-1)) (C := RX12) (T := TX12) (N := 33) hx hb hts inB12 hown hE.1 hP 1 rfl rfl 22 (by decide) (hts _ m_1345) (fun _ h9 => h9) rfl dX12_learn_53 ?_
          refine lv_if_lt (tgt := 67) hx hb dX12_learn_56 (by decide) (fun _ => ?_) (fun h9 => absurd h9 (by decide))
          refine lv_aload_n hx hb dX12_learn_67 rfl (lv_at hl 0 rfl) ?_
          refine lv_ldc (v := (-1000002)) hx hb hown (hts _ m_1500) dX12_learn_68 ?_
          refine wV (B := (fun _ => True)) (wr := [(nw, .inl (cy 0, 3567, .inl nw0))]) (rest := []) hx hb hml hown hts hE (c_X12_finding l G cy sk H.size mo nw nk na fd ea so nd cd nmd pl tl fr_ rw_ brw po trc wi sz_ nu ca 0 (-1) 0 0 0 0 0 0 (-1) 0 0 0 0 ff (-1000002) 2 (by decide) (vinL (by decide))) kV_X12_finding m_1434 rfl rfl ⟨(Nat.le_of_ble_eq_true rfl), (Nat.le_of_ble_eq_true rfl)⟩ hP hD hS hA 1 rfl rfl rfl [1, 0] [2] rfl rfl rfl rfl (by decide) rfl rfl hl.1 (Nat.le_of_ble_eq_true rfl) dX12_learn_70 ⟨(Nat.le_of_ble_eq_true rfl), (Nat.le_of_ble_eq_true rfl)⟩ (fun r_13 H locs hr_ haf hS => ?_)
          obtain ⟨-, -, hP, hD⟩ := haf
          have hP : va_P G classes [(nw, .inl (cy 0, 3567, .inl nw0))] H := hP
          have hD : va_D A [(nw, .inl (cy 0, 3567, .inl nw0))] := hD
          subst hr_
          refine W.widen (k := 0) (n := 0) (by first | exact Nat.le_of_ble_eq_true rfl | omega) (by first | exact Nat.le_of_ble_eq_true rfl | omega) ?_
          exact W.iret (v := (-1000002)) hx hb hr (fun t ht hW => ⟨⟨(-1000002), (), rfl, (lf_c_X12_learn_4 akn aw aa h_2 h_4 c_5 h_8), trivial⟩, hS.F ht⟩) hS.2.2 dX12_learn_73
      · refine lv_aload_n hx hb dX12_learn_26 rfl (lv_at hl 0 rfl) ?_
        refine lv_ldc (v := (-1000001)) hx hb hown (hts _ m_1433) dX12_learn_27 ?_
        refine wV (B := (fun _ => True)) (wr := [(nw, .inl (cy 0, 3567, .inl nw0))]) (rest := []) hx hb hml hown hts hE (c_X12_finding l G cy sk s.heap.size mo nw nk na fd ea so nd cd nmd pl tl fr_ rw_ brw po trc wi sz_ nu ca 0 (-1) 0 0 0 0 0 0 0 0 0 0 0 ff (-1000001) 1 (by decide) (vinL (by decide))) kV_X12_finding m_1434 rfl rfl ⟨(Nat.le_of_ble_eq_true rfl), (Nat.le_of_ble_eq_true rfl)⟩ hP hD hS hA 0 rfl rfl rfl [0, 2] [1] rfl rfl rfl rfl (by decide) rfl rfl hl.1 (Nat.le_of_ble_eq_true rfl) dX12_learn_29 ⟨(Nat.le_of_ble_eq_true rfl), (Nat.le_of_ble_eq_true rfl)⟩ (fun r_14 H locs hr_ haf hS => ?_)
        obtain ⟨-, -, hP, hD⟩ := haf
        have hP : va_P G classes [(nw, .inl (cy 0, 3567, .inl nw0))] H := hP
        have hD : va_D A [(nw, .inl (cy 0, 3567, .inl nw0))] := hD
        subst hr_
        refine W.widen (k := 0) (n := 0) (by first | exact Nat.le_of_ble_eq_true rfl | omega) (by first | exact Nat.le_of_ble_eq_true rfl | omega) ?_
        exact W.iret (v := (-1000001)) hx hb hr (fun t ht hW => ⟨⟨(-1000001), (), rfl, (lf_c_X12_learn_5 akn aw aa h_2 h_4 c_5), trivial⟩, hS.F ht⟩) hS.2.2 dX12_learn_32
    · refine lv_if_eq (tgt := 26) hx hb dX12_learn_17 (by decide) (fun _ => ?_) (fun h9 => absurd h9 (by decide))
      refine lv_aload_n hx hb dX12_learn_26 rfl (lv_at hl 0 rfl) ?_
      refine lv_ldc (v := (-1000001)) hx hb hown (hts _ m_1433) dX12_learn_27 ?_
      refine wV (B := (fun _ => True)) (wr := [(nw, .inl (cy 0, 3567, .inl nw0))]) (rest := []) hx hb hml hown hts hE (c_X12_finding l G cy sk s.heap.size mo nw nk na fd ea so nd cd nmd pl tl fr_ rw_ brw po trc wi sz_ nu ca 0 (-1) 0 0 0 0 0 0 0 0 0 0 0 ff (-1000001) 1 (by decide) (vinL (by decide))) kV_X12_finding m_1434 rfl rfl ⟨(Nat.le_of_ble_eq_true rfl), (Nat.le_of_ble_eq_true rfl)⟩ hP hD hS hA 0 rfl rfl rfl [0, 2] [1] rfl rfl rfl rfl (by decide) rfl rfl hl.1 (Nat.le_of_ble_eq_true rfl) dX12_learn_29 ⟨(Nat.le_of_ble_eq_true rfl), (Nat.le_of_ble_eq_true rfl)⟩ (fun r_15 H locs hr_ haf hS => ?_)
      obtain ⟨-, -, hP, hD⟩ := haf
      have hP : va_P G classes [(nw, .inl (cy 0, 3567, .inl nw0))] H := hP
      have hD : va_D A [(nw, .inl (cy 0, 3567, .inl nw0))] := hD
      subst hr_
      refine W.widen (k := 0) (n := 0) (by first | exact Nat.le_of_ble_eq_true rfl | omega) (by first | exact Nat.le_of_ble_eq_true rfl | omega) ?_
      exact W.iret (v := (-1000001)) hx hb hr (fun t ht hW => ⟨⟨(-1000001), (), rfl, (lf_c_X12_learn_6 akn aw aa h_2 h_4), trivial⟩, hS.F ht⟩) hS.2.2 dX12_learn_32
  · refine lv_if_eq (tgt := 26) hx hb dX12_learn_7 (by decide) (fun _ => ?_) (fun h9 => absurd h9 (by decide))
    refine lv_aload_n hx hb dX12_learn_26 rfl (lv_at hl 0 rfl) ?_
    refine lv_ldc (v := (-1000001)) hx hb hown (hts _ m_1433) dX12_learn_27 ?_
    refine wV (B := (fun _ => True)) (wr := [(nw, .inl (cy 0, 3567, .inl nw0))]) (rest := []) hx hb hml hown hts hE (c_X12_finding l G cy sk s.heap.size mo nw nk na fd ea so nd cd nmd pl tl fr_ rw_ brw po trc wi sz_ nu ca 0 (-1) 0 0 0 0 0 0 0 0 0 0 0 ff (-1000001) 1 (by decide) (vinL (by decide))) kV_X12_finding m_1434 rfl rfl ⟨(Nat.le_of_ble_eq_true rfl), (Nat.le_of_ble_eq_true rfl)⟩ hP hD hS hA 0 rfl rfl rfl [0, 2] [1] rfl rfl rfl rfl (by decide) rfl rfl hl.1 (Nat.le_of_ble_eq_true rfl) dX12_learn_29 ⟨(Nat.le_of_ble_eq_true rfl), (Nat.le_of_ble_eq_true rfl)⟩ (fun r_16 H locs hr_ haf hS => ?_)
    obtain ⟨-, -, hP, hD⟩ := haf
    have hP : va_P G classes [(nw, .inl (cy 0, 3567, .inl nw0))] H := hP
    have hD : va_D A [(nw, .inl (cy 0, 3567, .inl nw0))] := hD
    subst hr_
    refine W.widen (k := 0) (n := 0) (by first | exact Nat.le_of_ble_eq_true rfl | omega) (by first | exact Nat.le_of_ble_eq_true rfl | omega) ?_
    exact W.iret (v := (-1000001)) hx hb hr (fun t ht hW => ⟨⟨(-1000001), (), rfl, (lf_c_X12_learn_7 akn aw aa h_2), trivial⟩, hS.F ht⟩) hS.2.2 dX12_learn_32
