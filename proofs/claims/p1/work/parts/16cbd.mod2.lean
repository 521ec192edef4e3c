theorem kf_c_X12_feed_0 (an : Int32) (h_2 : inR an 1 8) (h9 : ¬ an ≤ 48) : False := by simp only [inR, Int32.le_iff_toInt_le, Int32.lt_iff_toInt_lt] at *; simp at *; omega
theorem lf_c_X12_feed_1 (an : Int32) (kn : Nat) (g_ : Nat → Int32) (h_2 : inR an 1 8) (hkn : kn < 2 ^ 31) (ean : an = (nI kn)) (hkb : kn ≤ 8) (g4 : g_ 4 = (nI kn)) : ((nI kn) : Int32) = (F_feed an) := by (try subst ean); first | (simp only [F_feed, *, and_true, true_and, and_false, false_and, if_true, if_false]; done) | (simp [F_feed, *]; done) | (unfold F_feed; simp_all; done)
theorem lf_c_X12_feed_2 (an : Int32) (h_2 : ¬ inR an 1 8) : ((-1000001) : Int32) = (F_feed an) := by (try subst ean); first | (simp only [F_feed, *, and_true, true_and, and_false, false_and, if_true, if_false]; done) | (simp [F_feed, *]; done) | (unfold F_feed; simp_all; done)
set_option maxHeartbeats 4000000 in
set_option maxRecDepth 100000 in
theorem c_X12_feed (l : Launch) (G : va_G) (cy : Nat → ClassId) (sk : Nat → Nat) (sz : Nat) (mo : Nat) (nw : Nat) (nk : Nat) (na : Nat) (fd : Nat) (ea : Nat) (so : Nat) (nd : Nat) (cd : Nat) (nmd : Nat) (pl : Nat) (tl : Nat) (fr_ : Nat) (rw_ : Nat) (brw : Nat) (po : Nat) (trc : Nat) (wi : Nat) (sz_ : Nat) (nu : Nat) (ca : Nat) (ff : Nat → Int32) (awd : Int64) (an : Int32)  : Met l yX12_feed (wsO yX12_feed cX12_feed 5 (some .int)) ({ frames := 1, cells := 0, slots := 0, locals := 22 }) (va_Pc [.ref mo, .long awd, .int an] (PR G cy sk sz [(mo, .inr (12, [.ref nw, .ref nk, .ref na, .int 0, .ref fd, .ref ea, .ref so, .int (-1), .ref nd, .int 0, .int 0, .int 0, .int 0, .int 0, .int 0, .ref cd, .ref nmd, .ref pl, .ref tl, .ref fr_, .ref rw_, .ref brw, .int 0, .int 0, .ref po, .ref trc, .int 0, .int 0, .int 0, .ref wi, .ref sz_, .ref nu, .ref ca])), (nw, .inl (cy 0, 3567, .inl nw0)), (fd, .inl (cy 0, 7, .inl ff))])) (va_Qi (fun r (_ : Unit) => r = (F_feed an)) (fun _ _ => True) (va_A [(mo, .inr (12, [.ref nw, .ref nk, .ref na, .int 0, .ref fd, .ref ea, .ref so, .int (-1), .ref nd, .int 0, .int 0, .int 0, .int 0, .int 0, .int 0, .ref cd, .ref nmd, .ref pl, .ref tl, .ref fr_, .ref rw_, .ref brw, .int 0, .int 0, .ref po, .ref trc, .int 0, .int 0, .int 0, .ref wi, .ref sz_, .ref nu, .ref ca])), (nw, .inl (cy 0, 3567, .inl nw0)), (fd, .inl (cy 0, 7, .inl ff))] sz)) 0 0 (va_A [(mo, .inr (12, [.ref nw, .ref nk, .ref na, .int 0, .ref fd, .ref ea, .ref so, .int (-1), .ref nd, .int 0, .int 0, .int 0, .int 0, .int 0, .int 0, .ref cd, .ref nmd, .ref pl, .ref tl, .ref fr_, .ref rw_, .ref brw, .int 0, .int 0, .ref po, .ref trc, .int 0, .int 0, .int 0, .ref wi, .ref sz_, .ref nu, .ref ca])), (nw, .inl (cy 0, 3567, .inl nw0)), (fd, .inl (cy 0, 7, .inl ff))] sz) := by
  refine mt (by decide) (Nat.le_of_ble_eq_true rfl) ?_
  intro p e s m below meth c ls hx hb hr hml hts hown hlocks hin hsz hP hE hD hl
  subst hsz
  have hl : lv_has ls 5 [(0, .ref mo), (1, .long awd), (3, .int an)] := hl
  have hD := hD.self (sz := s.heap.size)
  generalize hAe : va_A [(mo, .inr (12, [.ref nw, .ref nk, .ref na, .int 0, .ref fd, .ref ea, .ref so, .int (-1), .ref nd, .int 0, .int 0, .int 0, .int 0, .int 0, .int 0, .ref cd, .ref nmd, .ref pl, .ref tl, .ref fr_, .ref rw_, .ref brw, .int 0, .int 0, .ref po, .ref trc, .int 0, .int 0, .int 0, .ref wi, .ref sz_, .ref nu, .ref ca])), (nw, .inl (cy 0, 3567, .inl nw0)), (fd, .inl (cy 0, 7, .inl ff))] s.heap.size = A at hD ⊢
  have hA : ∀ q : Nat, s.heap.size ≤ q → A q := fun q h => by rw [← hAe]; exact Or.inr h
  have hS : va_S A s.heap s.heap [] := va_S.rf
  refine lv_iload_n hx hb dX12_feed_0 rfl (lv_at hl 2 rfl) ?_
  refine lv_iconst (v := 1) hx hb dX12_feed_1 (by decide) ?_
  refine lv_bipush (v := 8) hx hb dX12_feed_2 (by decide) ?_
  refine rS (rest := []) hx hb hml hown hts hE (c_X12_within l G cy sk s.heap.size an 1 8) kS_X12_within m_1427 rfl rfl ⟨(Nat.le_of_ble_eq_true rfl), (Nat.le_of_ble_eq_true rfl)⟩ hP hD [] rfl rfl rfl rfl hl.1 (Nat.le_of_ble_eq_true rfl) dX12_feed_4 ⟨(Nat.le_of_ble_eq_true rfl), (Nat.le_of_ble_eq_true rfl)⟩ (fun r_1 hr_ => ?_)
  rcases hr_ with ⟨rfl, h_2⟩ | ⟨rfl, h_2⟩
  · refine lv_if_ne (tgt := 17) hx hb dX12_feed_7 (by decide) (fun _ => ?_) (fun h9 => absurd h9 (by decide))
    refine lv_aload_n hx hb dX12_feed_17 rfl (lv_at hl 0 rfl) ?_
    refine va_get (D := G) (ci := 12) (v := .ref nw) (C := RX12) (T := TX12) (N := 33) hx hb hts inB12 hown hE.1 hP 0 rfl rfl 0 (by decide) (hts _ m_1323) (fun _ h9 => h9) rfl dX12_feed_18 ?_
    refine lv_iconst (v := 4) hx hb dX12_feed_21 (by decide) ?_
    refine va_iald hx hb hE.1 hP 1 0 rfl rfl (vinL (by decide)) dX12_feed_22 ?_
    refine tp (v := 0) rfl ?_
    refine lv_iload_n hx hb dX12_feed_23 rfl (lv_at hl 2 rfl) ?_
    refine lv_iadd hx hb dX12_feed_24 ?_
    refine tp (v := an) (Int32.zero_add _) ?_
    refine lv_bipush (v := 48) hx hb dX12_feed_25 (by decide) ?_
    refine lv_icmp_le (tgt := 37) hx hb dX12_feed_27 (by decide) (fun _ => ?_) (fun h9 => (kf_c_X12_feed_0 an h_2 h9).elim)
    refine lv_iconst (v := 0) hx hb dX12_feed_37 (by decide) ?_
    refine lv_istore (lv' := [(4, .int 0), (0, .ref mo), (1, .long awd), (3, .int an)]) hx hb dX12_feed_38 hl (by decide) rfl (fun ls hl => ?_)
    obtain ⟨kn, hkn, ean⟩ := inRn h_2 (by decide)
    have hkb : kn ≤ 8 := inRb (ean ▸ h_2) hkn rfl
    rw [ean] at hl
    have lp : ∀ (nn i : Nat), i ≤ kn → kn + 1 ≤ i + nn → ∀ (g_ : Nat → Int32), (g_ 4 = (nI i)) → ∀ (H : Heap) (locs : List Loc), va_P G classes [(mo, .inr (12, [.ref nw, .ref nk, .ref na, .int 0, .ref fd, .ref ea, .ref so, .int (-1), .ref nd, .int 0, .int 0, .int 0, .int 0, .int 0, .int 0, .ref cd, .ref nmd, .ref pl, .ref tl, .ref fr_, .ref rw_, .ref brw, .int 0, .int 0, .ref po, .ref trc, .int 0, .int 0, .int 0, .ref wi, .ref sz_, .ref nu, .ref ca])), (nw, .inl (cy 0, 3567, .inl g_)), (fd, .inl (cy 0, 7, .inl ff))] H → va_D A [(mo, .inr (12, [.ref nw, .ref nk, .ref na, .int 0, .ref fd, .ref ea, .ref so, .int (-1), .ref nd, .int 0, .int 0, .int 0, .int 0, .int 0, .int 0, .ref cd, .ref nmd, .ref pl, .ref tl, .ref fr_, .ref rw_, .ref brw, .int 0, .int 0, .ref po, .ref trc, .int 0, .int 0, .int 0, .ref wi, .ref sz_, .ref nu, .ref ca])), (nw, .inl (cy 0, 3567, .inl g_)), (fd, .inl (cy 0, 7, .inl ff))] → va_S A s.heap H locs → ∀ (ls : Array Slot), lv_has ls 5 [(4, .int (nI i)), (0, .ref mo), (1, .long awd), (3, .int (nI kn))] → W p l e (headSpec (wsO yX12_feed cX12_feed 5 (some .int)) ({ frames := 1, cells := 0, slots := 0, locals := 22 })).room s m [.ref mo, .long awd, .int an].toArray below meth c H locs 0 0 (MQ below (va_Qi (fun r (_ : Unit) => r = (F_feed an)) (fun _ _ => True) A) [.ref mo, .long awd, .int an].toArray s 0 0 A) (F0 m 40 ls []) := by
      intro nn
      induction nn with
      | zero => intro i h1 h2; exact absurd h2 (by omega)
      | succ nn ih =>
        intro i hi hin0 g_ g4 H locs hP hD hS ls hl
        rcases Nat.lt_or_ge i kn with hlt | hge
        · refine lv_iload hx hb dX12_feed_40 (lv_at hl 0 rfl) ?_
          refine lv_iload_n hx hb dX12_feed_42 rfl (lv_at hl 3 rfl) ?_
          refine lv_icmp_ge (tgt := 89) hx hb dX12_feed_43 (by decide) (fun h9 => absurd h9 (nI_ge hlt hkn)) (fun _ => ?_)
          refine lv_aload_n hx hb dX12_feed_46 rfl (lv_at hl 1 rfl) ?_
          refine va_get (D := G) (ci := 12) (v := .ref nw) (C := RX12) (T := TX12) (N := 33) hx hb hts inB12 hown hE.1 hP 0 rfl rfl 0 (by decide) (hts _ m_1323) (fun _ h9 => h9) rfl dX12_feed_47 ?_
          refine lv_sipush (v := 273) hx hb dX12_feed_50 (by decide) ?_
          refine lv_aload_n hx hb dX12_feed_53 rfl (lv_at hl 1 rfl) ?_
          refine va_get (D := G) (ci := 12) (v := .ref nw) (C := RX12) (T := TX12) (N := 33) hx hb hts inB12 hown hE.1 hP 0 rfl rfl 0 (by decide) (hts _ m_1323) (fun _ h9 => h9) rfl dX12_feed_54 ?_
          refine lv_iconst (v := 4) hx hb dX12_feed_57 (by decide) ?_
          refine va_iald hx hb hE.1 hP 1 0 rfl rfl (vinL (by decide)) dX12_feed_58 ?_
          refine tp (v := (nI i)) g4 ?_
          refine lv_iadd hx hb dX12_feed_59 ?_
          refine tp (v := (nI (273 + i))) (nI_add 273 i) ?_
          refine lv_lload_n hx hb dX12_feed_60 rfl (lv_at hl 2 rfl) ?_
          refine lv_bipush (v := 8) hx hb dX12_feed_61 (by decide) ?_
          refine lv_iload hx hb dX12_feed_63 (lv_at hl 0 rfl) ?_
          refine lv_imul hx hb dX12_feed_65 ?_
          obtain ⟨z3, ez3⟩ : ∃ z : Int64, z = ((awd) >>> (((8 * (nI i))).toInt64 &&& 63)) := ⟨_, rfl⟩
          refine lv_lshr (v := z3) hx hb dX12_feed_66 ez3.symm ?_
          refine lv_ldc2 (v := 255) hx hb hown (hts _ m_1554) dX12_feed_67 ?_
          refine lv_land hx hb dX12_feed_70 ?_
          obtain ⟨z4, ez4⟩ : ∃ z : Int32, z = ((z3 &&& 255)).toInt32 := ⟨_, rfl⟩
          refine lv_l2i (v := z4) hx hb dX12_feed_71 ez4.symm ?_
          refine va_iast hx hb hE.1 hP hD hS 1 0 rfl rfl (vp_in_nI (by omega) (by decide)) dX12_feed_72 (fun H locs hP hD hS => ?_)
          have hP : va_P G classes [(mo, .inr (12, [.ref nw, .ref nk, .ref na, .int 0, .ref fd, .ref ea, .ref so, .int (-1), .ref nd, .int 0, .int 0, .int 0, .int 0, .int 0, .int 0, .ref cd, .ref nmd, .ref pl, .ref tl, .ref fr_, .ref rw_, .ref brw, .int 0, .int 0, .ref po, .ref trc, .int 0, .int 0, .int 0, .ref wi, .ref sz_, .ref nu, .ref ca])), (nw, .inl (cy 0, 3567, .inl (upd g_ ((nI (273 + i))).toNatClampNeg z4))), (fd, .inl (cy 0, 7, .inl ff))] H := hP
          have hD : va_D A [(mo, .inr (12, [.ref nw, .ref nk, .ref na, .int 0, .ref fd, .ref ea, .ref so, .int (-1), .ref nd, .int 0, .int 0, .int 0, .int 0, .int 0, .int 0, .ref cd, .ref nmd, .ref pl, .ref tl, .ref fr_, .ref rw_, .ref brw, .int 0, .int 0, .ref po, .ref trc, .int 0, .int 0, .int 0, .ref wi, .ref sz_, .ref nu, .ref ca])), (nw, .inl (cy 0, 3567, .inl (upd g_ ((nI (273 + i))).toNatClampNeg z4))), (fd, .inl (cy 0, 7, .inl ff))] := hD
          refine lv_aload_n hx hb dX12_feed_73 rfl (lv_at hl 1 rfl) ?_
          refine va_get (D := G) (ci := 12) (v := .ref nw) (C := RX12) (T := TX12) (N := 33) hx hb hts inB12 hown hE.1 hP 0 rfl rfl 0 (by decide) (hts _ m_1323) (fun _ h9 => h9) rfl dX12_feed_74 ?_
          refine lv_iconst (v := 4) hx hb dX12_feed_77 (by decide) ?_
          refine lv_dup2_11 hx hb dX12_feed_78 rfl rfl ?_
          refine va_iald hx hb hE.1 hP 1 0 rfl rfl (vinL (by decide)) dX12_feed_79 ?_
          refine tp (v := (nI i)) (updN (b := 4) (by omega) (by omega) g4) ?_
          refine lv_iconst (v := 1) hx hb dX12_feed_80 (by decide) ?_
          refine lv_iadd hx hb dX12_feed_81 ?_
          refine tp (v := (nI (i + 1))) (nI_1 i) ?_
          refine va_iast hx hb hE.1 hP hD hS 1 0 rfl rfl (vinL (by decide)) dX12_feed_82 (fun H locs hP hD hS => ?_)
          have hP : va_P G classes [(mo, .inr (12, [.ref nw, .ref nk, .ref na, .int 0, .ref fd, .ref ea, .ref so, .int (-1), .ref nd, .int 0, .int 0, .int 0, .int 0, .int 0, .int 0, .ref cd, .ref nmd, .ref pl, .ref tl, .ref fr_, .ref rw_, .ref brw, .int 0, .int 0, .ref po, .ref trc, .int 0, .int 0, .int 0, .ref wi, .ref sz_, .ref nu, .ref ca])), (nw, .inl (cy 0, 3567, .inl (upd (upd g_ ((nI (273 + i))).toNatClampNeg z4) 4 (nI (i + 1))))), (fd, .inl (cy 0, 7, .inl ff))] H := hP
          have hD : va_D A [(mo, .inr (12, [.ref nw, .ref nk, .ref na, .int 0, .ref fd, .ref ea, .ref so, .int (-1), .ref nd, .int 0, .int 0, .int 0, .int 0, .int 0, .int 0, .ref cd, .ref nmd, .ref pl, .ref tl, .ref fr_, .ref rw_, .ref brw, .int 0, .int 0, .ref po, .ref trc, .int 0, .int 0, .int 0, .ref wi, .ref sz_, .ref nu, .ref ca])), (nw, .inl (cy 0, 3567, .inl (upd (upd g_ ((nI (273 + i))).toNatClampNeg z4) 4 (nI (i + 1))))), (fd, .inl (cy 0, 7, .inl ff))] := hD
          refine lv_iinc (v := (nI (i + 1))) (lv' := [(4, .int (nI (i + 1))), (0, .ref mo), (1, .long awd), (3, .int (nI kn))]) hx hb dX12_feed_83 hl (k := 0) rfl (nI_1 (i)) (by decide) rfl (fun ls hl => ?_)
          refine lv_goto (tgt := 40) hx hb dX12_feed_86 (by decide) ?_
          exact ih (i + 1) hlt (by omega) (upd (upd g_ ((nI (273 + i))).toNatClampNeg z4) 4 (nI (i + 1))) rfl _ _ hP hD hS ls (lv_sub hl [0, 1, 2, 3] rfl)
        · have hie : kn = i := Nat.le_antisymm hge hi
          subst hie
          refine lv_iload hx hb dX12_feed_40 (lv_at hl 0 rfl) ?_
          refine lv_iload_n hx hb dX12_feed_42 rfl (lv_at hl 3 rfl) ?_
          refine lv_icmp_ge (tgt := 89) hx hb dX12_feed_43 (by decide) (fun _ => ?_) (fun h9 => absurd (Int32.le_refl _) h9)
          refine lv_aload_n hx hb dX12_feed_89 rfl (lv_at hl 1 rfl) ?_
          refine va_get (D := G) (ci := 12) (v := .ref nw) (C := RX12) (T := TX12) (N := 33) hx hb hts inB12 hown hE.1 hP 0 rfl rfl 0 (by decide) (hts _ m_1323) (fun _ h9 => h9) rfl dX12_feed_90 ?_
          refine lv_iconst (v := 4) hx hb dX12_feed_93 (by decide) ?_
          refine va_iald hx hb hE.1 hP 1 0 rfl rfl (vinL (by decide)) dX12_feed_94 ?_
          refine tp (v := (nI kn)) g4 ?_
          refine W.widen (k := 0) (n := 0) (by first | exact Nat.le_of_ble_eq_true rfl | omega) (by first | exact Nat.le_of_ble_eq_true rfl | omega) ?_
          exact W.iret (v := (nI kn)) hx hb hr (fun t ht hW => ⟨⟨(nI kn), (), rfl, (lf_c_X12_feed_1 an kn g_ h_2 hkn ean hkb g4), trivial⟩, hS.F ht⟩) hS.2.2 dX12_feed_95
    exact lp (kn + 1) 0 (Nat.zero_le _) (by omega) nw0 rfl _ _ hP hD hS ls (lv_sub hl [0, 1, 2, 3] rfl)
  · refine lv_if_ne (tgt := 17) hx hb dX12_feed_7 (by decide) (fun h9 => absurd h9 (by decide)) (fun _ => ?_)
    refine lv_aload_n hx hb dX12_feed_10 rfl (lv_at hl 0 rfl) ?_
    refine lv_ldc (v := (-1000001)) hx hb hown (hts _ m_1433) dX12_feed_11 ?_
    refine wV (B := (fun _ => True)) (wr := [(nw, .inl (cy 0, 3567, .inl nw0))]) (rest := []) hx hb hml hown hts hE (c_X12_finding l G cy sk s.heap.size mo nw nk na fd ea so nd cd nmd pl tl fr_ rw_ brw po trc wi sz_ nu ca 0 (-1) 0 0 0 0 0 0 0 0 0 0 0 ff (-1000001) 1 (by decide) (vinL (by decide))) kV_X12_finding m_1434 rfl rfl ⟨(Nat.le_of_ble_eq_true rfl), (Nat.le_of_ble_eq_true rfl)⟩ hP hD hS hA 0 rfl rfl rfl [0, 2] [1] rfl rfl rfl rfl (by decide) rfl rfl hl.1 (Nat.le_of_ble_eq_true rfl) dX12_feed_13 ⟨(Nat.le_of_ble_eq_true rfl), (Nat.le_of_ble_eq_true rfl)⟩ (fun r_5 H locs hr_ haf hS => ?_)
    obtain ⟨-, -, hP, hD⟩ := haf
    have hP : va_P G classes [(nw, .inl (cy 0, 3567, .inl nw0))] H := hP
    have hD : va_D A [(nw, .inl (cy 0, 3567, .inl nw0))] := hD
    subst hr_
    refine W.widen (k := 0) (n := 0) (by first | exact Nat.le_of_ble_eq_true rfl | omega) (by first | exact Nat.le_of_ble_eq_true rfl | omega) ?_
    exact W.iret (v := (-1000001)) hx hb hr (fun t ht hW => ⟨⟨(-1000001), (), rfl, (lf_c_X12_feed_2 an h_2), trivial⟩, hS.F ht⟩) hS.2.2 dX12_feed_16
theorem lf_c_X12_text__0 (au : Int32) (h_2 : inR au 0 2) : ((-10) : Int32) = (F_text au) := by first | (simp only [F_text, *, and_true, true_and, and_false, false_and, if_true, if_false]; done) | (simp [F_text, *]; done) | (unfold F_text; simp_all; done)
theorem lf_c_X12_text__1 (au : Int32) (h_2 : ¬ inR au 0 2) : ((-1000001) : Int32) = (F_text au) := by first | (simp only [F_text, *, and_true, true_and, and_false, false_and, if_true, if_false]; done) | (simp [F_text, *]; done) | (unfold F_text; simp_all; done)
set_option maxHeartbeats 4000000 in
set_option maxRecDepth 100000 in
theorem c_X12_text_ (l : Launch) (G : va_G) (cy : Nat → ClassId) (sk : Nat → Nat) (sz : Nat) (mo : Nat) (nw : Nat) (nk : Nat) (na : Nat) (fd : Nat) (ea : Nat) (so : Nat) (nd : Nat) (cd : Nat) (nmd : Nat) (pl : Nat) (tl : Nat) (fr_ : Nat) (rw_ : Nat) (brw : Nat) (po : Nat) (trc : Nat) (wi : Nat) (sz_ : Nat) (nu : Nat) (ca : Nat) (ff : Nat → Int32) (au : Int32)  : Met l yX12_text_ (wsO yX12_text_ cX12_text_ 3 (some .int)) ({ frames := 5, cells := 0, slots := 0, locals := 108 }) (va_Pc [.ref mo, .int au] (PR G cy sk sz [(mo, .inr (12, [.ref nw, .ref nk, .ref na, .int 0, .ref fd, .ref ea, .ref so, .int (-1), .ref nd, .int 0, .int 0, .int 0, .int 0, .int 0, .int 0, .ref cd, .ref nmd, .ref pl, .ref tl, .ref fr_, .ref rw_, .ref brw, .int 0, .int 0, .ref po, .ref trc, .int 0, .int 0, .int 0, .ref wi, .ref sz_, .ref nu, .ref ca])), (nw, .inl (cy 0, 3567, .inl nw0)), (fd, .inl (cy 0, 7, .inl ff))])) (va_Qi (fun r (_ : Unit) => r = (F_text au)) (fun _ _ => True) (va_A [(mo, .inr (12, [.ref nw, .ref nk, .ref na, .int 0, .ref fd, .ref ea, .ref so, .int (-1), .ref nd, .int 0, .int 0, .int 0, .int 0, .int 0, .int 0, .ref cd, .ref nmd, .ref pl, .ref tl, .ref fr_, .ref rw_, .ref brw, .int 0, .int 0, .ref po, .ref trc, .int 0, .int 0, .int 0, .ref wi, .ref sz_, .ref nu, .ref ca])), (nw, .inl (cy 0, 3567, .inl nw0)), (fd, .inl (cy 0, 7, .inl ff))] sz)) 0 0 (va_A [(mo, .inr (12, [.ref nw, .ref nk, .ref na, .int 0, .ref fd, .ref ea, .ref so, .int (-1), .ref nd, .int 0, .int 0, .int 0, .int 0, .int 0, .int 0, .ref cd, .ref nmd, .ref pl, .ref tl, .ref fr_, .ref rw_, .ref brw, .int 0, .int 0, .ref po, .ref trc, .int 0, .int 0, .int 0, .ref wi, .ref sz_, .ref nu, .ref ca])), (nw, .inl (cy 0, 3567, .inl nw0)), (fd, .inl (cy 0, 7, .inl ff))] sz) := by
  refine mt (by decide) (Nat.le_of_ble_eq_true rfl) ?_
  intro p e s m below meth c ls hx hb hr hml hts hown hlocks hin hsz hP hE hD hl
  subst hsz
  have hl : lv_has ls 3 [(0, .ref mo), (1, .int au)] := hl
  have hD := hD.self (sz := s.heap.size)
  generalize hAe : va_A [(mo, .inr (12, [.ref nw, .ref nk, .ref na, .int 0, .ref fd, .ref ea, .ref so, .int (-1), .ref nd, .int 0, .int 0, .int 0, .int 0, .int 0, .int 0, .ref cd, .ref nmd, .ref pl, .ref tl, .ref fr_, .ref rw_, .ref brw, .int 0, .int 0, .ref po, .ref trc, .int 0, .int 0, .int 0, .ref wi, .ref sz_, .ref nu, .ref ca])), (nw, .inl (cy 0, 3567, .inl nw0)), (fd, .inl (cy 0, 7, .inl ff))] s.heap.size = A at hD ⊢
  have hA : ∀ q : Nat, s.heap.size ≤ q → A q := fun q h => by rw [← hAe]; exact Or.inr h
  have hS : va_S A s.heap s.heap [] := va_S.rf
  refine lv_iload_n hx hb dX12_text__0 rfl (lv_at hl 1 rfl) ?_
  refine lv_iconst (v := 0) hx hb dX12_text__1 (by decide) ?_
  refine lv_iconst (v := 2) hx hb dX12_text__2 (by decide) ?_
  refine rS (rest := []) hx hb hml hown hts hE (c_X12_within l G cy sk s.heap.size au 0 2) kS_X12_within m_1427 rfl rfl ⟨(Nat.le_of_ble_eq_true rfl), (Nat.le_of_ble_eq_true rfl)⟩ hP hD [] rfl rfl rfl rfl hl.1 (Nat.le_of_ble_eq_true rfl) dX12_text__3 ⟨(Nat.le_of_ble_eq_true rfl), (Nat.le_of_ble_eq_true rfl)⟩ (fun r_1 hr_ => ?_)
  rcases hr_ with ⟨rfl, h_2⟩ | ⟨rfl, h_2⟩
  · refine lv_if_ne (tgt := 16) hx hb dX12_text__6 (by decide) (fun _ => ?_) (fun h9 => absurd h9 (by decide))
    refine lv_aload_n hx hb dX12_text__16 rfl (lv_at hl 0 rfl) ?_
    refine lv_iload_n hx hb dX12_text__17 rfl (lv_at hl 1 rfl) ?_
    refine va_put (D := G) (ci := 12) (v := .int au) (ty := .int) (C := RX12) (T := TX12) (N := 33) hx hb hts inB12 tyX12 tyX12_ok nmX12 hown hE.1 hP hD hS 0 rfl rfl 10 (by decide) (hts _ m_1333) (fun _ h9 => h9) rfl (by decide +kernel) rfl rfl (Nat.le_of_ble_eq_true rfl) dX12_text__18 (fun H locs hP hD hS => ?_)
    have hP : va_P G classes [(mo, .inr (12, [.ref nw, .ref nk, .ref na, .int 0, .ref fd, .ref ea, .ref so, .int (-1), .ref nd, .int 0, .int au, .int 0, .int 0, .int 0, .int 0, .ref cd, .ref nmd, .ref pl, .ref tl, .ref fr_, .ref rw_, .ref brw, .int 0, .int 0, .ref po, .ref trc, .int 0, .int 0, .int 0, .ref wi, .ref sz_, .ref nu, .ref ca])), (nw, .inl (cy 0, 3567, .inl nw0)), (fd, .inl (cy 0, 7, .inl ff))] H := hP
    have hD : va_D A [(mo, .inr (12, [.ref nw, .ref nk, .ref na, .int 0, .ref fd, .ref ea, .ref so, .int (-1), .ref nd, .int 0, .int au, .int 0, .int 0, .int 0, .int 0, .ref cd, .ref nmd, .ref pl, .ref tl, .ref fr_, .ref rw_, .ref brw, .int 0, .int 0, .ref po, .ref trc, .int 0, .int 0, .int 0, .ref wi, .ref sz_, .ref nu, .ref ca])), (nw, .inl (cy 0, 3567, .inl nw0)), (fd, .inl (cy 0, 7, .inl ff))] := hD
    refine lv_aload_n hx hb dX12_text__21 rfl (lv_at hl 0 rfl) ?_
    refine lv_iconst (v := 0) hx hb dX12_text__22 (by decide) ?_
    refine va_put (D := G) (ci := 12) (v := .int 0) (ty := .int) (C := RX12) (T := TX12) (N := 33) hx hb hts inB12 tyX12 tyX12_ok nmX12 hown hE.1 hP hD hS 0 rfl rfl 9 (by decide) (hts _ m_1332) (fun _ h9 => h9) rfl (by decide +kernel) rfl rfl (Nat.le_of_ble_eq_true rfl) dX12_text__23 (fun H locs hP hD hS => ?_)
    have hP : va_P G classes [(mo, .inr (12, [.ref nw, .ref nk, .ref na, .int 0, .ref fd, .ref ea, .ref so, .int (-1), .ref nd, .int 0, .int au, .int 0, .int 0, .int 0, .int 0, .ref cd, .ref nmd, .ref pl, .ref tl, .ref fr_, .ref rw_, .ref brw, .int 0, .int 0, .ref po, .ref trc, .int 0, .int 0, .int 0, .ref wi, .ref sz_, .ref nu, .ref ca])), (nw, .inl (cy 0, 3567, .inl nw0)), (fd, .inl (cy 0, 7, .inl ff))] H := hP
    have hD : va_D A [(mo, .inr (12, [.ref nw, .ref nk, .ref na, .int 0, .ref fd, .ref ea, .ref so, .int (-1), .ref nd, .int 0, .int au, .int 0, .int 0, .int 0, .int 0, .ref cd, .ref nmd, .ref pl, .ref tl, .ref fr_, .ref rw_, .ref brw, .int 0, .int 0, .ref po, .ref trc, .int 0, .int 0, .int 0, .ref wi, .ref sz_, .ref nu, .ref ca])), (nw, .inl (cy 0, 3567, .inl nw0)), (fd, .inl (cy 0, 7, .inl ff))] := hD
    refine lv_aload_n hx hb dX12_text__26 rfl (lv_at hl 0 rfl) ?_
    refine lv_iconst (v := 0) hx hb dX12_text__27 (by decide) ?_
    refine va_put (D := G) (ci := 12) (v := .int 0) (ty := .int) (C := RX12) (T := TX12) (N := 33) hx hb hts inB12 tyX12 tyX12_ok nmX12 hown hE.1 hP hD hS 0 rfl rfl 11 (by decide) (hts _ m_1334) (fun _ h9 => h9) rfl (by decide +kernel) rfl rfl (Nat.le_of_ble_eq_true rfl) dX12_text__28 (fun H locs hP hD hS => ?_)
    have hP : va_P G classes [(mo, .inr (12, [.ref nw, .ref nk, .ref na, .int 0, .ref fd, .ref ea, .ref so, .int (-1), .ref nd, .int 0, .int au, .int 0, .int 0, .int 0, .int 0, .ref cd, .ref nmd, .ref pl, .ref tl, .ref fr_, .ref rw_, .ref brw, .int 0, .int 0, .ref po, .ref trc, .int 0, .int 0, .int 0, .ref wi, .ref sz_, .ref nu, .ref ca])), (nw, .inl (cy 0, 3567, .inl nw0)), (fd, .inl (cy 0, 7, .inl ff))] H := hP
    have hD : va_D A [(mo, .inr (12, [.ref nw, .ref nk, .ref na, .int 0, .ref fd, .ref ea, .ref so, .int (-1), .ref nd, .int 0, .int au, .int 0, .int 0, .int 0, .int 0, .ref cd, .ref nmd, .ref pl, .ref tl, .ref fr_, .ref rw_, .ref brw, .int 0, .int 0, .ref po, .ref trc, .int 0, .int 0, .int 0, .ref wi, .ref sz_, .ref nu, .ref ca])), (nw, .inl (cy 0, 3567, .inl nw0)), (fd, .inl (cy 0, 7, .inl ff))] := hD
    refine lv_aload_n hx hb dX12_text__31 rfl (lv_at hl 0 rfl) ?_
    refine lv_iconst (v := 0) hx hb dX12_text__32 (by decide) ?_
    refine va_put (D := G) (ci := 12) (v := .int 0) (ty := .int) (C := RX12) (T := TX12) (N := 33) hx hb hts inB12 tyX12 tyX12_ok nmX12 hown hE.1 hP hD hS 0 rfl rfl 12 (by decide) (hts _ m_1335) (fun _ h9 => h9) rfl (by decide +kernel) rfl rfl (Nat.le_of_ble_eq_true rfl) dX12_text__33 (fun H locs hP hD hS => ?_)
    have hP : va_P G classes [(mo, .inr (12, [.ref nw, .ref nk, .ref na, .int 0, .ref fd, .ref ea, .ref so, .int (-1), .ref nd, .int 0, .int au, .int 0, .int 0, .int 0, .int 0, .ref cd, .ref nmd, .ref pl, .ref tl, .ref fr_, .ref rw_, .ref brw, .int 0, .int 0, .ref po, .ref trc, .int 0, .int 0, .int 0, .ref wi, .ref sz_, .ref nu, .ref ca])), (nw, .inl (cy 0, 3567, .inl nw0)), (fd, .inl (cy 0, 7, .inl ff))] H := hP
    have hD : va_D A [(mo, .inr (12, [.ref nw, .ref nk, .ref na, .int 0, .ref fd, .ref ea, .ref so, .int (-1), .ref nd, .int 0, .int au, .int 0, .int 0, .int 0, .int 0, .ref cd, .ref nmd, .ref pl, .ref tl, .ref fr_, .ref rw_, .ref brw, .int 0, .int 0, .ref po, .ref trc, .int 0, .int 0, .int 0, .ref wi, .ref sz_, .ref nu, .ref ca])), (nw, .inl (cy 0, 3567, .inl nw0)), (fd, .inl (cy 0, 7, .inl ff))] := hD
    refine lv_aload_n hx hb dX12_text__36 rfl (lv_at hl 0 rfl) ?_
    refine lv_iconst (v := 0) hx hb dX12_text__37 (by decide) ?_
    refine va_put (D := G) (ci := 12) (v := .int 0) (ty := .boolean) (C := RX12) (T := TX12) (N := 33) hx hb hts inB12 tyX12 tyX12_ok nmX12 hown hE.1 hP hD hS 0 rfl rfl 13 (by decide) (hts _ m_1336) (fun _ h9 => h9) rfl (by decide +kernel) rfl rfl (Nat.le_of_ble_eq_true rfl) dX12_text__38 (fun H locs hP hD hS => ?_)
    have hP : va_P G classes [(mo, .inr (12, [.ref nw, .ref nk, .ref na, .int 0, .ref fd, .ref ea, .ref so, .int (-1), .ref nd, .int 0, .int au, .int 0, .int 0, .int 0, .int 0, .ref cd, .ref nmd, .ref pl, .ref tl, .ref fr_, .ref rw_, .ref brw, .int 0, .int 0, .ref po, .ref trc, .int 0, .int 0, .int 0, .ref wi, .ref sz_, .ref nu, .ref ca])), (nw, .inl (cy 0, 3567, .inl nw0)), (fd, .inl (cy 0, 7, .inl ff))] H := hP
    have hD : va_D A [(mo, .inr (12, [.ref nw, .ref nk, .ref na, .int 0, .ref fd, .ref ea, .ref so, .int (-1), .ref nd, .int 0, .int au, .int 0, .int 0, .int 0, .int 0, .ref cd, .ref nmd, .ref pl, .ref tl, .ref fr_, .ref rw_, .ref brw, .int 0, .int 0, .ref po, .ref trc, .int 0, .int 0, .int 0, .ref wi, .ref sz_, .ref nu, .ref ca])), (nw, .inl (cy 0, 3567, .inl nw0)), (fd, .inl (cy 0, 7, .inl ff))] := hD
    refine lv_aload_n hx hb dX12_text__41 rfl (lv_at hl 0 rfl) ?_
    refine lv_iconst (v := 0) hx hb dX12_text__42 (by decide) ?_
    refine va_put (D := G) (ci := 12) (v := .int 0) (ty := .int) (C := RX12) (T := TX12) (N := 33) hx hb hts inB12 tyX12 tyX12_ok nmX12 hown hE.1 hP hD hS 0 rfl rfl 14 (by decide) (hts _ m_1337) (fun _ h9 => h9) rfl (by decide +kernel) rfl rfl (Nat.le_of_ble_eq_true rfl) dX12_text__43 (fun H locs hP hD hS => ?_)
    have hP : va_P G classes [(mo, .inr (12, [.ref nw, .ref nk, .ref na, .int 0, .ref fd, .ref ea, .ref so, .int (-1), .ref nd, .int 0, .int au, .int 0, .int 0, .int 0, .int 0, .ref cd, .ref nmd, .ref pl, .ref tl, .ref fr_, .ref rw_, .ref brw, .int 0, .int 0, .ref po, .ref trc, .int 0, .int 0, .int 0, .ref wi, .ref sz_, .ref nu, .ref ca])), (nw, .inl (cy 0, 3567, .inl nw0)), (fd, .inl (cy 0, 7, .inl ff))] H := hP
    have hD : va_D A [(mo, .inr (12, [.ref nw, .ref nk, .ref na, .int 0, .ref fd, .ref ea, .ref so, .int (-1), .ref nd, .int 0, .int au, .int 0, .int 0, .int 0, .int 0, .ref cd, .ref nmd, .ref pl, .ref tl, .ref fr_, .ref rw_, .ref brw, .int 0, .int 0, .ref po, .ref trc, .int 0, .int 0, .int 0, .ref wi, .ref sz_, .ref nu, .ref ca])), (nw, .inl (cy 0, 3567, .inl nw0)), (fd, .inl (cy 0, 7, .inl ff))] := hD
    refine lv_aload_n hx hb dX12_text__46 rfl (lv_at hl 0 rfl) ?_
    refine wVv (B := (B_c_X12_text G cy (va_A [(mo, .inr (12, [.ref nw, .ref nk, .ref na, .int 0, .ref fd, .ref ea, .ref so, .int (-1), .ref nd, .int 0, .int au, .int 0, .int 0, .int 0, .int 0, .ref cd, .ref nmd, .ref pl, .ref tl, .ref fr_, .ref rw_, .ref brw, .int 0, .int 0, .ref po, .ref trc, .int 0, .int 0, .int 0, .ref wi, .ref sz_, .ref nu, .ref ca])), (nw, .inl (cy 0, 3567, .inl nw0))] H.size) mo nw nk na fd ea so nd cd nmd pl tl fr_ rw_ brw po trc wi sz_ nu ca 0 (-1) 0 au 0 0 0 0 0 0 0 0 0 nw0)) (wr := [(fd, .inl (cy 0, 7, .inl ff))]) (rest := []) hx hb hml hown hts hE (c_X12_text l G cy sk H.size mo nw nk na fd ea so nd cd nmd pl tl fr_ rw_ brw po trc wi sz_ nu ca 0 (-1) 0 au 0 0 0 0 0 0 0 0 0 nw0 rfl) kV_X12_text m_1559 rfl rfl ⟨(Nat.le_of_ble_eq_true rfl), (Nat.le_of_ble_eq_true rfl)⟩ hP hD hS hA 0 rfl rfl rfl [0, 1] [2] rfl rfl rfl rfl (by decide) rfl rfl hl.1 (Nat.le_of_ble_eq_true rfl) dX12_text__47 ⟨(Nat.le_of_ble_eq_true rfl), (Nat.le_of_ble_eq_true rfl)⟩ (fun H locs haf hS => ?_)
    obtain ⟨hP1, hD1⟩ := haf.1
    obtain ⟨hP, hD⟩ := haf.2.1 _ hP1 hD1
    have hP : va_P G classes [(fd, .inl (cy 0, 7, .inl ff)), (mo, .inr (12, [.ref nw, .ref nk, .ref na, .int 0, .ref fd, .ref ea, .ref so, .int (-1), .ref nd, .int 0, .int au, .int 0, .int 0, .int 1, .int 0, .ref cd, .ref nmd, .ref pl, .ref tl, .ref fr_, .ref rw_, .ref brw, .int 0, .int 0, .ref po, .ref trc, .int 0, .int 0, .int 0, .ref wi, .ref sz_, .ref nu, .ref ca])), (nw, .inl (cy 0, 3567, .inl nw0))] H := hP
    have hD : va_D A [(fd, .inl (cy 0, 7, .inl ff)), (mo, .inr (12, [.ref nw, .ref nk, .ref na, .int 0, .ref fd, .ref ea, .ref so, .int (-1), .ref nd, .int 0, .int au, .int 0, .int 0, .int 1, .int 0, .ref cd, .ref nmd, .ref pl, .ref tl, .ref fr_, .ref rw_, .ref brw, .int 0, .int 0, .ref po, .ref trc, .int 0, .int 0, .int 0, .ref wi, .ref sz_, .ref nu, .ref ca])), (nw, .inl (cy 0, 3567, .inl nw0))] := hD
    refine lv_aload_n hx hb dX12_text__50 rfl (lv_at hl 0 rfl) ?_
    refine lv_aload_n hx hb dX12_text__51 rfl (lv_at hl 0 rfl) ?_
    refine va_get (D := G) (ci := 12) (v := .int 1) (C := RX12) (T := TX12) (N := 33) hx hb hts inB12 hown hE.1 hP 1 rfl rfl 13 (by decide) (hts _ m_1336) (fun _ h9 => h9) rfl dX12_text__52 ?_
    refine lv_if_ne (tgt := 65) hx hb dX12_text__55 (by decide) (fun _ => ?_) (fun h9 => absurd h9 (by decide))
    refine lv_iconst (v := 1) hx hb dX12_text__65 (by decide) ?_
    refine lv_goto (tgt := 70) hx hb dX12_text__66 (by decide) ?_
    refine va_put (D := G) (ci := 12) (v := .int 1) (ty := .boolean) (C := RX12) (T := TX12) (N := 33) hx hb hts inB12 tyX12 tyX12_ok nmX12 hown hE.1 hP hD hS 1 rfl rfl 13 (by decide) (hts _ m_1336) (fun _ h9 => h9) rfl (by decide +kernel) rfl rfl (Nat.le_of_ble_eq_true rfl) dX12_text__70 (fun H locs hP hD hS => ?_)
    have hP : va_P G classes [(fd, .inl (cy 0, 7, .inl ff)), (mo, .inr (12, [.ref nw, .ref nk, .ref na, .int 0, .ref fd, .ref ea, .ref so, .int (-1), .ref nd, .int 0, .int au, .int 0, .int 0, .int 1, .int 0, .ref cd, .ref nmd, .ref pl, .ref tl, .ref fr_, .ref rw_, .ref brw, .int 0, .int 0, .ref po, .ref trc, .int 0, .int 0, .int 0, .ref wi, .ref sz_, .ref nu, .ref ca])), (nw, .inl (cy 0, 3567, .inl nw0))] H := hP
    have hD : va_D A [(fd, .inl (cy 0, 7, .inl ff)), (mo, .inr (12, [.ref nw, .ref nk, .ref na, .int 0, .ref fd, .ref ea, .ref so, .int (-1), .ref nd, .int 0, .int au, .int 0, .int 0, .int 1, .int 0, .ref cd, .ref nmd, .ref pl, .ref tl, .ref fr_, .ref rw_, .ref brw, .int 0, .int 0, .ref po, .ref trc, .int 0, .int 0, .int 0, .ref wi, .ref sz_, .ref nu, .ref ca])), (nw, .inl (cy 0, 3567, .inl nw0))] := hD
    refine lv_aload_n hx hb dX12_text__73 rfl (lv_at hl 0 rfl) ?_
    refine va_get (D := G) (ci := 12) (v := .ref nw) (C := RX12) (T := TX12) (N := 33) hx hb hts inB12 hown hE.1 hP 1 rfl rfl 0 (by decide) (hts _ m_1323) (fun _ h9 => h9) rfl dX12_text__74 ?_
    refine lv_iconst (v := 4) hx hb dX12_text__77 (by decide) ?_
    refine lv_iconst (v := 0) hx hb dX12_text__78 (by decide) ?_
    refine va_iast hx hb hE.1 hP hD hS 2 0 rfl rfl (vinL (by decide)) dX12_text__79 (fun H locs hP hD hS => ?_)
    have hP : va_P G classes [(fd, .inl (cy 0, 7, .inl ff)), (mo, .inr (12, [.ref nw, .ref nk, .ref na, .int 0, .ref fd, .ref ea, .ref so, .int (-1), .ref nd, .int 0, .int au, .int 0, .int 0, .int 1, .int 0, .ref cd, .ref nmd, .ref pl, .ref tl, .ref fr_, .ref rw_, .ref brw, .int 0, .int 0, .ref po, .ref trc, .int 0, .int 0, .int 0, .ref wi, .ref sz_, .ref nu, .ref ca])), (nw, .inl (cy 0, 3567, .inl (upd nw0 4 0)))] H := hP
    have hD : va_D A [(fd, .inl (cy 0, 7, .inl ff)), (mo, .inr (12, [.ref nw, .ref nk, .ref na, .int 0, .ref fd, .ref ea, .ref so, .int (-1), .ref nd, .int 0, .int au, .int 0, .int 0, .int 1, .int 0, .ref cd, .ref nmd, .ref pl, .ref tl, .ref fr_, .ref rw_, .ref brw, .int 0, .int 0, .ref po, .ref trc, .int 0, .int 0, .int 0, .ref wi, .ref sz_, .ref nu, .ref ca])), (nw, .inl (cy 0, 3567, .inl (upd nw0 4 0)))] := hD
    refine lv_aload_n hx hb dX12_text__80 rfl (lv_at hl 0 rfl) ?_
    refine va_get (D := G) (ci := 12) (v := .int 1) (C := RX12) (T := TX12) (N := 33) hx hb hts inB12 hown hE.1 hP 1 rfl rfl 13 (by decide) (hts _ m_1336) (fun _ h9 => h9) rfl dX12_text__81 ?_
    refine lv_if_eq (tgt := 95) hx hb dX12_text__84 (by decide) (fun h9 => absurd h9 (by decide)) (fun _ => ?_)
    refine lv_bipush (v := (-10)) hx hb dX12_text__87 (by decide) ?_
    refine lv_aload_n hx hb dX12_text__89 rfl (lv_at hl 0 rfl) ?_
    refine va_get (D := G) (ci := 12) (v := .int 0) (C := RX12) (T := TX12) (N := 33) hx hb hts inB12 hown hE.1 hP 1 rfl rfl 9 (by decide) (hts _ m_1332) (fun _ h9 => h9) rfl dX12_text__90 ?_
    refine lv_isub hx hb dX12_text__93 ?_
    refine tp (v := (-10)) (by decide) ?_
    refine W.widen (k := 0) (n := 0) (by first | exact Nat.le_of_ble_eq_true rfl | omega) (by first | exact Nat.le_of_ble_eq_true rfl | omega) ?_
    exact W.iret (v := (-10)) hx hb hr (fun t ht hW => ⟨⟨(-10), (), rfl, (lf_c_X12_text__0 au h_2), trivial⟩, hS.F ht⟩) hS.2.2 dX12_text__94
  · refine lv_if_ne (tgt := 16) hx hb dX12_text__6 (by decide) (fun h9 => absurd h9 (by decide)) (fun _ => ?_)
    refine lv_aload_n hx hb dX12_text__9 rfl (lv_at hl 0 rfl) ?_
    refine lv_ldc (v := (-1000001)) hx hb hown (hts _ m_1433) dX12_text__10 ?_
    refine wV (B := (fun _ => True)) (wr := [(nw, .inl (cy 0, 3567, .inl nw0))]) (rest := []) hx hb hml hown hts hE (c_X12_finding l G cy sk s.heap.size mo nw nk na fd ea so nd cd nmd pl tl fr_ rw_ brw po trc wi sz_ nu ca 0 (-1) 0 0 0 0 0 0 0 0 0 0 0 ff (-1000001) 1 (by decide) (vinL (by decide))) kV_X12_finding m_1434 rfl rfl ⟨(Nat.le_of_ble_eq_true rfl), (Nat.le_of_ble_eq_true rfl)⟩ hP hD hS hA 0 rfl rfl rfl [0, 2] [1] rfl rfl rfl rfl (by decide) rfl rfl hl.1 (Nat.le_of_ble_eq_true rfl) dX12_text__12 ⟨(Nat.le_of_ble_eq_true rfl), (Nat.le_of_ble_eq_true rfl)⟩ (fun r_4 H locs hr_ haf hS => ?_)
    obtain ⟨-, -, hP, hD⟩ := haf
    have hP : va_P G classes [(nw, .inl (cy 0, 3567, .inl nw0))] H := hP
    have hD : va_D A [(nw, .inl (cy 0, 3567, .inl nw0))] := hD
    subst hr_
    refine W.widen (k := 0) (n := 0) (by first | exact Nat.le_of_ble_eq_true rfl | omega) (by first | exact Nat.le_of_ble_eq_true rfl | omega) ?_
    exact W.iret (v := (-1000001)) hx hb hr (fun t ht hW => ⟨⟨(-1000001), (), rfl, (lf_c_X12_text__1 au h_2), trivial⟩, hS.F ht⟩) hS.2.2 dX12_text__15
theorem kf_c_X12_tenths_0 (an : Int32) (h_2 : inR an 1 100) (h9 : ¬ an ≤ 9999) : False := by simp only [inR, Int32.le_iff_toInt_le, Int32.lt_iff_toInt_lt] at *; simp at *; omega
theorem lf_c_X12_tenths_1 (an : Int32) (kn : Nat) (g_ : Nat → Int32) (h_2 : inR an 1 100) (hkn : kn < 2 ^ 31) (ean : an = (nI kn)) (hkb : kn ≤ 100) (g0 : g_ 0 = (nI kn)) (g1 : g_ 1 = 0) (g2 : g_ 2 = 0) : ((nI kn) : Int32) = (F_tenths an) := by (try subst ean); first | (simp only [F_tenths, *, and_true, true_and, and_false, false_and, if_true, if_false]; done) | (simp [F_tenths, *]; done) | (unfold F_tenths; simp_all; done)
theorem lf_c_X12_tenths_2 (an : Int32) (h_2 : ¬ inR an 1 100) : ((-1000001) : Int32) = (F_tenths an) := by (try subst ean); first | (simp only [F_tenths, *, and_true, true_and, and_false, false_and, if_true, if_false]; done) | (simp [F_tenths, *]; done) | (unfold F_tenths; simp_all; done)
set_option maxHeartbeats 4000000 in
set_option maxRecDepth 100000 in
theorem c_X12_tenths (l : Launch) (G : va_G) (cy : Nat → ClassId) (sk : Nat → Nat) (sz : Nat) (mo : Nat) (nw : Nat) (nk : Nat) (na : Nat) (fd : Nat) (ea : Nat) (so : Nat) (nd : Nat) (cd : Nat) (nmd : Nat) (pl : Nat) (tl : Nat) (fr_ : Nat) (rw_ : Nat) (brw : Nat) (po : Nat) (trc : Nat) (wi : Nat) (sz_ : Nat) (nu : Nat) (ca : Nat) (ff : Nat → Int32) (an : Int32)  : Met l yX12_tenths (wsO yX12_tenths cX12_tenths 3 (some .int)) ({ frames := 1, cells := 0, slots := 0, locals := 22 }) (va_Pc [.ref mo, .int an] (PR G cy sk sz [(mo, .inr (12, [.ref nw, .ref nk, .ref na, .int 0, .ref fd, .ref ea, .ref so, .int (-1), .ref nd, .int 0, .int 0, .int 0, .int 0, .int 0, .int 0, .ref cd, .ref nmd, .ref pl, .ref tl, .ref fr_, .ref rw_, .ref brw, .int 0, .int 0, .ref po, .ref trc, .int 0, .int 0, .int 0, .ref wi, .ref sz_, .ref nu, .ref ca])), (nw, .inl (cy 0, 3567, .inl nw0)), (fd, .inl (cy 0, 7, .inl ff))])) (va_Qi (fun r (_ : Unit) => r = (F_tenths an)) (fun _ _ => True) (va_A [(mo, .inr (12, [.ref nw, .ref nk, .ref na, .int 0, .ref fd, .ref ea, .ref so, .int (-1), .ref nd, .int 0, .int 0, .int 0, .int 0, .int 0, .int 0, .ref cd, .ref nmd, .ref pl, .ref tl, .ref fr_, .ref rw_, .ref brw, .int 0, .int 0, .ref po, .ref trc, .int 0, .int 0, .int 0, .ref wi, .ref sz_, .ref nu, .ref ca])), (nw, .inl (cy 0, 3567, .inl nw0)), (fd, .inl (cy 0, 7, .inl ff))] sz)) 0 0 (va_A [(mo, .inr (12, [.ref nw, .ref nk, .ref na, .int 0, .ref fd, .ref ea, .ref so, .int (-1), .ref nd, .int 0, .int 0, .int 0, .int 0, .int 0, .int 0, .ref cd, .ref nmd, .ref pl, .ref tl, .ref fr_, .ref rw_, .ref brw, .int 0, .int 0, .ref po, .ref trc, .int 0, .int 0, .int 0, .ref wi, .ref sz_, .ref nu, .ref ca])), (nw, .inl (cy 0, 3567, .inl nw0)), (fd, .inl (cy 0, 7, .inl ff))] sz) := by
  refine mt (by decide) (Nat.le_of_ble_eq_true rfl) ?_
  intro p e s m below meth c ls hx hb hr hml hts hown hlocks hin hsz hP hE hD hl
  subst hsz
  have hl : lv_has ls 3 [(0, .ref mo), (1, .int an)] := hl
  have hD := hD.self (sz := s.heap.size)
  generalize hAe : va_A [(mo, .inr (12, [.ref nw, .ref nk, .ref na, .int 0, .ref fd, .ref ea, .ref so, .int (-1), .ref nd, .int 0, .int 0, .int 0, .int 0, .int 0, .int 0, .ref cd, .ref nmd, .ref pl, .ref tl, .ref fr_, .ref rw_, .ref brw, .int 0, .int 0, .ref po, .ref trc, .int 0, .int 0, .int 0, .ref wi, .ref sz_, .ref nu, .ref ca])), (nw, .inl (cy 0, 3567, .inl nw0)), (fd, .inl (cy 0, 7, .inl ff))] s.heap.size = A at hD ⊢
  have hA : ∀ q : Nat, s.heap.size ≤ q → A q := fun q h => by rw [← hAe]; exact Or.inr h
  have hS : va_S A s.heap s.heap [] := va_S.rf
  refine lv_iload_n hx hb dX12_tenths_0 rfl (lv_at hl 1 rfl) ?_
  refine lv_iconst (v := 1) hx hb dX12_tenths_1 (by decide) ?_
  refine lv_bipush (v := 100) hx hb dX12_tenths_2 (by decide) ?_
  refine rS (rest := []) hx hb hml hown hts hE (c_X12_within l G cy sk s.heap.size an 1 100) kS_X12_within m_1427 rfl rfl ⟨(Nat.le_of_ble_eq_true rfl), (Nat.le_of_ble_eq_true rfl)⟩ hP hD [] rfl rfl rfl rfl hl.1 (Nat.le_of_ble_eq_true rfl) dX12_tenths_4 ⟨(Nat.le_of_ble_eq_true rfl), (Nat.le_of_ble_eq_true rfl)⟩ (fun r_1 hr_ => ?_)
  rcases hr_ with ⟨rfl, h_2⟩ | ⟨rfl, h_2⟩
  · refine lv_if_ne (tgt := 17) hx hb dX12_tenths_7 (by decide) (fun _ => ?_) (fun h9 => absurd h9 (by decide))
    refine lv_aload_n hx hb dX12_tenths_17 rfl (lv_at hl 0 rfl) ?_
    refine va_get (D := G) (ci := 12) (v := .ref nw) (C := RX12) (T := TX12) (N := 33) hx hb hts inB12 hown hE.1 hP 0 rfl rfl 0 (by decide) (hts _ m_1323) (fun _ h9 => h9) rfl dX12_tenths_18 ?_
    refine lv_iconst (v := 0) hx hb dX12_tenths_21 (by decide) ?_
    refine va_iald hx hb hE.1 hP 1 0 rfl rfl (vinL (by decide)) dX12_tenths_22 ?_
    refine tp (v := 0) rfl ?_
    refine lv_iload_n hx hb dX12_tenths_23 rfl (lv_at hl 1 rfl) ?_
    refine lv_iadd hx hb dX12_tenths_24 ?_
    refine tp (v := an) (Int32.zero_add _) ?_
    refine lv_sipush (v := 9999) hx hb dX12_tenths_25 (by decide) ?_
    refine lv_icmp_le (tgt := 38) hx hb dX12_tenths_28 (by decide) (fun _ => ?_) (fun h9 => (kf_c_X12_tenths_0 an h_2 h9).elim)
    refine lv_iconst (v := 0) hx hb dX12_tenths_38 (by decide) ?_
    refine lv_istore_n (lv' := [(2, .int 0), (0, .ref mo), (1, .int an)]) hx hb dX12_tenths_39 rfl hl (by decide) rfl (fun ls hl => ?_)
    obtain ⟨kn, hkn, ean⟩ := inRn h_2 (by decide)
    have hkb : kn ≤ 100 := inRb (ean ▸ h_2) hkn rfl
    rw [ean] at hl
    have lp : ∀ (nn i : Nat), i ≤ kn → kn + 1 ≤ i + nn → ∀ (g_ : Nat → Int32), (g_ 0 = (nI i)) → (g_ 1 = 0) → (g_ 2 = 0) → ∀ (H : Heap) (locs : List Loc), va_P G classes [(mo, .inr (12, [.ref nw, .ref nk, .ref na, .int 0, .ref fd, .ref ea, .ref so, .int (-1), .ref nd, .int 0, .int 0, .int 0, .int 0, .int 0, .int 0, .ref cd, .ref nmd, .ref pl, .ref tl, .ref fr_, .ref rw_, .ref brw, .int 0, .int 0, .ref po, .ref trc, .int 0, .int 0, .int 0, .ref wi, .ref sz_, .ref nu, .ref ca])), (nw, .inl (cy 0, 3567, .inl g_)), (fd, .inl (cy 0, 7, .inl ff))] H → va_D A [(mo, .inr (12, [.ref nw, .ref nk, .ref na, .int 0, .ref fd, .ref ea, .ref so, .int (-1), .ref nd, .int 0, .int 0, .int 0, .int 0, .int 0, .int 0, .ref cd, .ref nmd, .ref pl, .ref tl, .ref fr_, .ref rw_, .ref brw, .int 0, .int 0, .ref po, .ref trc, .int 0, .int 0, .int 0, .ref wi, .ref sz_, .ref nu, .ref ca])), (nw, .inl (cy 0, 3567, .inl g_)), (fd, .inl (cy 0, 7, .inl ff))] → va_S A s.heap H locs → ∀ (ls : Array Slot), lv_has ls 3 [(2, .int (nI i)), (0, .ref mo), (1, .int (nI kn))] → W p l e (headSpec (wsO yX12_tenths cX12_tenths 3 (some .int)) ({ frames := 1, cells := 0, slots := 0, locals := 22 })).room s m [.ref mo, .int an].toArray below meth c H locs 0 0 (MQ below (va_Qi (fun r (_ : Unit) => r = (F_tenths an)) (fun _ _ => True) A) [.ref mo, .int an].toArray s 0 0 A) (F0 m 40 ls []) := by
      intro nn
      induction nn with
      | zero => intro i h1 h2; exact absurd h2 (by omega)
      | succ nn ih =>
        intro i hi hin0 g_ g0 g1 g2 H locs hP hD hS ls hl
        rcases Nat.lt_or_ge i kn with hlt | hge
        · refine lv_iload_n hx hb dX12_tenths_40 rfl (lv_at hl 0 rfl) ?_
          refine lv_iload_n hx hb dX12_tenths_41 rfl (lv_at hl 2 rfl) ?_
          refine lv_icmp_ge (tgt := 55) hx hb dX12_tenths_42 (by decide) (fun h9 => absurd h9 (nI_ge hlt hkn)) (fun _ => ?_)
          refine lv_aload_n hx hb dX12_tenths_45 rfl (lv_at hl 1 rfl) ?_
          refine wVv (B := (B_c_X12_tenth G cy (va_A [(mo, .inr (12, [.ref nw, .ref nk, .ref na, .int 0, .ref fd, .ref ea, .ref so, .int (-1), .ref nd, .int 0, .int 0, .int 0, .int 0, .int 0, .int 0, .ref cd, .ref nmd, .ref pl, .ref tl, .ref fr_, .ref rw_, .ref brw, .int 0, .int 0, .ref po, .ref trc, .int 0, .int 0, .int 0, .ref wi, .ref sz_, .ref nu, .ref ca])), (nw, .inl (cy 0, 3567, .inl g_))] H.size) mo nw nk na fd ea so nd cd nmd pl tl fr_ rw_ brw po trc wi sz_ nu ca 0 (-1) 0 0 0 0 0 0 0 0 0 0 0 g_ i)) (wr := [(fd, .inl (cy 0, 7, .inl ff))]) (rest := []) hx hb hml hown hts hE (c_X12_tenth l G cy sk H.size mo nw nk na fd ea so nd cd nmd pl tl fr_ rw_ brw po trc wi sz_ nu ca 0 (-1) 0 0 0 0 0 0 0 0 0 0 0 g_ i g0 g1 g2) kV_X12_tenth m_1738 rfl rfl ⟨(Nat.le_of_ble_eq_true rfl), (Nat.le_of_ble_eq_true rfl)⟩ hP hD hS hA 0 rfl rfl rfl [0, 1] [2] rfl rfl rfl rfl (by decide) rfl rfl hl.1 (Nat.le_of_ble_eq_true rfl) dX12_tenths_46 ⟨(Nat.le_of_ble_eq_true rfl), (Nat.le_of_ble_eq_true rfl)⟩ (fun H locs haf hS => ?_)
          obtain ⟨xf4, h_5, h_6, h_7, hP1, hD1⟩ := haf.1
          obtain ⟨hP, hD⟩ := haf.2.1 _ hP1 hD1
          have hP : va_P G classes [(fd, .inl (cy 0, 7, .inl ff)), (mo, .inr (12, [.ref nw, .ref nk, .ref na, .int 0, .ref fd, .ref ea, .ref so, .int (-1), .ref nd, .int 0, .int 0, .int 0, .int 0, .int 0, .int 0, .ref cd, .ref nmd, .ref pl, .ref tl, .ref fr_, .ref rw_, .ref brw, .int 0, .int 0, .ref po, .ref trc, .int 0, .int 0, .int 0, .ref wi, .ref sz_, .ref nu, .ref ca])), (nw, .inl (cy 0, 3567, .inl xf4))] H := hP
          have hD : va_D A [(fd, .inl (cy 0, 7, .inl ff)), (mo, .inr (12, [.ref nw, .ref nk, .ref na, .int 0, .ref fd, .ref ea, .ref so, .int (-1), .ref nd, .int 0, .int 0, .int 0, .int 0, .int 0, .int 0, .ref cd, .ref nmd, .ref pl, .ref tl, .ref fr_, .ref rw_, .ref brw, .int 0, .int 0, .ref po, .ref trc, .int 0, .int 0, .int 0, .ref wi, .ref sz_, .ref nu, .ref ca])), (nw, .inl (cy 0, 3567, .inl xf4))] := hD
          refine lv_iinc (v := (nI (i + 1))) (lv' := [(2, .int (nI (i + 1))), (0, .ref mo), (1, .int (nI kn))]) hx hb dX12_tenths_49 hl (k := 0) rfl (nI_1 (i)) (by decide) rfl (fun ls hl => ?_)
          refine lv_goto (tgt := 40) hx hb dX12_tenths_52 (by decide) ?_
          have hP := P_cut (wc := [(mo, .inr (12, [.ref nw, .ref nk, .ref na, .int 0, .ref fd, .ref ea, .ref so, .int (-1), .ref nd, .int 0, .int 0, .int 0, .int 0, .int 0, .int 0, .ref cd, .ref nmd, .ref pl, .ref tl, .ref fr_, .ref rw_, .ref brw, .int 0, .int 0, .ref po, .ref trc, .int 0, .int 0, .int 0, .ref wi, .ref sz_, .ref nu, .ref ca])), (nw, .inl (cy 0, 3567, .inl xf4)), (fd, .inl (cy 0, 7, .inl ff))]) hP [1, 2, 0] rfl
          have hD := hD.sub (ws' := [(mo, .inr (12, [.ref nw, .ref nk, .ref na, .int 0, .ref fd, .ref ea, .ref so, .int (-1), .ref nd, .int 0, .int 0, .int 0, .int 0, .int 0, .int 0, .ref cd, .ref nmd, .ref pl, .ref tl, .ref fr_, .ref rw_, .ref brw, .int 0, .int 0, .ref po, .ref trc, .int 0, .int 0, .int 0, .ref wi, .ref sz_, .ref nu, .ref ca])), (nw, .inl (cy 0, 3567, .inl xf4)), (fd, .inl (cy 0, 7, .inl ff))]) [1, 2, 0] (by decide) rfl
          exact ih (i + 1) hlt (by omega) xf4 h_5 h_6 h_7 _ _ hP hD hS ls (lv_sub hl [0, 1, 2] rfl)
        · have hie : kn = i := Nat.le_antisymm hge hi
          subst hie
          refine lv_iload_n hx hb dX12_tenths_40 rfl (lv_at hl 0 rfl) ?_
          refine lv_iload_n hx hb dX12_tenths_41 rfl (lv_at hl 2 rfl) ?_
          refine lv_icmp_ge (tgt := 55) hx hb dX12_tenths_42 (by decide) (fun _ => ?_) (fun h9 => absurd (Int32.le_refl _) h9)
          refine lv_aload_n hx hb dX12_tenths_55 rfl (lv_at hl 1 rfl) ?_
          refine va_get (D := G) (ci := 12) (v := .ref nw) (C := RX12) (T := TX12) (N := 33) hx hb hts inB12 hown hE.1 hP 0 rfl rfl 0 (by decide) (hts _ m_1323) (fun _ h9 => h9) rfl dX12_tenths_56 ?_
          refine lv_iconst (v := 0) hx hb dX12_tenths_59 (by decide) ?_
          refine va_iald hx hb hE.1 hP 1 0 rfl rfl (vinL (by decide)) dX12_tenths_60 ?_
          refine tp (v := (nI kn)) g0 ?_
          refine W.widen (k := 0) (n := 0) (by first | exact Nat.le_of_ble_eq_true rfl | omega) (by first | exact Nat.le_of_ble_eq_true rfl | omega) ?_
          exact W.iret (v := (nI kn)) hx hb hr (fun t ht hW => ⟨⟨(nI kn), (), rfl, (lf_c_X12_tenths_1 an kn g_ h_2 hkn ean hkb g0 g1 g2), trivial⟩, hS.F ht⟩) hS.2.2 dX12_tenths_61
    exact lp (kn + 1) 0 (Nat.zero_le _) (by omega) nw0 rfl rfl rfl _ _ hP hD hS ls (lv_sub hl [0, 1, 2] rfl)
  · refine lv_if_ne (tgt := 17) hx hb dX12_tenths_7 (by decide) (fun h9 => absurd h9 (by decide)) (fun _ => ?_)
    refine lv_aload_n hx hb dX12_tenths_10 rfl (lv_at hl 0 rfl) ?_
    refine lv_ldc (v := (-1000001)) hx hb hown (hts _ m_1433) dX12_tenths_11 ?_
    refine wV (B := (fun _ => True)) (wr := [(nw, .inl (cy 0, 3567, .inl nw0))]) (rest := []) hx hb hml hown hts hE (c_X12_finding l G cy sk s.heap.size mo nw nk na fd ea so nd cd nmd pl tl fr_ rw_ brw po trc wi sz_ nu ca 0 (-1) 0 0 0 0 0 0 0 0 0 0 0 ff (-1000001) 1 (by decide) (vinL (by decide))) kV_X12_finding m_1434 rfl rfl ⟨(Nat.le_of_ble_eq_true rfl), (Nat.le_of_ble_eq_true rfl)⟩ hP hD hS hA 0 rfl rfl rfl [0, 2] [1] rfl rfl rfl rfl (by decide) rfl rfl hl.1 (Nat.le_of_ble_eq_true rfl) dX12_tenths_13 ⟨(Nat.le_of_ble_eq_true rfl), (Nat.le_of_ble_eq_true rfl)⟩ (fun r_8 H locs hr_ haf hS => ?_)
    obtain ⟨-, -, hP, hD⟩ := haf
    have hP : va_P G classes [(nw, .inl (cy 0, 3567, .inl nw0))] H := hP
    have hD : va_D A [(nw, .inl (cy 0, 3567, .inl nw0))] := hD
    subst hr_
    refine W.widen (k := 0) (n := 0) (by first | exact Nat.le_of_ble_eq_true rfl | omega) (by first | exact Nat.le_of_ble_eq_true rfl | omega) ?_
    exact W.iret (v := (-1000001)) hx hb hr (fun t ht hW => ⟨⟨(-1000001), (), rfl, (lf_c_X12_tenths_2 an h_2), trivial⟩, hS.F ht⟩) hS.2.2 dX12_tenths_16
theorem lf_c_X12_lesson_0 (a1 : Int32) (a2 : Int32) (a3 : Int32) (h_2 : inR a1 0 31) (h_4 : inR a2 0 31) (h_6 : inR a3 1 99) : (0 : Int32) = (F_lesson a1 a2 a3) := by first | (simp only [F_lesson, *, and_true, true_and, and_false, false_and, if_true, if_false]; done) | (simp [F_lesson, *]; done) | (unfold F_lesson; simp_all; done)
theorem lf_c_X12_lesson_1 (a1 : Int32) (a2 : Int32) (a3 : Int32) (h_2 : inR a1 0 31) (h_4 : inR a2 0 31) (h_6 : ¬ inR a3 1 99) : ((-1000001) : Int32) = (F_lesson a1 a2 a3) := by first | (simp only [F_lesson, *, and_true, true_and, and_false, false_and, if_true, if_false]; done) | (simp [F_lesson, *]; done) | (unfold F_lesson; simp_all; done)
theorem lf_c_X12_lesson_2 (a1 : Int32) (a2 : Int32) (a3 : Int32) (h_2 : inR a1 0 31) (h_4 : ¬ inR a2 0 31) : ((-1000001) : Int32) = (F_lesson a1 a2 a3) := by first | (simp only [F_lesson, *, and_true, true_and, and_false, false_and, if_true, if_false]; done) | (simp [F_lesson, *]; done) | (unfold F_lesson; simp_all; done)
theorem lf_c_X12_lesson_3 (a1 : Int32) (a2 : Int32) (a3 : Int32) (h_2 : ¬ inR a1 0 31) : ((-1000001) : Int32) = (F_lesson a1 a2 a3) := by first | (simp only [F_lesson, *, and_true, true_and, and_false, false_and, if_true, if_false]; done) | (simp [F_lesson, *]; done) | (unfold F_lesson; simp_all; done)
set_option maxHeartbeats 4000000 in
set_option maxRecDepth 100000 in
theorem c_X12_lesson (l : Launch) (G : va_G) (cy : Nat → ClassId) (sk : Nat → Nat) (sz : Nat) (mo : Nat) (nw : Nat) (nk : Nat) (na : Nat) (fd : Nat) (ea : Nat) (so : Nat) (nd : Nat) (cd : Nat) (nmd : Nat) (pl : Nat) (tl : Nat) (fr_ : Nat) (rw_ : Nat) (brw : Nat) (po : Nat) (trc : Nat) (wi : Nat) (sz_ : Nat) (nu : Nat) (ca : Nat) (ff : Nat → Int32) (a1 : Int32) (a2 : Int32) (a3 : Int32)  : Met l yX12_lesson (wsO yX12_lesson cX12_lesson 5 (some .int)) ({ frames := 1, cells := 0, slots := 0, locals := 22 }) (va_Pc [.ref mo, .int a1, .int a2, .int a3] (PR G cy sk sz [(mo, .inr (12, [.ref nw, .ref nk, .ref na, .int 0, .ref fd, .ref ea, .ref so, .int (-1), .ref nd, .int 0, .int 0, .int 0, .int 0, .int 0, .int 0, .ref cd, .ref nmd, .ref pl, .ref tl, .ref fr_, .ref rw_, .ref brw, .int 0, .int 0, .ref po, .ref trc, .int 0, .int 0, .int 0, .ref wi, .ref sz_, .ref nu, .ref ca])), (nw, .inl (cy 0, 3567, .inl nw0)), (fd, .inl (cy 0, 7, .inl ff))])) (va_Qi (fun r (_ : Unit) => r = (F_lesson a1 a2 a3)) (fun _ _ => True) (va_A [(mo, .inr (12, [.ref nw, .ref nk, .ref na, .int 0, .ref fd, .ref ea, .ref so, .int (-1), .ref nd, .int 0, .int 0, .int 0, .int 0, .int 0, .int 0, .ref cd, .ref nmd, .ref pl, .ref tl, .ref fr_, .ref rw_, .ref brw, .int 0, .int 0, .ref po, .ref trc, .int 0, .int 0, .int 0, .ref wi, .ref sz_, .ref nu, .ref ca])), (nw, .inl (cy 0, 3567, .inl nw0)), (fd, .inl (cy 0, 7, .inl ff))] sz)) 0 0 (va_A [(mo, .inr (12, [.ref nw, .ref nk, .ref na, .int 0, .ref fd, .ref ea, .ref so, .int (-1), .ref nd, .int 0, .int 0, .int 0, .int 0, .int 0, .int 0, .ref cd, .ref nmd, .ref pl, .ref tl, .ref fr_, .ref rw_, .ref brw, .int 0, .int 0, .ref po, .ref trc, .int 0, .int 0, .int 0, .ref wi, .ref sz_, .ref nu, .ref ca])), (nw, .inl (cy 0, 3567, .inl nw0)), (fd, .inl (cy 0, 7, .inl ff))] sz) := by
  refine mt (by decide) (Nat.le_of_ble_eq_true rfl) ?_
  intro p e s m below meth c ls hx hb hr hml hts hown hlocks hin hsz hP hE hD hl
  subst hsz
  have hl : lv_has ls 5 [(0, .ref mo), (1, .int a1), (2, .int a2), (3, .int a3)] := hl
  have hD := hD.self (sz := s.heap.size)
  generalize hAe : va_A [(mo, .inr (12, [.ref nw, .ref nk, .ref na, .int 0, .ref fd, .ref ea, .ref so, .int (-1), .ref nd, .int 0, .int 0, .int 0, .int 0, .int 0, .int 0, .ref cd, .ref nmd, .ref pl, .ref tl, .ref fr_, .ref rw_, .ref brw, .int 0, .int 0, .ref po, .ref trc, .int 0, .int 0, .int 0, .ref wi, .ref sz_, .ref nu, .ref ca])), (nw, .inl (cy 0, 3567, .inl nw0)), (fd, .inl (cy 0, 7, .inl ff))] s.heap.size = A at hD ⊢
  have hA : ∀ q : Nat, s.heap.size ≤ q → A q := fun q h => by rw [← hAe]; exact Or.inr h
  have hS : va_S A s.heap s.heap [] := va_S.rf
  refine lv_iload_n hx hb dX12_lesson_0 rfl (lv_at hl 1 rfl) ?_
  refine lv_iconst (v := 0) hx hb dX12_lesson_1 (by decide) ?_
  refine lv_bipush (v := 31) hx hb dX12_lesson_2 (by decide) ?_
  refine rS (rest := []) hx hb hml hown hts hE (c_X12_within l G cy sk s.heap.size a1 0 31) kS_X12_within m_1427 rfl rfl ⟨(Nat.le_of_ble_eq_true rfl), (Nat.le_of_ble_eq_true rfl)⟩ hP hD [] rfl rfl rfl rfl hl.1 (Nat.le_of_ble_eq_true rfl) dX12_lesson_4 ⟨(Nat.le_of_ble_eq_true rfl), (Nat.le_of_ble_eq_true rfl)⟩ (fun r_1 hr_ => ?_)
  rcases hr_ with ⟨rfl, h_2⟩ | ⟨rfl, h_2⟩
  · refine lv_if_eq (tgt := 30) hx hb dX12_lesson_7 (by decide) (fun h9 => absurd h9 (by decide)) (fun _ => ?_)
    refine lv_iload_n hx hb dX12_lesson_10 rfl (lv_at hl 2 rfl) ?_
    refine lv_iconst (v := 0) hx hb dX12_lesson_11 (by decide) ?_
    refine lv_bipush (v := 31) hx hb dX12_lesson_12 (by decide) ?_
    refine rS (rest := []) hx hb hml hown hts hE (c_X12_within l G cy sk s.heap.size a2 0 31) kS_X12_within m_1427 rfl rfl ⟨(Nat.le_of_ble_eq_true rfl), (Nat.le_of_ble_eq_true rfl)⟩ hP hD [] rfl rfl rfl rfl hl.1 (Nat.le_of_ble_eq_true rfl) dX12_lesson_14 ⟨(Nat.le_of_ble_eq_true rfl), (Nat.le_of_ble_eq_true rfl)⟩ (fun r_3 hr_ => ?_)
    rcases hr_ with ⟨rfl, h_4⟩ | ⟨rfl, h_4⟩
    · refine lv_if_eq (tgt := 30) hx hb dX12_lesson_17 (by decide) (fun h9 => absurd h9 (by decide)) (fun _ => ?_)
      refine lv_iload_n hx hb dX12_lesson_20 rfl (lv_at hl 3 rfl) ?_
      refine lv_iconst (v := 1) hx hb dX12_lesson_21 (by decide) ?_
      refine lv_bipush (v := 99) hx hb dX12_lesson_22 (by decide) ?_
      refine rS (rest := []) hx hb hml hown hts hE (c_X12_within l G cy sk s.heap.size a3 1 99) kS_X12_within m_1427 rfl rfl ⟨(Nat.le_of_ble_eq_true rfl), (Nat.le_of_ble_eq_true rfl)⟩ hP hD [] rfl rfl rfl rfl hl.1 (Nat.le_of_ble_eq_true rfl) dX12_lesson_24 ⟨(Nat.le_of_ble_eq_true rfl), (Nat.le_of_ble_eq_true rfl)⟩ (fun r_5 hr_ => ?_)
      rcases hr_ with ⟨rfl, h_6⟩ | ⟨rfl, h_6⟩
      · refine lv_if_ne (tgt := 37) hx hb dX12_lesson_27 (by decide) (fun _ => ?_) (fun h9 => absurd h9 (by decide))
        refine lv_aload_n hx hb dX12_lesson_37 rfl (lv_at hl 0 rfl) ?_
        refine va_get (D := G) (ci := 12) (v := .ref nw) (C := RX12) (T := TX12) (N := 33) hx hb hts inB12 hown hE.1 hP 0 rfl rfl 0 (by decide) (hts _ m_1323) (fun _ h9 => h9) rfl dX12_lesson_38 ?_
        refine lv_iconst (v := 3) hx hb dX12_lesson_41 (by decide) ?_
        refine va_iald hx hb hE.1 hP 1 0 rfl rfl (vinL (by decide)) dX12_lesson_42 ?_
        refine tp (v := 0) rfl ?_
        refine lv_istore (lv' := [(4, .int 0), (0, .ref mo), (1, .int a1), (2, .int a2), (3, .int a3)]) hx hb dX12_lesson_43 hl (by decide) rfl (fun ls hl => ?_)
        refine lv_iload hx hb dX12_lesson_45 (lv_at hl 0 rfl) ?_
        refine lv_bipush (v := 7) hx hb dX12_lesson_47 (by decide) ?_
        refine lv_icmp_ne (tgt := 59) hx hb dX12_lesson_49 (by decide) (fun _ => ?_) (fun h9 => absurd h9 (by decide))
        refine lv_aload_n hx hb dX12_lesson_59 rfl (lv_at hl 1 rfl) ?_
        refine va_get (D := G) (ci := 12) (v := .ref nw) (C := RX12) (T := TX12) (N := 33) hx hb hts inB12 hown hE.1 hP 0 rfl rfl 0 (by decide) (hts _ m_1323) (fun _ h9 => h9) rfl dX12_lesson_60 ?_
        refine lv_sipush (v := 252) hx hb dX12_lesson_63 (by decide) ?_
        refine lv_iconst (v := 3) hx hb dX12_lesson_66 (by decide) ?_
        refine lv_iload hx hb dX12_lesson_67 (lv_at hl 0 rfl) ?_
        refine lv_imul hx hb dX12_lesson_69 ?_
        refine tp (v := 0) (by decide) ?_
        refine lv_iadd hx hb dX12_lesson_70 ?_
        refine tp (v := 252) (by decide) ?_
        refine lv_iload_n hx hb dX12_lesson_71 rfl (lv_at hl 2 rfl) ?_
        refine va_iast hx hb hE.1 hP hD hS 1 0 rfl rfl (vinL (by decide)) dX12_lesson_72 (fun H locs hP hD hS => ?_)
        have hP : va_P G classes [(mo, .inr (12, [.ref nw, .ref nk, .ref na, .int 0, .ref fd, .ref ea, .ref so, .int (-1), .ref nd, .int 0, .int 0, .int 0, .int 0, .int 0, .int 0, .ref cd, .ref nmd, .ref pl, .ref tl, .ref fr_, .ref rw_, .ref brw, .int 0, .int 0, .ref po, .ref trc, .int 0, .int 0, .int 0, .ref wi, .ref sz_, .ref nu, .ref ca])), (nw, .inl (cy 0, 3567, .inl (upd nw0 252 a1))), (fd, .inl (cy 0, 7, .inl ff))] H := hP
        have hD : va_D A [(mo, .inr (12, [.ref nw, .ref nk, .ref na, .int 0, .ref fd, .ref ea, .ref so, .int (-1), .ref nd, .int 0, .int 0, .int 0, .int 0, .int 0, .int 0, .ref cd, .ref nmd, .ref pl, .ref tl, .ref fr_, .ref rw_, .ref brw, .int 0, .int 0, .ref po, .ref trc, .int 0, .int 0, .int 0, .ref wi, .ref sz_, .ref nu, .ref ca])), (nw, .inl (cy 0, 3567, .inl (upd nw0 252 a1))), (fd, .inl (cy 0, 7, .inl ff))] := hD
        refine lv_aload_n hx hb dX12_lesson_73 rfl (lv_at hl 1 rfl) ?_
        refine va_get (D := G) (ci := 12) (v := .ref nw) (C := RX12) (T := TX12) (N := 33) hx hb hts inB12 hown hE.1 hP 0 rfl rfl 0 (by decide) (hts _ m_1323) (fun _ h9 => h9) rfl dX12_lesson_74 ?_
        refine lv_sipush (v := 252) hx hb dX12_lesson_77 (by decide) ?_
        refine lv_iconst (v := 3) hx hb dX12_lesson_80 (by decide) ?_
        refine lv_iload hx hb dX12_lesson_81 (lv_at hl 0 rfl) ?_
        refine lv_imul hx hb dX12_lesson_83 ?_
        refine tp (v := 0) (by decide) ?_
        refine lv_iadd hx hb dX12_lesson_84 ?_
        refine tp (v := 252) (by decide) ?_
        refine lv_iconst (v := 1) hx hb dX12_lesson_85 (by decide) ?_
        refine lv_iadd hx hb dX12_lesson_86 ?_
        refine tp (v := 253) (by decide) ?_
        refine lv_iload_n hx hb dX12_lesson_87 rfl (lv_at hl 3 rfl) ?_
        refine va_iast hx hb hE.1 hP hD hS 1 0 rfl rfl (vinL (by decide)) dX12_lesson_88 (fun H locs hP hD hS => ?_)
        have hP : va_P G classes [(mo, .inr (12, [.ref nw, .ref nk, .ref na, .int 0, .ref fd, .ref ea, .ref so, .int (-1), .ref nd, .int 0, .int 0, .int 0, .int 0, .int 0, .int 0, .ref cd, .ref nmd, .ref pl, .ref tl, .ref fr_, .ref rw_, .ref brw, .int 0, .int 0, .ref po, .ref trc, .int 0, .int 0, .int 0, .ref wi, .ref sz_, .ref nu, .ref ca])), (nw, .inl (cy 0, 3567, .inl (upd (upd nw0 252 a1) 253 a2))), (fd, .inl (cy 0, 7, .inl ff))] H := hP
        have hD : va_D A [(mo, .inr (12, [.ref nw, .ref nk, .ref na, .int 0, .ref fd, .ref ea, .ref so, .int (-1), .ref nd, .int 0, .int 0, .int 0, .int 0, .int 0, .int 0, .ref cd, .ref nmd, .ref pl, .ref tl, .ref fr_, .ref rw_, .ref brw, .int 0, .int 0, .ref po, .ref trc, .int 0, .int 0, .int 0, .ref wi, .ref sz_, .ref nu, .ref ca])), (nw, .inl (cy 0, 3567, .inl (upd (upd nw0 252 a1) 253 a2))), (fd, .inl (cy 0, 7, .inl ff))] := hD
        refine lv_aload_n hx hb dX12_lesson_89 rfl (lv_at hl 1 rfl) ?_
        refine va_get (D := G) (ci := 12) (v := .ref nw) (C := RX12) (T := TX12) (N := 33) hx hb hts inB12 hown hE.1 hP 0 rfl rfl 0 (by decide) (hts _ m_1323) (fun _ h9 => h9) rfl dX12_lesson_90 ?_
        refine lv_sipush (v := 252) hx hb dX12_lesson_93 (by decide) ?_
        refine lv_iconst (v := 3) hx hb dX12_lesson_96 (by decide) ?_
        refine lv_iload hx hb dX12_lesson_97 (lv_at hl 0 rfl) ?_
        refine lv_imul hx hb dX12_lesson_99 ?_
        refine tp (v := 0) (by decide) ?_
        refine lv_iadd hx hb dX12_lesson_100 ?_
        refine tp (v := 252) (by decide) ?_
        refine lv_iconst (v := 2) hx hb dX12_lesson_101 (by decide) ?_
        refine lv_iadd hx hb dX12_lesson_102 ?_
        refine tp (v := 254) (by decide) ?_
        refine lv_iload_n hx hb dX12_lesson_103 rfl (lv_at hl 4 rfl) ?_
        refine va_iast hx hb hE.1 hP hD hS 1 0 rfl rfl (vinL (by decide)) dX12_lesson_104 (fun H locs hP hD hS => ?_)
        have hP : va_P G classes [(mo, .inr (12, [.ref nw, .ref nk, .ref na, .int 0, .ref fd, .ref ea, .ref so, .int (-1), .ref nd, .int 0, .int 0, .int 0, .int 0, .int 0, .int 0, .ref cd, .ref nmd, .ref pl, .ref tl, .ref fr_, .ref rw_, .ref brw, .int 0, .int 0, .ref po, .ref trc, .int 0, .int 0, .int 0, .ref wi, .ref sz_, .ref nu, .ref ca])), (nw, .inl (cy 0, 3567, .inl (upd (upd (upd nw0 252 a1) 253 a2) 254 a3))), (fd, .inl (cy 0, 7, .inl ff))] H := hP
        have hD : va_D A [(mo, .inr (12, [.ref nw, .ref nk, .ref na, .int 0, .ref fd, .ref ea, .ref so, .int (-1), .ref nd, .int 0, .int 0, .int 0, .int 0, .int 0, .int 0, .ref cd, .ref nmd, .ref pl, .ref tl, .ref fr_, .ref rw_, .ref brw, .int 0, .int 0, .ref po, .ref trc, .int 0, .int 0, .int 0, .ref wi, .ref sz_, .ref nu, .ref ca])), (nw, .inl (cy 0, 3567, .inl (upd (upd (upd nw0 252 a1) 253 a2) 254 a3))), (fd, .inl (cy 0, 7, .inl ff))] := hD
        refine lv_aload_n hx hb dX12_lesson_105 rfl (lv_at hl 1 rfl) ?_
        refine va_get (D := G) (ci := 12) (v := .ref nw) (C := RX12) (T := TX12) (N := 33) hx hb hts inB12 hown hE.1 hP 0 rfl rfl 0 (by decide) (hts _ m_1323) (fun _ h9 => h9) rfl dX12_lesson_106 ?_
        refine lv_iconst (v := 3) hx hb dX12_lesson_109 (by decide) ?_
        refine lv_dup2_11 hx hb dX12_lesson_110 rfl rfl ?_
        refine va_iald hx hb hE.1 hP 1 0 rfl rfl (vinL (by decide)) dX12_lesson_111 ?_
        refine tp (v := 0) rfl ?_
        refine lv_iconst (v := 1) hx hb dX12_lesson_112 (by decide) ?_
        refine lv_iadd hx hb dX12_lesson_113 ?_
        refine tp (v := 1) (by decide) ?_
        refine va_iast hx hb hE.1 hP hD hS 1 0 rfl rfl (vinL (by decide)) dX12_lesson_114 (fun H locs hP hD hS => ?_)
        have hP : va_P G classes [(mo, .inr (12, [.ref nw, .ref nk, .ref na, .int 0, .ref fd, .ref ea, .ref so, .int (-1), .ref nd, .int 0, .int 0, .int 0, .int 0, .int 0, .int 0, .ref cd, .ref nmd, .ref pl, .ref tl, .ref fr_, .ref rw_, .ref brw, .int 0, .int 0, .ref po, .ref trc, .int 0, .int 0, .int 0, .ref wi, .ref sz_, .ref nu, .ref ca])), (nw, .inl (cy 0, 3567, .inl (upd (upd (upd (upd nw0 252 a1) 253 a2) 254 a3) 3 1))), (fd, .inl (cy 0, 7, .inl ff))] H := hP
        have hD : va_D A [(mo, .inr (12, [.ref nw, .ref nk, .ref na, .int 0, .ref fd, .ref ea, .ref so, .int (-1), .ref nd, .int 0, .int 0, .int 0, .int 0, .int 0, .int 0, .ref cd, .ref nmd, .ref pl, .ref tl, .ref fr_, .ref rw_, .ref brw, .int 0, .int 0, .ref po, .ref trc, .int 0, .int 0, .int 0, .ref wi, .ref sz_, .ref nu, .ref ca])), (nw, .inl (cy 0, 3567, .inl (upd (upd (upd (upd nw0 252 a1) 253 a2) 254 a3) 3 1))), (fd, .inl (cy 0, 7, .inl ff))] := hD
        refine lv_iload hx hb dX12_lesson_115 (lv_at hl 0 rfl) ?_
        refine W.widen (k := 0) (n := 0) (by first | exact Nat.le_of_ble_eq_true rfl | omega) (by first | exact Nat.le_of_ble_eq_true rfl | omega) ?_
        exact W.iret (v := 0) hx hb hr (fun t ht hW => ⟨⟨0, (), rfl, (lf_c_X12_lesson_0 a1 a2 a3 h_2 h_4 h_6), trivial⟩, hS.F ht⟩) hS.2.2 dX12_lesson_117
      · refine lv_if_ne (tgt := 37) hx hb dX12_lesson_27 (by decide) (fun h9 => absurd h9 (by decide)) (fun _ => ?_)
        refine lv_aload_n hx hb dX12_lesson_30 rfl (lv_at hl 0 rfl) ?_
        refine lv_ldc (v := (-1000001)) hx hb hown (hts _ m_1433) dX12_lesson_31 ?_
        refine wV (B := (fun _ => True)) (wr := [(nw, .inl (cy 0, 3567, .inl nw0))]) (rest := []) hx hb hml hown hts hE (c_X12_finding l G cy sk s.heap.size mo nw nk na fd ea so nd cd nmd pl tl fr_ rw_ brw po trc wi sz_ nu ca 0 (-1) 0 0 0 0 0 0 0 0 0 0 0 ff (-1000001) 1 (by decide) (vinL (by decide))) kV_X12_finding m_1434 rfl rfl ⟨(Nat.le_of_ble_eq_true rfl), (Nat.le_of_ble_eq_true rfl)⟩ hP hD hS hA 0 rfl rfl rfl [0, 2] [1] rfl rfl rfl rfl (by decide) rfl rfl hl.1 (Nat.le_of_ble_eq_true rfl) dX12_lesson_33 ⟨(Nat.le_of_ble_eq_true rfl), (Nat.le_of_ble_eq_true rfl)⟩ (fun r_7 H locs hr_ haf hS => ?_)
        obtain ⟨-, -, hP, hD⟩ := haf
        have hP : va_P G classes [(nw, .inl (cy 0, 3567, .inl nw0))] H := hP
        have hD : va_D A [(nw, .inl (cy 0, 3567, .inl nw0))] := hD
        subst hr_
        refine W.widen (k := 0) (n := 0) (by first | exact Nat.le_of_ble_eq_true rfl | omega) (by first | exact Nat.le_of_ble_eq_true rfl | omega) ?_
        exact W.iret (v := (-1000001)) hx hb hr (fun t ht hW => ⟨⟨(-1000001), (), rfl, (lf_c_X12_lesson_1 a1 a2 a3 h_2 h_4 h_6), trivial⟩, hS.F ht⟩) hS.2.2 dX12_lesson_36
    · refine lv_if_eq (tgt := 30) hx hb dX12_lesson_17 (by decide) (fun _ => ?_) (fun h9 => absurd h9 (by decide))
      refine lv_aload_n hx hb dX12_lesson_30 rfl (lv_at hl 0 rfl) ?_
      refine lv_ldc (v := (-1000001)) hx hb hown (hts _ m_1433) dX12_lesson_31 ?_
      refine wV (B := (fun _ => True)) (wr := [(nw, .inl (cy 0, 3567, .inl nw0))]) (rest := []) hx hb hml hown hts hE (c_X12_finding l G cy sk s.heap.size mo nw nk na fd ea so nd cd nmd pl tl fr_ rw_ brw po trc wi sz_ nu ca 0 (-1) 0 0 0 0 0 0 0 0 0 0 0 ff (-1000001) 1 (by decide) (vinL (by decide))) kV_X12_finding m_1434 rfl rfl ⟨(Nat.le_of_ble_eq_true rfl), (Nat.le_of_ble_eq_true rfl)⟩ hP hD hS hA 0 rfl rfl rfl [0, 2] [1] rfl rfl rfl rfl (by decide) rfl rfl hl.1 (Nat.le_of_ble_eq_true rfl) dX12_lesson_33 ⟨(Nat.le_of_ble_eq_true rfl), (Nat.le_of_ble_eq_true rfl)⟩ (fun r_8 H locs hr_ haf hS => ?_)
      obtain ⟨-, -, hP, hD⟩ := haf
      have hP : va_P G classes [(nw, .inl (cy 0, 3567, .inl nw0))] H := hP
      have hD : va_D A [(nw, .inl (cy 0, 3567, .inl nw0))] := hD
      subst hr_
      refine W.widen (k := 0) (n := 0) (by first | exact Nat.le_of_ble_eq_true rfl | omega) (by first | exact Nat.le_of_ble_eq_true rfl | omega) ?_
      exact W.iret (v := (-1000001)) hx hb hr (fun t ht hW => ⟨⟨(-1000001), (), rfl, (lf_c_X12_lesson_2 a1 a2 a3 h_2 h_4), trivial⟩, hS.F ht⟩) hS.2.2 dX12_lesson_36
  · refine lv_if_eq (tgt := 30) hx hb dX12_lesson_7 (by decide) (fun _ => ?_) (fun h9 => absurd h9 (by decide))
    refine lv_aload_n hx hb dX12_lesson_30 rfl (lv_at hl 0 rfl) ?_
    refine lv_ldc (v := (-1000001)) hx hb hown (hts _ m_1433) dX12_lesson_31 ?_
    refine wV (B := (fun _ => True)) (wr := [(nw, .inl (cy 0, 3567, .inl nw0))]) (rest := []) hx hb hml hown hts hE (c_X12_finding l G cy sk s.heap.size mo nw nk na fd ea so nd cd nmd pl tl fr_ rw_ brw po trc wi sz_ nu ca 0 (-1) 0 0 0 0 0 0 0 0 0 0 0 ff (-1000001) 1 (by decide) (vinL (by decide))) kV_X12_finding m_1434 rfl rfl ⟨(Nat.le_of_ble_eq_true rfl), (Nat.le_of_ble_eq_true rfl)⟩ hP hD hS hA 0 rfl rfl rfl [0, 2] [1] rfl rfl rfl rfl (by decide) rfl rfl hl.1 (Nat.le_of_ble_eq_true rfl) dX12_lesson_33 ⟨(Nat.le_of_ble_eq_true rfl), (Nat.le_of_ble_eq_true rfl)⟩ (fun r_9 H locs hr_ haf hS => ?_)
    obtain ⟨-, -, hP, hD⟩ := haf
    have hP : va_P G classes [(nw, .inl (cy 0, 3567, .inl nw0))] H := hP
    have hD : va_D A [(nw, .inl (cy 0, 3567, .inl nw0))] := hD
    subst hr_
    refine W.widen (k := 0) (n := 0) (by first | exact Nat.le_of_ble_eq_true rfl | omega) (by first | exact Nat.le_of_ble_eq_true rfl | omega) ?_
    exact W.iret (v := (-1000001)) hx hb hr (fun t ht hW => ⟨⟨(-1000001), (), rfl, (lf_c_X12_lesson_3 a1 a2 a3 h_2), trivial⟩, hS.F ht⟩) hS.2.2 dX12_lesson_36
