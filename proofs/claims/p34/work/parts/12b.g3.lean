def B_c_X7_letThingGo (G : va_G) (cy : Nat → ClassId) (A : Nat → Prop) (st : Nat) (oc : Nat) (ki : Nat) (ce : Nat) (si : Nat) (sp : Nat) (th : Int32) (foc : Nat → Int32) (fki : Nat → Int32) (fce : Nat → Int32) (fsi : Nat → Int32) (fsp : Nat → Int32) (v : Int32) (H : Heap) : Prop := ∃ (th2 : Int32) (goc : Nat → Int32) (gki : Nat → Int32) (gce : Nat → Int32) (gsi : Nat → Int32) (gsp : Nat → Int32), va_P G classes [(st, .inr (7, [.ref oc, .ref ki, .ref ce, .ref si, .ref sp, .int th2])), (oc, .inl (cy 0, 192, .inl goc)), (ki, .inl (cy 0, 40, .inl gki)), (ce, .inl (cy 0, 40, .inl gce)), (si, .inl (cy 0, 40, .inl gsi)), (sp, .inl (cy 0, 40, .inl gsp))] H ∧ va_D A [(st, .inr (7, [.ref oc, .ref ki, .ref ce, .ref si, .ref sp, .int th2])), (oc, .inl (cy 0, 192, .inl goc)), (ki, .inl (cy 0, 40, .inl gki)), (ce, .inl (cy 0, 40, .inl gce)), (si, .inl (cy 0, 40, .inl gsi)), (sp, .inl (cy 0, 40, .inl gsp))]
theorem vi_c_X7_letThingGo_0 (th : Int32) (v : Int32) (h_2 : (hasT v th)) : vp_in v 40 := by first | exact vin_len (by assumption) (by assumption) (by omega) | exact vin_len2 (by assumption) (by assumption) (by omega) | exact vin_len3 (by assumption) (by assumption) (by omega) | (rw [vp_in_iff]; simp only [inR, hasT, Int32.le_iff_toInt_le, Int32.lt_iff_toInt_lt] at *; simp at *; omega)
theorem vi_c_X7_letThingGo_1 (th : Int32) (v : Int32) (h_2 : (hasT v th)) : vp_in v 40 := by first | exact vin_len (by assumption) (by assumption) (by omega) | exact vin_len2 (by assumption) (by assumption) (by omega) | exact vin_len3 (by assumption) (by assumption) (by omega) | (rw [vp_in_iff]; simp only [inR, hasT, Int32.le_iff_toInt_le, Int32.lt_iff_toInt_lt] at *; simp at *; omega)
theorem vi_c_X7_letThingGo_2 (th : Int32) (v : Int32) (h_2 : (hasT v th)) : vp_in v 40 := by first | exact vin_len (by assumption) (by assumption) (by omega) | exact vin_len2 (by assumption) (by assumption) (by omega) | exact vin_len3 (by assumption) (by assumption) (by omega) | (rw [vp_in_iff]; simp only [inR, hasT, Int32.le_iff_toInt_le, Int32.lt_iff_toInt_lt] at *; simp at *; omega)
theorem vi_c_X7_letThingGo_3 (th : Int32) (v : Int32) (h_2 : (hasT v th)) : vp_in v 40 := by first | exact vin_len (by assumption) (by assumption) (by omega) | exact vin_len2 (by assumption) (by assumption) (by omega) | exact vin_len3 (by assumption) (by assumption) (by omega) | (rw [vp_in_iff]; simp only [inR, hasT, Int32.le_iff_toInt_le, Int32.lt_iff_toInt_lt] at *; simp at *; omega)
theorem vi_c_X7_letThingGo_4 (th : Int32) (v : Int32) (h_2 : (hasT v th)) : vp_in v 40 := by first | exact vin_len (by assumption) (by assumption) (by omega) | exact vin_len2 (by assumption) (by assumption) (by omega) | exact vin_len3 (by assumption) (by assumption) (by omega) | (rw [vp_in_iff]; simp only [inR, hasT, Int32.le_iff_toInt_le, Int32.lt_iff_toInt_lt] at *; simp at *; omega)
theorem vi_c_X7_letThingGo_5 (th : Int32) (v : Int32) (h_2 : (hasT v th)) : vp_in v 40 := by first | exact vin_len (by assumption) (by assumption) (by omega) | exact vin_len2 (by assumption) (by assumption) (by omega) | exact vin_len3 (by assumption) (by assumption) (by omega) | (rw [vp_in_iff]; simp only [inR, hasT, Int32.le_iff_toInt_le, Int32.lt_iff_toInt_lt] at *; simp at *; omega)
set_option maxHeartbeats 4000000 in
set_option maxRecDepth 100000 in
theorem c_X7_letThingGo (l : Launch) (G : va_G) (cy : Nat → ClassId) (sk sa : Nat → Nat) (sz : Nat) (st : Nat) (oc : Nat) (ki : Nat) (ce : Nat) (si : Nat) (sp : Nat) (th : Int32) (foc : Nat → Int32) (fki : Nat → Int32) (fce : Nat → Int32) (fsi : Nat → Int32) (fsp : Nat → Int32) (v : Int32)  : Met l yX7_letThingGo (wsO yX7_letThingGo cX7_letThingGo 3 none) ({ frames := 2, cells := 0, slots := 0, locals := 44 }) (va_Pc [.ref st, .int v] (PG G cy sk sa sz [(st, .inr (7, [.ref oc, .ref ki, .ref ce, .ref si, .ref sp, .int th])), (oc, .inl (cy 0, 192, .inl foc)), (ki, .inl (cy 0, 40, .inl fki)), (ce, .inl (cy 0, 40, .inl fce)), (si, .inl (cy 0, 40, .inl fsi)), (sp, .inl (cy 0, 40, .inl fsp))])) (va_Qv (fun (_ : Unit) => True) (fun _ t => B_c_X7_letThingGo G cy (va_A [(st, .inr (7, [.ref oc, .ref ki, .ref ce, .ref si, .ref sp, .int th])), (oc, .inl (cy 0, 192, .inl foc)), (ki, .inl (cy 0, 40, .inl fki)), (ce, .inl (cy 0, 40, .inl fce)), (si, .inl (cy 0, 40, .inl fsi)), (sp, .inl (cy 0, 40, .inl fsp))] sz) st oc ki ce si sp th foc fki fce fsi fsp v t.heap) (va_A [(st, .inr (7, [.ref oc, .ref ki, .ref ce, .ref si, .ref sp, .int th])), (oc, .inl (cy 0, 192, .inl foc)), (ki, .inl (cy 0, 40, .inl fki)), (ce, .inl (cy 0, 40, .inl fce)), (si, .inl (cy 0, 40, .inl fsi)), (sp, .inl (cy 0, 40, .inl fsp))] sz)) 0 0 (va_A [(st, .inr (7, [.ref oc, .ref ki, .ref ce, .ref si, .ref sp, .int th])), (oc, .inl (cy 0, 192, .inl foc)), (ki, .inl (cy 0, 40, .inl fki)), (ce, .inl (cy 0, 40, .inl fce)), (si, .inl (cy 0, 40, .inl fsi)), (sp, .inl (cy 0, 40, .inl fsp))] sz) := by
  refine mgw (Qc := fun A => (va_Qv (fun (_ : Unit) => True) (fun _ t => B_c_X7_letThingGo G cy A st oc ki ce si sp th foc fki fce fsi fsp v t.heap) A)) (by decide) (Nat.le_of_ble_eq_true rfl) ?_
  intro p e s m below meth c ls A hx hb hr hml hts hown hlocks hin hP hE hD hS hA hT hl
  have hl : lv_has ls 3 [(0, .ref st), (1, .int v)] := hl
  refine lv_aload_n hx hb dX7_letThingGo_0 rfl (lv_at hl 0 rfl) ?_
  refine lv_iload_n hx hb dX7_letThingGo_1 rfl (lv_at hl 1 rfl) ?_
  refine grV (rest := []) hx hb hml hown hts hE (c_X7_hasThing l G cy sk sa s.heap.size st oc ki ce si sp th v) kV_X7_hasThing m_534 rfl rfl ⟨(Nat.le_of_ble_eq_true rfl), (Nat.le_of_ble_eq_true rfl)⟩ hP hD hS hT 0 rfl rfl rfl [0] rfl rfl rfl rfl hl.1 (Nat.le_of_ble_eq_true rfl) dX7_letThingGo_2 ⟨(Nat.le_of_ble_eq_true rfl), (Nat.le_of_ble_eq_true rfl)⟩ (fun r_1 hr_ => ?_)
  rcases hr_ with ⟨rfl, h_2⟩ | ⟨rfl, h_2⟩
  · refine lv_if_ne (tgt := 9) hx hb dX7_letThingGo_5 (by decide) (fun _ => ?_) (fun h9 => absurd h9 (by decide))
    refine lv_aload_n hx hb dX7_letThingGo_9 rfl (lv_at hl 0 rfl) ?_
    refine va_get (D := G) (ci := 7) (v := .ref ce) (C := RX7) (T := TX7) (N := 6) hx hb hts inB7 hown hE.1 hP 0 rfl rfl 2 (by decide) (hts _ m_126) (fun _ h9 => h9) rfl dX7_letThingGo_10 ?_
    refine lv_iload_n hx hb dX7_letThingGo_13 rfl (lv_at hl 1 rfl) ?_
    refine va_iald hx hb hE.1 hP 3 0 rfl rfl (vi_c_X7_letThingGo_0 th v h_2) dX7_letThingGo_14 ?_
    refine lv_topi (fun y3 ey3 => ?_)
    refine lv_aload_n hx hb dX7_letThingGo_15 rfl (lv_at hl 0 rfl) ?_
    refine va_get (D := G) (ci := 7) (v := .ref si) (C := RX7) (T := TX7) (N := 6) hx hb hts inB7 hown hE.1 hP 0 rfl rfl 3 (by decide) (hts _ m_128) (fun _ h9 => h9) rfl dX7_letThingGo_16 ?_
    refine lv_iload_n hx hb dX7_letThingGo_19 rfl (lv_at hl 1 rfl) ?_
    refine va_iald hx hb hE.1 hP 4 0 rfl rfl (vi_c_X7_letThingGo_1 th v h_2) dX7_letThingGo_20 ?_
    refine lv_topi (fun y4 ey4 => ?_)
    refine lv_iconst (v := 1) hx hb dX7_letThingGo_21 (by decide) ?_
    refine grS (rest := []) hx hb hml hown hts hE (c_X7_cellFrom l G cy sk sa s.heap.size y3 y4 1) kS_X7_cellFrom m_1037 rfl rfl ⟨(Nat.le_of_ble_eq_true rfl), (Nat.le_of_ble_eq_true rfl)⟩ hP hD hS hT [] rfl rfl rfl rfl hl.1 (Nat.le_of_ble_eq_true rfl) dX7_letThingGo_22 ⟨(Nat.le_of_ble_eq_true rfl), (Nat.le_of_ble_eq_true rfl)⟩ (fun r_5 hr_ => ?_)
    have h_6 := hr_
    refine lv_istore_n (lv' := [(2, .int r_5), (0, .ref st), (1, .int v)]) hx hb dX7_letThingGo_25 rfl hl (by decide) rfl (fun ls hl => ?_)
    refine lv_aload_n hx hb dX7_letThingGo_26 rfl (lv_at hl 1 rfl) ?_
    refine lv_iload_n hx hb dX7_letThingGo_27 rfl (lv_at hl 0 rfl) ?_
    refine grV (rest := []) hx hb hml hown hts hE (c_X7_isFree l G cy sk sa s.heap.size st oc ki ce si sp th foc r_5) kV_X7_isFree m_1038 rfl rfl ⟨(Nat.le_of_ble_eq_true rfl), (Nat.le_of_ble_eq_true rfl)⟩ hP hD hS hT 0 rfl rfl rfl [0, 1] rfl rfl rfl rfl hl.1 (Nat.le_of_ble_eq_true rfl) dX7_letThingGo_28 ⟨(Nat.le_of_ble_eq_true rfl), (Nat.le_of_ble_eq_true rfl)⟩ (fun r_7 hr_ => ?_)
    have h_8 := hr_
    refine lv_if_eq (tgt := 61) hx hb dX7_letThingGo_31 (by decide) (fun c_9 => ?_) (fun c_9 => ?_)
    · refine lv_aload_n hx hb dX7_letThingGo_61 rfl (lv_at hl 1 rfl) ?_
      refine va_get (D := G) (ci := 7) (v := .ref si) (C := RX7) (T := TX7) (N := 6) hx hb hts inB7 hown hE.1 hP 0 rfl rfl 3 (by decide) (hts _ m_128) (fun _ h9 => h9) rfl dX7_letThingGo_62 ?_
      refine lv_iload_n hx hb dX7_letThingGo_65 rfl (lv_at hl 2 rfl) ?_
      refine lv_aload_n hx hb dX7_letThingGo_66 rfl (lv_at hl 1 rfl) ?_
      refine va_get (D := G) (ci := 7) (v := .ref si) (C := RX7) (T := TX7) (N := 6) hx hb hts inB7 hown hE.1 hP 0 rfl rfl 3 (by decide) (hts _ m_128) (fun _ h9 => h9) rfl dX7_letThingGo_67 ?_
      refine lv_iload_n hx hb dX7_letThingGo_70 rfl (lv_at hl 2 rfl) ?_
      refine va_iald hx hb hE.1 hP 4 0 rfl rfl (vi_c_X7_letThingGo_2 th v h_2) dX7_letThingGo_71 ?_
      refine lv_topi (fun y10 ey10 => ?_)
      refine lv_iconst (v := 4) hx hb dX7_letThingGo_72 (by decide) ?_
      refine lv_iadd hx hb dX7_letThingGo_73 ?_
      refine lv_bipush (v := 7) hx hb dX7_letThingGo_74 (by decide) ?_
      refine lv_iand hx hb dX7_letThingGo_76 ?_
      refine va_iast hx hb hE.1 hP hD hS 4 0 rfl rfl (vi_c_X7_letThingGo_3 th v h_2) dX7_letThingGo_77 (fun H locs hP hD hS => ?_)
      have hP : va_P G classes [(st, .inr (7, [.ref oc, .ref ki, .ref ce, .ref si, .ref sp, .int th])), (oc, .inl (cy 0, 192, .inl foc)), (ki, .inl (cy 0, 40, .inl fki)), (ce, .inl (cy 0, 40, .inl fce)), (si, .inl (cy 0, 40, .inl (upd fsi (v).toNatClampNeg ((y10 + 4) &&& 7)))), (sp, .inl (cy 0, 40, .inl fsp))] H := hP
      have hD : va_D A [(st, .inr (7, [.ref oc, .ref ki, .ref ce, .ref si, .ref sp, .int th])), (oc, .inl (cy 0, 192, .inl foc)), (ki, .inl (cy 0, 40, .inl fki)), (ce, .inl (cy 0, 40, .inl fce)), (si, .inl (cy 0, 40, .inl (upd fsi (v).toNatClampNeg ((y10 + 4) &&& 7)))), (sp, .inl (cy 0, 40, .inl fsp))] := hD
      have hP9 := P_cut (wc := [(st, .inr (7, [.ref oc, .ref ki, .ref ce, .ref si, .ref sp, .int th])), (oc, .inl (cy 0, 192, .inl foc)), (ki, .inl (cy 0, 40, .inl fki)), (ce, .inl (cy 0, 40, .inl fce)), (si, .inl (cy 0, 40, .inl (upd fsi (v).toNatClampNeg ((y10 + 4) &&& 7)))), (sp, .inl (cy 0, 40, .inl fsp))]) hP [0, 1, 2, 3, 4, 5] rfl
      have hD9 := hD.sub (ws' := [(st, .inr (7, [.ref oc, .ref ki, .ref ce, .ref si, .ref sp, .int th])), (oc, .inl (cy 0, 192, .inl foc)), (ki, .inl (cy 0, 40, .inl fki)), (ce, .inl (cy 0, 40, .inl fce)), (si, .inl (cy 0, 40, .inl (upd fsi (v).toNatClampNeg ((y10 + 4) &&& 7)))), (sp, .inl (cy 0, 40, .inl fsp))]) [0, 1, 2, 3, 4, 5] (by decide) rfl
      refine W.widen (k := 0) (n := 0) (by first | exact Nat.le_of_ble_eq_true rfl | omega) (by first | exact Nat.le_of_ble_eq_true rfl | omega) ?_
      exact W.vret hx hb hr (fun t ht hW => ⟨⟨(), rfl, trivial, by dsimp only; rw [ht]; exact ⟨th, foc, fki, fce, (upd fsi (v).toNatClampNeg ((y10 + 4) &&& 7)), fsp, hP9, hD9⟩⟩, hS.F ht⟩) hS.2.2 dX7_letThingGo_78
    · refine lv_aload_n hx hb dX7_letThingGo_34 rfl (lv_at hl 1 rfl) ?_
      refine lv_aload_n hx hb dX7_letThingGo_35 rfl (lv_at hl 1 rfl) ?_
      refine va_get (D := G) (ci := 7) (v := .ref ce) (C := RX7) (T := TX7) (N := 6) hx hb hts inB7 hown hE.1 hP 0 rfl rfl 2 (by decide) (hts _ m_126) (fun _ h9 => h9) rfl dX7_letThingGo_36 ?_
      refine lv_iload_n hx hb dX7_letThingGo_39 rfl (lv_at hl 2 rfl) ?_
      refine va_iald hx hb hE.1 hP 3 0 rfl rfl (vi_c_X7_letThingGo_4 th v h_2) dX7_letThingGo_40 ?_
      refine lv_topi (fun y11 ey11 => ?_)
      refine lv_iconst (v := (-1)) hx hb dX7_letThingGo_41 (by decide) ?_
      refine gwVv (B := (B_c_X7_settle G cy (va_A [(st, .inr (7, [.ref oc, .ref ki, .ref ce, .ref si, .ref sp, .int th])), (oc, .inl (cy 0, 192, .inl foc))] s.heap.size) st oc ki ce si sp th foc y11 (-1))) (wr := [(ki, .inl (cy 0, 40, .inl fki)), (ce, .inl (cy 0, 40, .inl fce)), (si, .inl (cy 0, 40, .inl fsi)), (sp, .inl (cy 0, 40, .inl fsp))]) (rest := []) hx hb hml hown hts hE (c_X7_settle l G cy sk sa s.heap.size st oc ki ce si sp th foc y11 (-1)) kV_X7_settle m_518 rfl rfl ⟨(Nat.le_of_ble_eq_true rfl), (Nat.le_of_ble_eq_true rfl)⟩ hP hD hS hT hA 0 rfl rfl rfl [0, 1] [2, 3, 4, 5] rfl rfl rfl rfl (by decide) rfl rfl hl.1 (Nat.le_of_ble_eq_true rfl) dX7_letThingGo_42 ⟨(Nat.le_of_ble_eq_true rfl), (Nat.le_of_ble_eq_true rfl)⟩ (fun H locs haf hS => ?_)
      obtain ⟨xf13, hP1, hD1⟩ := haf.1
      obtain ⟨hP, hD⟩ := haf.2.1 _ hP1 hD1
      have hP : va_P G classes [(ki, .inl (cy 0, 40, .inl fki)), (ce, .inl (cy 0, 40, .inl fce)), (si, .inl (cy 0, 40, .inl fsi)), (sp, .inl (cy 0, 40, .inl fsp)), (st, .inr (7, [.ref oc, .ref ki, .ref ce, .ref si, .ref sp, .int th])), (oc, .inl (cy 0, 192, .inl xf13))] H := hP
      have hD : va_D A [(ki, .inl (cy 0, 40, .inl fki)), (ce, .inl (cy 0, 40, .inl fce)), (si, .inl (cy 0, 40, .inl fsi)), (sp, .inl (cy 0, 40, .inl fsp)), (st, .inr (7, [.ref oc, .ref ki, .ref ce, .ref si, .ref sp, .int th])), (oc, .inl (cy 0, 192, .inl xf13))] := hD
      refine lv_aload_n hx hb dX7_letThingGo_45 rfl (lv_at hl 1 rfl) ?_
      refine lv_iload_n hx hb dX7_letThingGo_46 rfl (lv_at hl 0 rfl) ?_
      refine lv_iload_n hx hb dX7_letThingGo_47 rfl (lv_at hl 2 rfl) ?_
      refine gwVv (B := (B_c_X7_settle G cy (va_A [(st, .inr (7, [.ref oc, .ref ki, .ref ce, .ref si, .ref sp, .int th])), (oc, .inl (cy 0, 192, .inl xf13))] H.size) st oc ki ce si sp th xf13 r_5 v)) (wr := [(ki, .inl (cy 0, 40, .inl fki)), (ce, .inl (cy 0, 40, .inl fce)), (si, .inl (cy 0, 40, .inl fsi)), (sp, .inl (cy 0, 40, .inl fsp))]) (rest := []) hx hb hml hown hts hE (c_X7_settle l G cy sk sa H.size st oc ki ce si sp th xf13 r_5 v) kV_X7_settle m_518 rfl rfl ⟨(Nat.le_of_ble_eq_true rfl), (Nat.le_of_ble_eq_true rfl)⟩ hP hD hS hT hA 4 rfl rfl rfl [4, 5] [0, 1, 2, 3] rfl rfl rfl rfl (by decide) rfl rfl hl.1 (Nat.le_of_ble_eq_true rfl) dX7_letThingGo_48 ⟨(Nat.le_of_ble_eq_true rfl), (Nat.le_of_ble_eq_true rfl)⟩ (fun H locs haf hS => ?_)
      obtain ⟨xf15, hP1, hD1⟩ := haf.1
      obtain ⟨hP, hD⟩ := haf.2.1 _ hP1 hD1
      have hP : va_P G classes [(ki, .inl (cy 0, 40, .inl fki)), (ce, .inl (cy 0, 40, .inl fce)), (si, .inl (cy 0, 40, .inl fsi)), (sp, .inl (cy 0, 40, .inl fsp)), (st, .inr (7, [.ref oc, .ref ki, .ref ce, .ref si, .ref sp, .int th])), (oc, .inl (cy 0, 192, .inl xf15))] H := hP
      have hD : va_D A [(ki, .inl (cy 0, 40, .inl fki)), (ce, .inl (cy 0, 40, .inl fce)), (si, .inl (cy 0, 40, .inl fsi)), (sp, .inl (cy 0, 40, .inl fsp)), (st, .inr (7, [.ref oc, .ref ki, .ref ce, .ref si, .ref sp, .int th])), (oc, .inl (cy 0, 192, .inl xf15))] := hD
      refine lv_aload_n hx hb dX7_letThingGo_51 rfl (lv_at hl 1 rfl) ?_
      refine va_get (D := G) (ci := 7) (v := .ref ce) (C := RX7) (T := TX7) (N := 6) hx hb hts inB7 hown hE.1 hP 4 rfl rfl 2 (by decide) (hts _ m_126) (fun _ h9 => h9) rfl dX7_letThingGo_52 ?_
      refine lv_iload_n hx hb dX7_letThingGo_55 rfl (lv_at hl 2 rfl) ?_
      refine lv_iload_n hx hb dX7_letThingGo_56 rfl (lv_at hl 0 rfl) ?_
      refine va_iast hx hb hE.1 hP hD hS 1 0 rfl rfl (vi_c_X7_letThingGo_5 th v h_2) dX7_letThingGo_57 (fun H locs hP hD hS => ?_)
      have hP : va_P G classes [(ki, .inl (cy 0, 40, .inl fki)), (ce, .inl (cy 0, 40, .inl (upd fce (v).toNatClampNeg r_5))), (si, .inl (cy 0, 40, .inl fsi)), (sp, .inl (cy 0, 40, .inl fsp)), (st, .inr (7, [.ref oc, .ref ki, .ref ce, .ref si, .ref sp, .int th])), (oc, .inl (cy 0, 192, .inl xf15))] H := hP
      have hD : va_D A [(ki, .inl (cy 0, 40, .inl fki)), (ce, .inl (cy 0, 40, .inl (upd fce (v).toNatClampNeg r_5))), (si, .inl (cy 0, 40, .inl fsi)), (sp, .inl (cy 0, 40, .inl fsp)), (st, .inr (7, [.ref oc, .ref ki, .ref ce, .ref si, .ref sp, .int th])), (oc, .inl (cy 0, 192, .inl xf15))] := hD
      refine lv_goto (tgt := 78) hx hb dX7_letThingGo_58 (by decide) ?_
      have hP9 := P_cut (wc := [(st, .inr (7, [.ref oc, .ref ki, .ref ce, .ref si, .ref sp, .int th])), (oc, .inl (cy 0, 192, .inl xf15)), (ki, .inl (cy 0, 40, .inl fki)), (ce, .inl (cy 0, 40, .inl (upd fce (v).toNatClampNeg r_5))), (si, .inl (cy 0, 40, .inl fsi)), (sp, .inl (cy 0, 40, .inl fsp))]) hP [4, 5, 0, 1, 2, 3] rfl
      have hD9 := hD.sub (ws' := [(st, .inr (7, [.ref oc, .ref ki, .ref ce, .ref si, .ref sp, .int th])), (oc, .inl (cy 0, 192, .inl xf15)), (ki, .inl (cy 0, 40, .inl fki)), (ce, .inl (cy 0, 40, .inl (upd fce (v).toNatClampNeg r_5))), (si, .inl (cy 0, 40, .inl fsi)), (sp, .inl (cy 0, 40, .inl fsp))]) [4, 5, 0, 1, 2, 3] (by decide) rfl
      refine W.widen (k := 0) (n := 0) (by first | exact Nat.le_of_ble_eq_true rfl | omega) (by first | exact Nat.le_of_ble_eq_true rfl | omega) ?_
      exact W.vret hx hb hr (fun t ht hW => ⟨⟨(), rfl, trivial, by dsimp only; rw [ht]; exact ⟨th, xf15, fki, (upd fce (v).toNatClampNeg r_5), fsi, fsp, hP9, hD9⟩⟩, hS.F ht⟩) hS.2.2 dX7_letThingGo_78
  · refine lv_if_ne (tgt := 9) hx hb dX7_letThingGo_5 (by decide) (fun h9 => absurd h9 (by decide)) (fun _ => ?_)
    have hP9 := P_cut (wc := [(st, .inr (7, [.ref oc, .ref ki, .ref ce, .ref si, .ref sp, .int th])), (oc, .inl (cy 0, 192, .inl foc)), (ki, .inl (cy 0, 40, .inl fki)), (ce, .inl (cy 0, 40, .inl fce)), (si, .inl (cy 0, 40, .inl fsi)), (sp, .inl (cy 0, 40, .inl fsp))]) hP [0, 1, 2, 3, 4, 5] rfl
    have hD9 := hD.sub (ws' := [(st, .inr (7, [.ref oc, .ref ki, .ref ce, .ref si, .ref sp, .int th])), (oc, .inl (cy 0, 192, .inl foc)), (ki, .inl (cy 0, 40, .inl fki)), (ce, .inl (cy 0, 40, .inl fce)), (si, .inl (cy 0, 40, .inl fsi)), (sp, .inl (cy 0, 40, .inl fsp))]) [0, 1, 2, 3, 4, 5] (by decide) rfl
    refine W.widen (k := 0) (n := 0) (by first | exact Nat.le_of_ble_eq_true rfl | omega) (by first | exact Nat.le_of_ble_eq_true rfl | omega) ?_
    exact W.vret hx hb hr (fun t ht hW => ⟨⟨(), rfl, trivial, by dsimp only; rw [ht]; exact ⟨th, foc, fki, fce, fsi, fsp, hP9, hD9⟩⟩, hS.F ht⟩) hS.2.2 dX7_letThingGo_8
def B_c_X7_takeFrom (G : va_G) (cy : Nat → ClassId) (A : Nat → Prop) (st : Nat) (oc : Nat) (ki : Nat) (ce : Nat) (si : Nat) (sp : Nat) (th : Int32) (foc : Nat → Int32) (fki : Nat → Int32) (fce : Nat → Int32) (fsi : Nat → Int32) (fsp : Nat → Int32) (st2 : Nat) (oc2 : Nat) (ki2 : Nat) (ce2 : Nat) (si2 : Nat) (sp2 : Nat) (uh : Int32) (hoc : Nat → Int32) (hki : Nat → Int32) (hce : Nat → Int32) (hsi : Nat → Int32) (hsp : Nat → Int32) (H : Heap) : Prop := ∃ (th2 : Int32) (goc : Nat → Int32) (gki : Nat → Int32) (gce : Nat → Int32) (gsi : Nat → Int32) (gsp : Nat → Int32), va_P G classes [(st, .inr (7, [.ref oc, .ref ki, .ref ce, .ref si, .ref sp, .int th2])), (oc, .inl (cy 0, 192, .inl goc)), (ki, .inl (cy 0, 40, .inl gki)), (ce, .inl (cy 0, 40, .inl gce)), (si, .inl (cy 0, 40, .inl gsi)), (sp, .inl (cy 0, 40, .inl gsp)), (st2, .inr (7, [.ref oc2, .ref ki2, .ref ce2, .ref si2, .ref sp2, .int uh])), (oc2, .inl (cy 0, 192, .inl hoc)), (ki2, .inl (cy 0, 40, .inl hki)), (ce2, .inl (cy 0, 40, .inl hce)), (si2, .inl (cy 0, 40, .inl hsi)), (sp2, .inl (cy 0, 40, .inl hsp))] H ∧ va_D A [(st, .inr (7, [.ref oc, .ref ki, .ref ce, .ref si, .ref sp, .int th2])), (oc, .inl (cy 0, 192, .inl goc)), (ki, .inl (cy 0, 40, .inl gki)), (ce, .inl (cy 0, 40, .inl gce)), (si, .inl (cy 0, 40, .inl gsi)), (sp, .inl (cy 0, 40, .inl gsp)), (st2, .inr (7, [.ref oc2, .ref ki2, .ref ce2, .ref si2, .ref sp2, .int uh])), (oc2, .inl (cy 0, 192, .inl hoc)), (ki2, .inl (cy 0, 40, .inl hki)), (ce2, .inl (cy 0, 40, .inl hce)), (si2, .inl (cy 0, 40, .inl hsi)), (sp2, .inl (cy 0, 40, .inl hsp))]
set_option maxHeartbeats 4000000 in
set_option maxRecDepth 100000 in
theorem c_X7_takeFrom (l : Launch) (G : va_G) (cy : Nat → ClassId) (sk sa : Nat → Nat) (sz : Nat) (st : Nat) (oc : Nat) (ki : Nat) (ce : Nat) (si : Nat) (sp : Nat) (th : Int32) (foc : Nat → Int32) (fki : Nat → Int32) (fce : Nat → Int32) (fsi : Nat → Int32) (fsp : Nat → Int32) (st2 : Nat) (oc2 : Nat) (ki2 : Nat) (ce2 : Nat) (si2 : Nat) (sp2 : Nat) (uh : Int32) (hoc : Nat → Int32) (hki : Nat → Int32) (hce : Nat → Int32) (hsi : Nat → Int32) (hsp : Nat → Int32)  : Met l yX7_takeFrom (wsO yX7_takeFrom cX7_takeFrom 2 none) ({ frames := 1, cells := 0, slots := 0, locals := 40 }) (va_Pc [.ref st, .ref st2] (PG G cy sk sa sz [(st, .inr (7, [.ref oc, .ref ki, .ref ce, .ref si, .ref sp, .int th])), (oc, .inl (cy 0, 192, .inl foc)), (ki, .inl (cy 0, 40, .inl fki)), (ce, .inl (cy 0, 40, .inl fce)), (si, .inl (cy 0, 40, .inl fsi)), (sp, .inl (cy 0, 40, .inl fsp)), (st2, .inr (7, [.ref oc2, .ref ki2, .ref ce2, .ref si2, .ref sp2, .int uh])), (oc2, .inl (cy 0, 192, .inl hoc)), (ki2, .inl (cy 0, 40, .inl hki)), (ce2, .inl (cy 0, 40, .inl hce)), (si2, .inl (cy 0, 40, .inl hsi)), (sp2, .inl (cy 0, 40, .inl hsp))])) (va_Qv (fun (_ : Unit) => True) (fun _ t => B_c_X7_takeFrom G cy (va_A [(st, .inr (7, [.ref oc, .ref ki, .ref ce, .ref si, .ref sp, .int th])), (oc, .inl (cy 0, 192, .inl foc)), (ki, .inl (cy 0, 40, .inl fki)), (ce, .inl (cy 0, 40, .inl fce)), (si, .inl (cy 0, 40, .inl fsi)), (sp, .inl (cy 0, 40, .inl fsp)), (st2, .inr (7, [.ref oc2, .ref ki2, .ref ce2, .ref si2, .ref sp2, .int uh])), (oc2, .inl (cy 0, 192, .inl hoc)), (ki2, .inl (cy 0, 40, .inl hki)), (ce2, .inl (cy 0, 40, .inl hce)), (si2, .inl (cy 0, 40, .inl hsi)), (sp2, .inl (cy 0, 40, .inl hsp))] sz) st oc ki ce si sp th foc fki fce fsi fsp st2 oc2 ki2 ce2 si2 sp2 uh hoc hki hce hsi hsp t.heap) (va_A [(st, .inr (7, [.ref oc, .ref ki, .ref ce, .ref si, .ref sp, .int th])), (oc, .inl (cy 0, 192, .inl foc)), (ki, .inl (cy 0, 40, .inl fki)), (ce, .inl (cy 0, 40, .inl fce)), (si, .inl (cy 0, 40, .inl fsi)), (sp, .inl (cy 0, 40, .inl fsp)), (st2, .inr (7, [.ref oc2, .ref ki2, .ref ce2, .ref si2, .ref sp2, .int uh])), (oc2, .inl (cy 0, 192, .inl hoc)), (ki2, .inl (cy 0, 40, .inl hki)), (ce2, .inl (cy 0, 40, .inl hce)), (si2, .inl (cy 0, 40, .inl hsi)), (sp2, .inl (cy 0, 40, .inl hsp))] sz)) 0 0 (va_A [(st, .inr (7, [.ref oc, .ref ki, .ref ce, .ref si, .ref sp, .int th])), (oc, .inl (cy 0, 192, .inl foc)), (ki, .inl (cy 0, 40, .inl fki)), (ce, .inl (cy 0, 40, .inl fce)), (si, .inl (cy 0, 40, .inl fsi)), (sp, .inl (cy 0, 40, .inl fsp)), (st2, .inr (7, [.ref oc2, .ref ki2, .ref ce2, .ref si2, .ref sp2, .int uh])), (oc2, .inl (cy 0, 192, .inl hoc)), (ki2, .inl (cy 0, 40, .inl hki)), (ce2, .inl (cy 0, 40, .inl hce)), (si2, .inl (cy 0, 40, .inl hsi)), (sp2, .inl (cy 0, 40, .inl hsp))] sz) := by
  refine mgw (Qc := fun A => (va_Qv (fun (_ : Unit) => True) (fun _ t => B_c_X7_takeFrom G cy A st oc ki ce si sp th foc fki fce fsi fsp st2 oc2 ki2 ce2 si2 sp2 uh hoc hki hce hsi hsp t.heap) A)) (by decide) (Nat.le_of_ble_eq_true rfl) ?_
  intro p e s m below meth c ls A hx hb hr hml hts hown hlocks hin hP hE hD hS hA hT hl
  have hl : lv_has ls 2 [(0, .ref st), (1, .ref st2)] := hl
  refine lv_aload_n hx hb dX7_takeFrom_0 rfl (lv_at hl 1 rfl) ?_
  refine va_get (D := G) (ci := 7) (v := .ref oc2) (C := RX7) (T := TX7) (N := 6) hx hb hts inB7 hown hE.1 hP 6 rfl rfl 0 (by decide) (hts _ m_121) (fun _ h9 => h9) rfl dX7_takeFrom_1 ?_
  refine lv_iconst (v := 0) hx hb dX7_takeFrom_4 (by decide) ?_
  refine lv_aload_n hx hb dX7_takeFrom_5 rfl (lv_at hl 0 rfl) ?_
  refine va_get (D := G) (ci := 7) (v := .ref oc) (C := RX7) (T := TX7) (N := 6) hx hb hts inB7 hown hE.1 hP 0 rfl rfl 0 (by decide) (hts _ m_121) (fun _ h9 => h9) rfl dX7_takeFrom_6 ?_
  refine lv_iconst (v := 0) hx hb dX7_takeFrom_9 (by decide) ?_
  refine lv_sipush (v := 192) hx hb dX7_takeFrom_10 (by decide) ?_
  refine va_copyi (ty := .int) hx hb (hml.trans hl.1.symm) hown (hts _ m_1262) (hts _ m_830) (hts _ m_829) (hts _ m_98) hE.1 hP hD hS 7 1 0 0 rfl rfl rfl rfl rfl (by decide) (by decide) (by decide) (by decide) (by decide) (fun _ _ => rfl) (Nat.le_of_ble_eq_true rfl) (Nat.le_of_ble_eq_true rfl) dX7_takeFrom_13 (fun H locs hP hD hS => ?_)
  have hP : va_P G classes [(st, .inr (7, [.ref oc, .ref ki, .ref ce, .ref si, .ref sp, .int th])), (oc, .inl (cy 0, 192, .inl (va_cpy hoc foc 0 0 192))), (ki, .inl (cy 0, 40, .inl fki)), (ce, .inl (cy 0, 40, .inl fce)), (si, .inl (cy 0, 40, .inl fsi)), (sp, .inl (cy 0, 40, .inl fsp)), (st2, .inr (7, [.ref oc2, .ref ki2, .ref ce2, .ref si2, .ref sp2, .int uh])), (oc2, .inl (cy 0, 192, .inl hoc)), (ki2, .inl (cy 0, 40, .inl hki)), (ce2, .inl (cy 0, 40, .inl hce)), (si2, .inl (cy 0, 40, .inl hsi)), (sp2, .inl (cy 0, 40, .inl hsp))] H := hP
  have hD : va_D A [(st, .inr (7, [.ref oc, .ref ki, .ref ce, .ref si, .ref sp, .int th])), (oc, .inl (cy 0, 192, .inl (va_cpy hoc foc 0 0 192))), (ki, .inl (cy 0, 40, .inl fki)), (ce, .inl (cy 0, 40, .inl fce)), (si, .inl (cy 0, 40, .inl fsi)), (sp, .inl (cy 0, 40, .inl fsp)), (st2, .inr (7, [.ref oc2, .ref ki2, .ref ce2, .ref si2, .ref sp2, .int uh])), (oc2, .inl (cy 0, 192, .inl hoc)), (ki2, .inl (cy 0, 40, .inl hki)), (ce2, .inl (cy 0, 40, .inl hce)), (si2, .inl (cy 0, 40, .inl hsi)), (sp2, .inl (cy 0, 40, .inl hsp))] := hD
  obtain ⟨xf1, hP, hD⟩ : ∃ xf1, va_P G classes [(st, .inr (7, [.ref oc, .ref ki, .ref ce, .ref si, .ref sp, .int th])), (oc, .inl (cy 0, 192, .inl xf1)), (ki, .inl (cy 0, 40, .inl fki)), (ce, .inl (cy 0, 40, .inl fce)), (si, .inl (cy 0, 40, .inl fsi)), (sp, .inl (cy 0, 40, .inl fsp)), (st2, .inr (7, [.ref oc2, .ref ki2, .ref ce2, .ref si2, .ref sp2, .int uh])), (oc2, .inl (cy 0, 192, .inl hoc)), (ki2, .inl (cy 0, 40, .inl hki)), (ce2, .inl (cy 0, 40, .inl hce)), (si2, .inl (cy 0, 40, .inl hsi)), (sp2, .inl (cy 0, 40, .inl hsp))] H ∧ va_D A [(st, .inr (7, [.ref oc, .ref ki, .ref ce, .ref si, .ref sp, .int th])), (oc, .inl (cy 0, 192, .inl xf1)), (ki, .inl (cy 0, 40, .inl fki)), (ce, .inl (cy 0, 40, .inl fce)), (si, .inl (cy 0, 40, .inl fsi)), (sp, .inl (cy 0, 40, .inl fsp)), (st2, .inr (7, [.ref oc2, .ref ki2, .ref ce2, .ref si2, .ref sp2, .int uh])), (oc2, .inl (cy 0, 192, .inl hoc)), (ki2, .inl (cy 0, 40, .inl hki)), (ce2, .inl (cy 0, 40, .inl hce)), (si2, .inl (cy 0, 40, .inl hsi)), (sp2, .inl (cy 0, 40, .inl hsp))] := ⟨_, hP, hD⟩
  refine lv_aload_n hx hb dX7_takeFrom_16 rfl (lv_at hl 1 rfl) ?_
  refine va_get (D := G) (ci := 7) (v := .ref ki2) (C := RX7) (T := TX7) (N := 6) hx hb hts inB7 hown hE.1 hP 6 rfl rfl 1 (by decide) (hts _ m_124) (fun _ h9 => h9) rfl dX7_takeFrom_17 ?_
  refine lv_iconst (v := 0) hx hb dX7_takeFrom_20 (by decide) ?_
  refine lv_aload_n hx hb dX7_takeFrom_21 rfl (lv_at hl 0 rfl) ?_
  refine va_get (D := G) (ci := 7) (v := .ref ki) (C := RX7) (T := TX7) (N := 6) hx hb hts inB7 hown hE.1 hP 0 rfl rfl 1 (by decide) (hts _ m_124) (fun _ h9 => h9) rfl dX7_takeFrom_22 ?_
  refine lv_iconst (v := 0) hx hb dX7_takeFrom_25 (by decide) ?_
  refine lv_bipush (v := 40) hx hb dX7_takeFrom_26 (by decide) ?_
  refine va_copyi (ty := .int) hx hb (hml.trans hl.1.symm) hown (hts _ m_1262) (hts _ m_830) (hts _ m_829) (hts _ m_98) hE.1 hP hD hS 8 2 0 0 rfl rfl rfl rfl rfl (by decide) (by decide) (by decide) (by decide) (by decide) (fun _ _ => rfl) (Nat.le_of_ble_eq_true rfl) (Nat.le_of_ble_eq_true rfl) dX7_takeFrom_28 (fun H locs hP hD hS => ?_)
  have hP : va_P G classes [(st, .inr (7, [.ref oc, .ref ki, .ref ce, .ref si, .ref sp, .int th])), (oc, .inl (cy 0, 192, .inl xf1)), (ki, .inl (cy 0, 40, .inl (va_cpy hki fki 0 0 40))), (ce, .inl (cy 0, 40, .inl fce)), (si, .inl (cy 0, 40, .inl fsi)), (sp, .inl (cy 0, 40, .inl fsp)), (st2, .inr (7, [.ref oc2, .ref ki2, .ref ce2, .ref si2, .ref sp2, .int uh])), (oc2, .inl (cy 0, 192, .inl hoc)), (ki2, .inl (cy 0, 40, .inl hki)), (ce2, .inl (cy 0, 40, .inl hce)), (si2, .inl (cy 0, 40, .inl hsi)), (sp2, .inl (cy 0, 40, .inl hsp))] H := hP
  have hD : va_D A [(st, .inr (7, [.ref oc, .ref ki, .ref ce, .ref si, .ref sp, .int th])), (oc, .inl (cy 0, 192, .inl xf1)), (ki, .inl (cy 0, 40, .inl (va_cpy hki fki 0 0 40))), (ce, .inl (cy 0, 40, .inl fce)), (si, .inl (cy 0, 40, .inl fsi)), (sp, .inl (cy 0, 40, .inl fsp)), (st2, .inr (7, [.ref oc2, .ref ki2, .ref ce2, .ref si2, .ref sp2, .int uh])), (oc2, .inl (cy 0, 192, .inl hoc)), (ki2, .inl (cy 0, 40, .inl hki)), (ce2, .inl (cy 0, 40, .inl hce)), (si2, .inl (cy 0, 40, .inl hsi)), (sp2, .inl (cy 0, 40, .inl hsp))] := hD
  obtain ⟨xf2, hP, hD⟩ : ∃ xf2, va_P G classes [(st, .inr (7, [.ref oc, .ref ki, .ref ce, .ref si, .ref sp, .int th])), (oc, .inl (cy 0, 192, .inl xf1)), (ki, .inl (cy 0, 40, .inl xf2)), (ce, .inl (cy 0, 40, .inl fce)), (si, .inl (cy 0, 40, .inl fsi)), (sp, .inl (cy 0, 40, .inl fsp)), (st2, .inr (7, [.ref oc2, .ref ki2, .ref ce2, .ref si2, .ref sp2, .int uh])), (oc2, .inl (cy 0, 192, .inl hoc)), (ki2, .inl (cy 0, 40, .inl hki)), (ce2, .inl (cy 0, 40, .inl hce)), (si2, .inl (cy 0, 40, .inl hsi)), (sp2, .inl (cy 0, 40, .inl hsp))] H ∧ va_D A [(st, .inr (7, [.ref oc, .ref ki, .ref ce, .ref si, .ref sp, .int th])), (oc, .inl (cy 0, 192, .inl xf1)), (ki, .inl (cy 0, 40, .inl xf2)), (ce, .inl (cy 0, 40, .inl fce)), (si, .inl (cy 0, 40, .inl fsi)), (sp, .inl (cy 0, 40, .inl fsp)), (st2, .inr (7, [.ref oc2, .ref ki2, .ref ce2, .ref si2, .ref sp2, .int uh])), (oc2, .inl (cy 0, 192, .inl hoc)), (ki2, .inl (cy 0, 40, .inl hki)), (ce2, .inl (cy 0, 40, .inl hce)), (si2, .inl (cy 0, 40, .inl hsi)), (sp2, .inl (cy 0, 40, .inl hsp))] := ⟨_, hP, hD⟩
  refine lv_aload_n hx hb dX7_takeFrom_31 rfl (lv_at hl 1 rfl) ?_
  refine va_get (D := G) (ci := 7) (v := .ref ce2) (C := RX7) (T := TX7) (N := 6) hx hb hts inB7 hown hE.1 hP 6 rfl rfl 2 (by decide) (hts _ m_126) (fun _ h9 => h9) rfl dX7_takeFrom_32 ?_
  refine lv_iconst (v := 0) hx hb dX7_takeFrom_35 (by decide) ?_
  refine lv_aload_n hx hb dX7_takeFrom_36 rfl (lv_at hl 0 rfl) ?_
  refine va_get (D := G) (ci := 7) (v := .ref ce) (C := RX7) (T := TX7) (N := 6) hx hb hts inB7 hown hE.1 hP 0 rfl rfl 2 (by decide) (hts _ m_126) (fun _ h9 => h9) rfl dX7_takeFrom_37 ?_
  refine lv_iconst (v := 0) hx hb dX7_takeFrom_40 (by decide) ?_
  refine lv_bipush (v := 40) hx hb dX7_takeFrom_41 (by decide) ?_
  refine va_copyi (ty := .int) hx hb (hml.trans hl.1.symm) hown (hts _ m_1262) (hts _ m_830) (hts _ m_829) (hts _ m_98) hE.1 hP hD hS 9 3 0 0 rfl rfl rfl rfl rfl (by decide) (by decide) (by decide) (by decide) (by decide) (fun _ _ => rfl) (Nat.le_of_ble_eq_true rfl) (Nat.le_of_ble_eq_true rfl) dX7_takeFrom_43 (fun H locs hP hD hS => ?_)
  have hP : va_P G classes [(st, .inr (7, [.ref oc, .ref ki, .ref ce, .ref si, .ref sp, .int th])), (oc, .inl (cy 0, 192, .inl xf1)), (ki, .inl (cy 0, 40, .inl xf2)), (ce, .inl (cy 0, 40, .inl (va_cpy hce fce 0 0 40))), (si, .inl (cy 0, 40, .inl fsi)), (sp, .inl (cy 0, 40, .inl fsp)), (st2, .inr (7, [.ref oc2, .ref ki2, .ref ce2, .ref si2, .ref sp2, .int uh])), (oc2, .inl (cy 0, 192, .inl hoc)), (ki2, .inl (cy 0, 40, .inl hki)), (ce2, .inl (cy 0, 40, .inl hce)), (si2, .inl (cy 0, 40, .inl hsi)), (sp2, .inl (cy 0, 40, .inl hsp))] H := hP
  have hD : va_D A [(st, .inr (7, [.ref oc, .ref ki, .ref ce, .ref si, .ref sp, .int th])), (oc, .inl (cy 0, 192, .inl xf1)), (ki, .inl (cy 0, 40, .inl xf2)), (ce, .inl (cy 0, 40, .inl (va_cpy hce fce 0 0 40))), (si, .inl (cy 0, 40, .inl fsi)), (sp, .inl (cy 0, 40, .inl fsp)), (st2, .inr (7, [.ref oc2, .ref ki2, .ref ce2, .ref si2, .ref sp2, .int uh])), (oc2, .inl (cy 0, 192, .inl hoc)), (ki2, .inl (cy 0, 40, .inl hki)), (ce2, .inl (cy 0, 40, .inl hce)), (si2, .inl (cy 0, 40, .inl hsi)), (sp2, .inl (cy 0, 40, .inl hsp))] := hD
  obtain ⟨xf3, hP, hD⟩ : ∃ xf3, va_P G classes [(st, .inr (7, [.ref oc, .ref ki, .ref ce, .ref si, .ref sp, .int th])), (oc, .inl (cy 0, 192, .inl xf1)), (ki, .inl (cy 0, 40, .inl xf2)), (ce, .inl (cy 0, 40, .inl xf3)), (si, .inl (cy 0, 40, .inl fsi)), (sp, .inl (cy 0, 40, .inl fsp)), (st2, .inr (7, [.ref oc2, .ref ki2, .ref ce2, .ref si2, .ref sp2, .int uh])), (oc2, .inl (cy 0, 192, .inl hoc)), (ki2, .inl (cy 0, 40, .inl hki)), (ce2, .inl (cy 0, 40, .inl hce)), (si2, .inl (cy 0, 40, .inl hsi)), (sp2, .inl (cy 0, 40, .inl hsp))] H ∧ va_D A [(st, .inr (7, [.ref oc, .ref ki, .ref ce, .ref si, .ref sp, .int th])), (oc, .inl (cy 0, 192, .inl xf1)), (ki, .inl (cy 0, 40, .inl xf2)), (ce, .inl (cy 0, 40, .inl xf3)), (si, .inl (cy 0, 40, .inl fsi)), (sp, .inl (cy 0, 40, .inl fsp)), (st2, .inr (7, [.ref oc2, .ref ki2, .ref ce2, .ref si2, .ref sp2, .int uh])), (oc2, .inl (cy 0, 192, .inl hoc)), (ki2, .inl (cy 0, 40, .inl hki)), (ce2, .inl (cy 0, 40, .inl hce)), (si2, .inl (cy 0, 40, .inl hsi)), (sp2, .inl (cy 0, 40, .inl hsp))] := ⟨_, hP, hD⟩
  refine lv_aload_n hx hb dX7_takeFrom_46 rfl (lv_at hl 1 rfl) ?_
  refine va_get (D := G) (ci := 7) (v := .ref si2) (C := RX7) (T := TX7) (N := 6) hx hb hts inB7 hown hE.1 hP 6 rfl rfl 3 (by decide) (hts _ m_128) (fun _ h9 => h9) rfl dX7_takeFrom_47 ?_
  refine lv_iconst (v := 0) hx hb dX7_takeFrom_50 (by decide) ?_
  refine lv_aload_n hx hb dX7_takeFrom_51 rfl (lv_at hl 0 rfl) ?_
  refine va_get (D := G) (ci := 7) (v := .ref si) (C := RX7) (T := TX7) (N := 6) hx hb hts inB7 hown hE.1 hP 0 rfl rfl 3 (by decide) (hts _ m_128) (fun _ h9 => h9) rfl dX7_takeFrom_52 ?_
  refine lv_iconst (v := 0) hx hb dX7_takeFrom_55 (by decide) ?_
  refine lv_bipush (v := 40) hx hb dX7_takeFrom_56 (by decide) ?_
  refine va_copyi (ty := .int) hx hb (hml.trans hl.1.symm) hown (hts _ m_1262) (hts _ m_830) (hts _ m_829) (hts _ m_98) hE.1 hP hD hS 10 4 0 0 rfl rfl rfl rfl rfl (by decide) (by decide) (by decide) (by decide) (by decide) (fun _ _ => rfl) (Nat.le_of_ble_eq_true rfl) (Nat.le_of_ble_eq_true rfl) dX7_takeFrom_58 (fun H locs hP hD hS => ?_)
  have hP : va_P G classes [(st, .inr (7, [.ref oc, .ref ki, .ref ce, .ref si, .ref sp, .int th])), (oc, .inl (cy 0, 192, .inl xf1)), (ki, .inl (cy 0, 40, .inl xf2)), (ce, .inl (cy 0, 40, .inl xf3)), (si, .inl (cy 0, 40, .inl (va_cpy hsi fsi 0 0 40))), (sp, .inl (cy 0, 40, .inl fsp)), (st2, .inr (7, [.ref oc2, .ref ki2, .ref ce2, .ref si2, .ref sp2, .int uh])), (oc2, .inl (cy 0, 192, .inl hoc)), (ki2, .inl (cy 0, 40, .inl hki)), (ce2, .inl (cy 0, 40, .inl hce)), (si2, .inl (cy 0, 40, .inl hsi)), (sp2, .inl (cy 0, 40, .inl hsp))] H := hP
  have hD : va_D A [(st, .inr (7, [.ref oc, .ref ki, .ref ce, .ref si, .ref sp, .int th])), (oc, .inl (cy 0, 192, .inl xf1)), (ki, .inl (cy 0, 40, .inl xf2)), (ce, .inl (cy 0, 40, .inl xf3)), (si, .inl (cy 0, 40, .inl (va_cpy hsi fsi 0 0 40))), (sp, .inl (cy 0, 40, .inl fsp)), (st2, .inr (7, [.ref oc2, .ref ki2, .ref ce2, .ref si2, .ref sp2, .int uh])), (oc2, .inl (cy 0, 192, .inl hoc)), (ki2, .inl (cy 0, 40, .inl hki)), (ce2, .inl (cy 0, 40, .inl hce)), (si2, .inl (cy 0, 40, .inl hsi)), (sp2, .inl (cy 0, 40, .inl hsp))] := hD
  obtain ⟨xf4, hP, hD⟩ : ∃ xf4, va_P G classes [(st, .inr (7, [.ref oc, .ref ki, .ref ce, .ref si, .ref sp, .int th])), (oc, .inl (cy 0, 192, .inl xf1)), (ki, .inl (cy 0, 40, .inl xf2)), (ce, .inl (cy 0, 40, .inl xf3)), (si, .inl (cy 0, 40, .inl xf4)), (sp, .inl (cy 0, 40, .inl fsp)), (st2, .inr (7, [.ref oc2, .ref ki2, .ref ce2, .ref si2, .ref sp2, .int uh])), (oc2, .inl (cy 0, 192, .inl hoc)), (ki2, .inl (cy 0, 40, .inl hki)), (ce2, .inl (cy 0, 40, .inl hce)), (si2, .inl (cy 0, 40, .inl hsi)), (sp2, .inl (cy 0, 40, .inl hsp))] H ∧ va_D A [(st, .inr (7, [.ref oc, .ref ki, .ref ce, .ref si, .ref sp, .int th])), (oc, .inl (cy 0, 192, .inl xf1)), (ki, .inl (cy 0, 40, .inl xf2)), (ce, .inl (cy 0, 40, .inl xf3)), (si, .inl (cy 0, 40, .inl xf4)), (sp, .inl (cy 0, 40, .inl fsp)), (st2, .inr (7, [.ref oc2, .ref ki2, .ref ce2, .ref si2, .ref sp2, .int uh])), (oc2, .inl (cy 0, 192, .inl hoc)), (ki2, .inl (cy 0, 40, .inl hki)), (ce2, .inl (cy 0, 40, .inl hce)), (si2, .inl (cy 0, 40, .inl hsi)), (sp2, .inl (cy 0, 40, .inl hsp))] := ⟨_, hP, hD⟩
  refine lv_aload_n hx hb dX7_takeFrom_61 rfl (lv_at hl 1 rfl) ?_
  refine va_get (D := G) (ci := 7) (v := .ref sp2) (C := RX7) (T := TX7) (N := 6) hx hb hts inB7 hown hE.1 hP 6 rfl rfl 4 (by decide) (hts _ m_130) (fun _ h9 => h9) rfl dX7_takeFrom_62 ?_
  refine lv_iconst (v := 0) hx hb dX7_takeFrom_65 (by decide) ?_
  refine lv_aload_n hx hb dX7_takeFrom_66 rfl (lv_at hl 0 rfl) ?_
  refine va_get (D := G) (ci := 7) (v := .ref sp) (C := RX7) (T := TX7) (N := 6) hx hb hts inB7 hown hE.1 hP 0 rfl rfl 4 (by decide) (hts _ m_130) (fun _ h9 => h9) rfl dX7_takeFrom_67 ?_
  refine lv_iconst (v := 0) hx hb dX7_takeFrom_70 (by decide) ?_
  refine lv_bipush (v := 40) hx hb dX7_takeFrom_71 (by decide) ?_
  refine va_copyi (ty := .int) hx hb (hml.trans hl.1.symm) hown (hts _ m_1262) (hts _ m_830) (hts _ m_829) (hts _ m_98) hE.1 hP hD hS 11 5 0 0 rfl rfl rfl rfl rfl (by decide) (by decide) (by decide) (by decide) (by decide) (fun _ _ => rfl) (Nat.le_of_ble_eq_true rfl) (Nat.le_of_ble_eq_true rfl) dX7_takeFrom_73 (fun H locs hP hD hS => ?_)
  have hP : va_P G classes [(st, .inr (7, [.ref oc, .ref ki, .ref ce, .ref si, .ref sp, .int th])), (oc, .inl (cy 0, 192, .inl xf1)), (ki, .inl (cy 0, 40, .inl xf2)), (ce, .inl (cy 0, 40, .inl xf3)), (si, .inl (cy 0, 40, .inl xf4)), (sp, .inl (cy 0, 40, .inl (va_cpy hsp fsp 0 0 40))), (st2, .inr (7, [.ref oc2, .ref ki2, .ref ce2, .ref si2, .ref sp2, .int uh])), (oc2, .inl (cy 0, 192, .inl hoc)), (ki2, .inl (cy 0, 40, .inl hki)), (ce2, .inl (cy 0, 40, .inl hce)), (si2, .inl (cy 0, 40, .inl hsi)), (sp2, .inl (cy 0, 40, .inl hsp))] H := hP
  have hD : va_D A [(st, .inr (7, [.ref oc, .ref ki, .ref ce, .ref si, .ref sp, .int th])), (oc, .inl (cy 0, 192, .inl xf1)), (ki, .inl (cy 0, 40, .inl xf2)), (ce, .inl (cy 0, 40, .inl xf3)), (si, .inl (cy 0, 40, .inl xf4)), (sp, .inl (cy 0, 40, .inl (va_cpy hsp fsp 0 0 40))), (st2, .inr (7, [.ref oc2, .ref ki2, .ref ce2, .ref si2, .ref sp2, .int uh])), (oc2, .inl (cy 0, 192, .inl hoc)), (ki2, .inl (cy 0, 40, .inl hki)), (ce2, .inl (cy 0, 40, .inl hce)), (si2, .inl (cy 0, 40, .inl hsi)), (sp2, .inl (cy 0, 40, .inl hsp))] := hD
  obtain ⟨xf5, hP, hD⟩ : ∃ xf5, va_P G classes [(st, .inr (7, [.ref oc, .ref ki, .ref ce, .ref si, .ref sp, .int th])), (oc, .inl (cy 0, 192, .inl xf1)), (ki, .inl (cy 0, 40, .inl xf2)), (ce, .inl (cy 0, 40, .inl xf3)), (si, .inl (cy 0, 40, .inl xf4)), (sp, .inl (cy 0, 40, .inl xf5)), (st2, .inr (7, [.ref oc2, .ref ki2, .ref ce2, .ref si2, .ref sp2, .int uh])), (oc2, .inl (cy 0, 192, .inl hoc)), (ki2, .inl (cy 0, 40, .inl hki)), (ce2, .inl (cy 0, 40, .inl hce)), (si2, .inl (cy 0, 40, .inl hsi)), (sp2, .inl (cy 0, 40, .inl hsp))] H ∧ va_D A [(st, .inr (7, [.ref oc, .ref ki, .ref ce, .ref si, .ref sp, .int th])), (oc, .inl (cy 0, 192, .inl xf1)), (ki, .inl (cy 0, 40, .inl xf2)), (ce, .inl (cy 0, 40, .inl xf3)), (si, .inl (cy 0, 40, .inl xf4)), (sp, .inl (cy 0, 40, .inl xf5)), (st2, .inr (7, [.ref oc2, .ref ki2, .ref ce2, .ref si2, .ref sp2, .int uh])), (oc2, .inl (cy 0, 192, .inl hoc)), (ki2, .inl (cy 0, 40, .inl hki)), (ce2, .inl (cy 0, 40, .inl hce)), (si2, .inl (cy 0, 40, .inl hsi)), (sp2, .inl (cy 0, 40, .inl hsp))] := ⟨_, hP, hD⟩
  refine lv_aload_n hx hb dX7_takeFrom_76 rfl (lv_at hl 0 rfl) ?_
  refine lv_aload_n hx hb dX7_takeFrom_77 rfl (lv_at hl 1 rfl) ?_
  refine va_get (D := G) (ci := 7) (v := .int uh) (C := RX7) (T := TX7) (N := 6) hx hb hts inB7 hown hE.1 hP 6 rfl rfl 5 (by decide) (hts _ m_132) (fun _ h9 => h9) rfl dX7_takeFrom_78 ?_
  refine va_put (D := G) (ci := 7) (v := .int uh) (ty := .int) (C := RX7) (T := TX7) (N := 6) hx hb hts inB7 tyX7 tyX7_ok nmX7 hown hE.1 hP hD hS 0 rfl rfl 5 (by decide) (hts _ m_132) (fun _ h9 => h9) rfl (by decide +kernel) rfl rfl (Nat.le_of_ble_eq_true rfl) dX7_takeFrom_81 (fun H locs hP hD hS => ?_)
  have hP : va_P G classes [(st, .inr (7, [.ref oc, .ref ki, .ref ce, .ref si, .ref sp, .int uh])), (oc, .inl (cy 0, 192, .inl xf1)), (ki, .inl (cy 0, 40, .inl xf2)), (ce, .inl (cy 0, 40, .inl xf3)), (si, .inl (cy 0, 40, .inl xf4)), (sp, .inl (cy 0, 40, .inl xf5)), (st2, .inr (7, [.ref oc2, .ref ki2, .ref ce2, .ref si2, .ref sp2, .int uh])), (oc2, .inl (cy 0, 192, .inl hoc)), (ki2, .inl (cy 0, 40, .inl hki)), (ce2, .inl (cy 0, 40, .inl hce)), (si2, .inl (cy 0, 40, .inl hsi)), (sp2, .inl (cy 0, 40, .inl hsp))] H := hP
  have hD : va_D A [(st, .inr (7, [.ref oc, .ref ki, .ref ce, .ref si, .ref sp, .int uh])), (oc, .inl (cy 0, 192, .inl xf1)), (ki, .inl (cy 0, 40, .inl xf2)), (ce, .inl (cy 0, 40, .inl xf3)), (si, .inl (cy 0, 40, .inl xf4)), (sp, .inl (cy 0, 40, .inl xf5)), (st2, .inr (7, [.ref oc2, .ref ki2, .ref ce2, .ref si2, .ref sp2, .int uh])), (oc2, .inl (cy 0, 192, .inl hoc)), (ki2, .inl (cy 0, 40, .inl hki)), (ce2, .inl (cy 0, 40, .inl hce)), (si2, .inl (cy 0, 40, .inl hsi)), (sp2, .inl (cy 0, 40, .inl hsp))] := hD
  have hP9 := P_cut (wc := [(st, .inr (7, [.ref oc, .ref ki, .ref ce, .ref si, .ref sp, .int uh])), (oc, .inl (cy 0, 192, .inl xf1)), (ki, .inl (cy 0, 40, .inl xf2)), (ce, .inl (cy 0, 40, .inl xf3)), (si, .inl (cy 0, 40, .inl xf4)), (sp, .inl (cy 0, 40, .inl xf5)), (st2, .inr (7, [.ref oc2, .ref ki2, .ref ce2, .ref si2, .ref sp2, .int uh])), (oc2, .inl (cy 0, 192, .inl hoc)), (ki2, .inl (cy 0, 40, .inl hki)), (ce2, .inl (cy 0, 40, .inl hce)), (si2, .inl (cy 0, 40, .inl hsi)), (sp2, .inl (cy 0, 40, .inl hsp))]) hP [0, 1, 2, 3, 4, 5, 6, 7, 8, 9, 10, 11] rfl
  have hD9 := hD.sub (ws' := [(st, .inr (7, [.ref oc, .ref ki, .ref ce, .ref si, .ref sp, .int uh])), (oc, .inl (cy 0, 192, .inl xf1)), (ki, .inl (cy 0, 40, .inl xf2)), (ce, .inl (cy 0, 40, .inl xf3)), (si, .inl (cy 0, 40, .inl xf4)), (sp, .inl (cy 0, 40, .inl xf5)), (st2, .inr (7, [.ref oc2, .ref ki2, .ref ce2, .ref si2, .ref sp2, .int uh])), (oc2, .inl (cy 0, 192, .inl hoc)), (ki2, .inl (cy 0, 40, .inl hki)), (ce2, .inl (cy 0, 40, .inl hce)), (si2, .inl (cy 0, 40, .inl hsi)), (sp2, .inl (cy 0, 40, .inl hsp))]) [0, 1, 2, 3, 4, 5, 6, 7, 8, 9, 10, 11] (by decide) rfl
  refine W.widen (k := 0) (n := 0) (by first | exact Nat.le_of_ble_eq_true rfl | omega) (by first | exact Nat.le_of_ble_eq_true rfl | omega) ?_
  exact W.vret hx hb hr (fun t ht hW => ⟨⟨(), rfl, trivial, by dsimp only; rw [ht]; exact ⟨uh, xf1, xf2, xf3, xf4, xf5, hP9, hD9⟩⟩, hS.F ht⟩) hS.2.2 dX7_takeFrom_84
theorem vi_c_X9_reach_0 (wki : Int32) (c_1 : ¬ wki < 0) (c_2 : ¬ 8 ≤ wki) : vp_in wki 8 := by first | exact vin_len (by assumption) (by assumption) (by omega) | exact vin_len2 (by assumption) (by assumption) (by omega) | exact vin_len3 (by assumption) (by assumption) (by omega) | (rw [vp_in_iff]; simp only [inR, hasT, Int32.le_iff_toInt_le, Int32.lt_iff_toInt_lt] at *; simp at *; omega)
set_option maxHeartbeats 4000000 in
set_option maxRecDepth 100000 in
theorem c_X9_reach (l : Launch) (G : va_G) (cy : Nat → ClassId) (sk sa : Nat → Nat) (sz : Nat) (wk : Nat) (ye : Nat) (no : Nat) (wki : Int32) (wce : Int32) (wsi : Int32) (wpi : Int32) (wlo : Int32) (wev : Int32) (wgo : Int32) (wbu : Int32) (wcl : Int32)  : Met l yX9_reach (wsO yX9_reach cX9_reach 1 (some .int)) ({ frames := 0, cells := 0, slots := 0, locals := 0 }) (va_Pc [.ref wk] (PG G cy sk sa sz [(wk, .inr (9, [.int wki, .int wce, .int wsi, .int wpi, .int wlo, .int wev, .int wgo, .int wbu, .int wcl, .ref ye, .ref no]))])) (vp_Si (fun _ => True)) 0 0 (fun _ => False) := by
  refine mgr (by decide) (Nat.le_of_ble_eq_true rfl) ?_
  intro p e s m below meth c ls A hx hb hr hml hts hown hlocks hin hsz hP hE hD hS hT hl
  subst hsz
  have hl : lv_has ls 1 [(0, .ref wk)] := hl
  refine lv_aload_n hx hb dX9_reach_0 rfl (lv_at hl 0 rfl) ?_
  refine va_get (D := G) (ci := 9) (v := .int wki) (C := RX9) (T := TX9) (N := 11) hx hb hts inB9 hown hE.1 hP 0 rfl rfl 0 (by decide) (hts _ m_258) (fun _ h9 => h9) rfl dX9_reach_1 ?_
  refine lv_if_lt (tgt := 27) hx hb dX9_reach_4 (by decide) (fun c_1 => ?_) (fun c_1 => ?_)
  · refine lv_iconst (v := 0) hx hb dX9_reach_27 (by decide) ?_
    exact W.iret (v := 0) hx hb hr (fun t ht hW => ⟨0, rfl, trivial, ht⟩) (fun _ h => by cases h) dX9_reach_28
  · refine lv_aload_n hx hb dX9_reach_7 rfl (lv_at hl 0 rfl) ?_
    refine va_get (D := G) (ci := 9) (v := .int wki) (C := RX9) (T := TX9) (N := 11) hx hb hts inB9 hown hE.1 hP 0 rfl rfl 0 (by decide) (hts _ m_258) (fun _ h9 => h9) rfl dX9_reach_8 ?_
    refine lv_bipush (v := 8) hx hb dX9_reach_11 (by decide) ?_
    refine lv_icmp_ge (tgt := 27) hx hb dX9_reach_13 (by decide) (fun c_2 => ?_) (fun c_2 => ?_)
    · refine lv_iconst (v := 0) hx hb dX9_reach_27 (by decide) ?_
      exact W.iret (v := 0) hx hb hr (fun t ht hW => ⟨0, rfl, trivial, ht⟩) (fun _ h => by cases h) dX9_reach_28
    · refine va_gets hx hb (hT.1 0 _ rfl).1 hS hown (hts _ m_621) (fun _ h9 => h9) dX9_reach_16 ?_
      refine lv_aload_n hx hb dX9_reach_19 rfl (lv_at hl 0 rfl) ?_
      refine va_get (D := G) (ci := 9) (v := .int wki) (C := RX9) (T := TX9) (N := 11) hx hb hts inB9 hown hE.1 hP 0 rfl rfl 0 (by decide) (hts _ m_258) (fun _ h9 => h9) rfl dX9_reach_20 ?_
      refine va_ti hx hb (hT.1 0 _ rfl).2 hS (vi_c_X9_reach_0 wki c_1 c_2) rfl dX9_reach_23 ?_
      refine lv_topi (fun y3 ey3 => ?_)
      refine lv_goto (tgt := 28) hx hb dX9_reach_24 (by decide) ?_
      exact W.iret (v := y3) hx hb hr (fun t ht hW => ⟨y3, rfl, trivial, ht⟩) (fun _ h => by cases h) dX9_reach_28
theorem vi_c_X9_speed_0 (wki : Int32) (c_1 : ¬ wki < 0) (c_2 : ¬ 8 ≤ wki) : vp_in wki 8 := by first | exact vin_len (by assumption) (by assumption) (by omega) | exact vin_len2 (by assumption) (by assumption) (by omega) | exact vin_len3 (by assumption) (by assumption) (by omega) | (rw [vp_in_iff]; simp only [inR, hasT, Int32.le_iff_toInt_le, Int32.lt_iff_toInt_lt] at *; simp at *; omega)
set_option maxHeartbeats 4000000 in
set_option maxRecDepth 100000 in
theorem c_X9_speed (l : Launch) (G : va_G) (cy : Nat → ClassId) (sk sa : Nat → Nat) (sz : Nat) (wk : Nat) (ye : Nat) (no : Nat) (wki : Int32) (wce : Int32) (wsi : Int32) (wpi : Int32) (wlo : Int32) (wev : Int32) (wgo : Int32) (wbu : Int32) (wcl : Int32)  : Met l yX9_speed (wsO yX9_speed cX9_speed 1 (some .int)) ({ frames := 0, cells := 0, slots := 0, locals := 0 }) (va_Pc [.ref wk] (PG G cy sk sa sz [(wk, .inr (9, [.int wki, .int wce, .int wsi, .int wpi, .int wlo, .int wev, .int wgo, .int wbu, .int wcl, .ref ye, .ref no]))])) (vp_Si (fun _ => True)) 0 0 (fun _ => False) := by
  refine mgr (by decide) (Nat.le_of_ble_eq_true rfl) ?_
  intro p e s m below meth c ls A hx hb hr hml hts hown hlocks hin hsz hP hE hD hS hT hl
  subst hsz
  have hl : lv_has ls 1 [(0, .ref wk)] := hl
  refine lv_aload_n hx hb dX9_speed_0 rfl (lv_at hl 0 rfl) ?_
  refine va_get (D := G) (ci := 9) (v := .int wki) (C := RX9) (T := TX9) (N := 11) hx hb hts inB9 hown hE.1 hP 0 rfl rfl 0 (by decide) (hts _ m_258) (fun _ h9 => h9) rfl dX9_speed_1 ?_
  refine lv_if_lt (tgt := 27) hx hb dX9_speed_4 (by decide) (fun c_1 => ?_) (fun c_1 => ?_)
  · refine lv_iconst (v := 0) hx hb dX9_speed_27 (by decide) ?_
    exact W.iret (v := 0) hx hb hr (fun t ht hW => ⟨0, rfl, trivial, ht⟩) (fun _ h => by cases h) dX9_speed_28
  · refine lv_aload_n hx hb dX9_speed_7 rfl (lv_at hl 0 rfl) ?_
    refine va_get (D := G) (ci := 9) (v := .int wki) (C := RX9) (T := TX9) (N := 11) hx hb hts inB9 hown hE.1 hP 0 rfl rfl 0 (by decide) (hts _ m_258) (fun _ h9 => h9) rfl dX9_speed_8 ?_
    refine lv_bipush (v := 8) hx hb dX9_speed_11 (by decide) ?_
    refine lv_icmp_ge (tgt := 27) hx hb dX9_speed_13 (by decide) (fun c_2 => ?_) (fun c_2 => ?_)
    · refine lv_iconst (v := 0) hx hb dX9_speed_27 (by decide) ?_
      exact W.iret (v := 0) hx hb hr (fun t ht hW => ⟨0, rfl, trivial, ht⟩) (fun _ h => by cases h) dX9_speed_28
    · refine va_gets hx hb (hT.1 1 _ rfl).1 hS hown (hts _ m_627) (fun _ h9 => h9) dX9_speed_16 ?_
      refine lv_aload_n hx hb dX9_speed_19 rfl (lv_at hl 0 rfl) ?_
      refine va_get (D := G) (ci := 9) (v := .int wki) (C := RX9) (T := TX9) (N := 11) hx hb hts inB9 hown hE.1 hP 0 rfl rfl 0 (by decide) (hts _ m_258) (fun _ h9 => h9) rfl dX9_speed_20 ?_
      refine va_ti hx hb (hT.1 1 _ rfl).2 hS (vi_c_X9_speed_0 wki c_1 c_2) rfl dX9_speed_23 ?_
      refine lv_topi (fun y3 ey3 => ?_)
      refine lv_goto (tgt := 28) hx hb dX9_speed_24 (by decide) ?_
      exact W.iret (v := y3) hx hb hr (fun t ht hW => ⟨y3, rfl, trivial, ht⟩) (fun _ h => by cases h) dX9_speed_28
theorem vi_c_X9_ears_0 (wki : Int32) (c_1 : ¬ wki < 0) (c_2 : ¬ 8 ≤ wki) : vp_in wki 8 := by first | exact vin_len (by assumption) (by assumption) (by omega) | exact vin_len2 (by assumption) (by assumption) (by omega) | exact vin_len3 (by assumption) (by assumption) (by omega) | (rw [vp_in_iff]; simp only [inR, hasT, Int32.le_iff_toInt_le, Int32.lt_iff_toInt_lt] at *; simp at *; omega)
set_option maxHeartbeats 4000000 in
set_option maxRecDepth 100000 in
theorem c_X9_ears (l : Launch) (G : va_G) (cy : Nat → ClassId) (sk sa : Nat → Nat) (sz : Nat) (wk : Nat) (ye : Nat) (no : Nat) (wki : Int32) (wce : Int32) (wsi : Int32) (wpi : Int32) (wlo : Int32) (wev : Int32) (wgo : Int32) (wbu : Int32) (wcl : Int32)  : Met l yX9_ears (wsO yX9_ears cX9_ears 1 (some .int)) ({ frames := 0, cells := 0, slots := 0, locals := 0 }) (va_Pc [.ref wk] (PG G cy sk sa sz [(wk, .inr (9, [.int wki, .int wce, .int wsi, .int wpi, .int wlo, .int wev, .int wgo, .int wbu, .int wcl, .ref ye, .ref no]))])) (vp_Si (fun _ => True)) 0 0 (fun _ => False) := by
  refine mgr (by decide) (Nat.le_of_ble_eq_true rfl) ?_
  intro p e s m below meth c ls A hx hb hr hml hts hown hlocks hin hsz hP hE hD hS hT hl
  subst hsz
  have hl : lv_has ls 1 [(0, .ref wk)] := hl
  refine lv_aload_n hx hb dX9_ears_0 rfl (lv_at hl 0 rfl) ?_
  refine va_get (D := G) (ci := 9) (v := .int wki) (C := RX9) (T := TX9) (N := 11) hx hb hts inB9 hown hE.1 hP 0 rfl rfl 0 (by decide) (hts _ m_258) (fun _ h9 => h9) rfl dX9_ears_1 ?_
  refine lv_if_lt (tgt := 27) hx hb dX9_ears_4 (by decide) (fun c_1 => ?_) (fun c_1 => ?_)
  · refine lv_iconst (v := 0) hx hb dX9_ears_27 (by decide) ?_
    exact W.iret (v := 0) hx hb hr (fun t ht hW => ⟨0, rfl, trivial, ht⟩) (fun _ h => by cases h) dX9_ears_28
  · refine lv_aload_n hx hb dX9_ears_7 rfl (lv_at hl 0 rfl) ?_
    refine va_get (D := G) (ci := 9) (v := .int wki) (C := RX9) (T := TX9) (N := 11) hx hb hts inB9 hown hE.1 hP 0 rfl rfl 0 (by decide) (hts _ m_258) (fun _ h9 => h9) rfl dX9_ears_8 ?_
    refine lv_bipush (v := 8) hx hb dX9_ears_11 (by decide) ?_
    refine lv_icmp_ge (tgt := 27) hx hb dX9_ears_13 (by decide) (fun c_2 => ?_) (fun c_2 => ?_)
    · refine lv_iconst (v := 0) hx hb dX9_ears_27 (by decide) ?_
      exact W.iret (v := 0) hx hb hr (fun t ht hW => ⟨0, rfl, trivial, ht⟩) (fun _ h => by cases h) dX9_ears_28
    · refine va_gets hx hb (hT.1 2 _ rfl).1 hS hown (hts _ m_633) (fun _ h9 => h9) dX9_ears_16 ?_
      refine lv_aload_n hx hb dX9_ears_19 rfl (lv_at hl 0 rfl) ?_
      refine va_get (D := G) (ci := 9) (v := .int wki) (C := RX9) (T := TX9) (N := 11) hx hb hts inB9 hown hE.1 hP 0 rfl rfl 0 (by decide) (hts _ m_258) (fun _ h9 => h9) rfl dX9_ears_20 ?_
      refine va_ti hx hb (hT.1 2 _ rfl).2 hS (vi_c_X9_ears_0 wki c_1 c_2) rfl dX9_ears_23 ?_
      refine lv_topi (fun y3 ey3 => ?_)
      refine lv_goto (tgt := 28) hx hb dX9_ears_24 (by decide) ?_
      exact W.iret (v := y3) hx hb hr (fun t ht hW => ⟨y3, rfl, trivial, ht⟩) (fun _ h => by cases h) dX9_ears_28
set_option maxHeartbeats 4000000 in
set_option maxRecDepth 100000 in
theorem c_X9_ownClick (l : Launch) (G : va_G) (cy : Nat → ClassId) (sk sa : Nat → Nat) (sz : Nat) (wk : Nat) (ye : Nat) (no : Nat) (wki : Int32) (wce : Int32) (wsi : Int32) (wpi : Int32) (wlo : Int32) (wev : Int32) (wgo : Int32) (wbu : Int32) (wcl : Int32)  : Met l yX9_ownClick (wsO yX9_ownClick cX9_ownClick 1 (some .int)) ({ frames := 0, cells := 0, slots := 0, locals := 0 }) (va_Pc [.ref wk] (PG G cy sk sa sz [(wk, .inr (9, [.int wki, .int wce, .int wsi, .int wpi, .int wlo, .int wev, .int wgo, .int wbu, .int wcl, .ref ye, .ref no]))])) (vp_Si (fun _ => True)) 0 0 (fun _ => False) := by
  refine mgr (by decide) (Nat.le_of_ble_eq_true rfl) ?_
  intro p e s m below meth c ls A hx hb hr hml hts hown hlocks hin hsz hP hE hD hS hT hl
  subst hsz
  have hl : lv_has ls 1 [(0, .ref wk)] := hl
  refine lv_bipush (v := 100) hx hb dX9_ownClick_0 (by decide) ?_
  refine lv_aload_n hx hb dX9_ownClick_2 rfl (lv_at hl 0 rfl) ?_
  refine va_get (D := G) (ci := 9) (v := .int wpi) (C := RX9) (T := TX9) (N := 11) hx hb hts inB9 hown hE.1 hP 0 rfl rfl 3 (by decide) (hts _ m_267) (fun _ h9 => h9) rfl dX9_ownClick_3 ?_
  refine lv_imul hx hb dX9_ownClick_6 ?_
  refine lv_aload_n hx hb dX9_ownClick_7 rfl (lv_at hl 0 rfl) ?_
  refine va_get (D := G) (ci := 9) (v := .int wlo) (C := RX9) (T := TX9) (N := 11) hx hb hts inB9 hown hE.1 hP 0 rfl rfl 4 (by decide) (hts _ m_270) (fun _ h9 => h9) rfl dX9_ownClick_8 ?_
  refine lv_iadd hx hb dX9_ownClick_11 ?_
  exact W.iret (v := ((100 * wpi) + wlo)) hx hb hr (fun t ht hW => ⟨((100 * wpi) + wlo), rfl, trivial, ht⟩) (fun _ h => by cases h) dX9_ownClick_12
set_option maxHeartbeats 4000000 in
set_option maxRecDepth 100000 in
theorem c_X9_held (l : Launch) (G : va_G) (cy : Nat → ClassId) (sk sa : Nat → Nat) (sz : Nat) (wk : Nat) (ye : Nat) (no : Nat) (wki : Int32) (wce : Int32) (wsi : Int32) (wpi : Int32) (wlo : Int32) (wev : Int32) (wgo : Int32) (wbu : Int32) (wcl : Int32) (fy : Nat → Int32) (fn : Nat → Int32) (v : Int32)  : Met l yX9_held (wsO yX9_held cX9_held 2 (some .int)) ({ frames := 1, cells := 0, slots := 0, locals := 20 }) (va_Pc [.ref wk, .int v] (PG G cy sk sa sz [(wk, .inr (9, [.int wki, .int wce, .int wsi, .int wpi, .int wlo, .int wev, .int wgo, .int wbu, .int wcl, .ref ye, .ref no])), (ye, .inl (cy 0, 192, .inl fy)), (no, .inl (cy 0, 192, .inl fn))])) (vp_Si (fun _ => True)) 0 0 (fun _ => False) := by
  refine mgr (by decide) (Nat.le_of_ble_eq_true rfl) ?_
  intro p e s m below meth c ls A hx hb hr hml hts hown hlocks hin hsz hP hE hD hS hT hl
  subst hsz
  have hl : lv_has ls 2 [(0, .ref wk), (1, .int v)] := hl
  refine lv_iload_n hx hb dX9_held_0 rfl (lv_at hl 1 rfl) ?_
  refine grS (rest := []) hx hb hml hown hts hE (c_X7_isCell l G cy sk sa s.heap.size v) kS_X7_isCell m_919 rfl rfl ⟨(Nat.le_of_ble_eq_true rfl), (Nat.le_of_ble_eq_true rfl)⟩ hP hD hS hT [] rfl rfl rfl rfl hl.1 (Nat.le_of_ble_eq_true rfl) dX9_held_1 ⟨Nat.zero_le _, Nat.zero_le _⟩ (fun r_1 hr_ => ?_)
  rcases hr_ with ⟨rfl, h_2⟩ | ⟨rfl, h_2⟩
  · refine lv_if_eq (tgt := 22) hx hb dX9_held_4 (by decide) (fun h9 => absurd h9 (by decide)) (fun _ => ?_)
    refine lv_aload_n hx hb dX9_held_7 rfl (lv_at hl 0 rfl) ?_
    refine va_get (D := G) (ci := 9) (v := .ref ye) (C := RX9) (T := TX9) (N := 11) hx hb hts inB9 hown hE.1 hP 0 rfl rfl 9 (by decide) (hts _ m_282) (fun _ h9 => h9) rfl dX9_held_8 ?_
    refine lv_iload_n hx hb dX9_held_11 rfl (lv_at hl 1 rfl) ?_
    refine va_iald hx hb hE.1 hP 1 0 rfl rfl (vinB h_2 (by decide) (by decide)) dX9_held_12 ?_
    refine lv_topi (fun y3 ey3 => ?_)
    refine lv_aload_n hx hb dX9_held_13 rfl (lv_at hl 0 rfl) ?_
    refine va_get (D := G) (ci := 9) (v := .ref no) (C := RX9) (T := TX9) (N := 11) hx hb hts inB9 hown hE.1 hP 0 rfl rfl 10 (by decide) (hts _ m_284) (fun _ h9 => h9) rfl dX9_held_14 ?_
    refine lv_iload_n hx hb dX9_held_17 rfl (lv_at hl 1 rfl) ?_
    refine va_iald hx hb hE.1 hP 2 0 rfl rfl (vinB h_2 (by decide) (by decide)) dX9_held_18 ?_
    refine lv_topi (fun y4 ey4 => ?_)
    refine lv_icmp_ne (tgt := 24) hx hb dX9_held_19 (by decide) (fun c_5 => ?_) (fun c_5 => ?_)
    · refine lv_aload_n hx hb dX9_held_24 rfl (lv_at hl 0 rfl) ?_
      refine va_get (D := G) (ci := 9) (v := .ref ye) (C := RX9) (T := TX9) (N := 11) hx hb hts inB9 hown hE.1 hP 0 rfl rfl 9 (by decide) (hts _ m_282) (fun _ h9 => h9) rfl dX9_held_25 ?_
      refine lv_iload_n hx hb dX9_held_28 rfl (lv_at hl 1 rfl) ?_
      refine va_iald hx hb hE.1 hP 1 0 rfl rfl (vinB h_2 (by decide) (by decide)) dX9_held_29 ?_
      refine lv_topi (fun y6 ey6 => ?_)
      refine lv_aload_n hx hb dX9_held_30 rfl (lv_at hl 0 rfl) ?_
      refine va_get (D := G) (ci := 9) (v := .ref no) (C := RX9) (T := TX9) (N := 11) hx hb hts inB9 hown hE.1 hP 0 rfl rfl 10 (by decide) (hts _ m_284) (fun _ h9 => h9) rfl dX9_held_31 ?_
      refine lv_iload_n hx hb dX9_held_34 rfl (lv_at hl 1 rfl) ?_
      refine va_iald hx hb hE.1 hP 2 0 rfl rfl (vinB h_2 (by decide) (by decide)) dX9_held_35 ?_
      refine lv_topi (fun y7 ey7 => ?_)
      refine lv_icmp_le (tgt := 43) hx hb dX9_held_36 (by decide) (fun c_8 => ?_) (fun c_8 => ?_)
      · refine lv_iconst (v := 1) hx hb dX9_held_43 (by decide) ?_
        exact W.iret (v := 1) hx hb hr (fun t ht hW => ⟨1, rfl, trivial, ht⟩) (fun _ h => by cases h) dX9_held_44
      · refine lv_iconst (v := 2) hx hb dX9_held_39 (by decide) ?_
        refine lv_goto (tgt := 44) hx hb dX9_held_40 (by decide) ?_
        exact W.iret (v := 2) hx hb hr (fun t ht hW => ⟨2, rfl, trivial, ht⟩) (fun _ h => by cases h) dX9_held_44
    · refine lv_iconst (v := 0) hx hb dX9_held_22 (by decide) ?_
      exact W.iret (v := 0) hx hb hr (fun t ht hW => ⟨0, rfl, trivial, ht⟩) (fun _ h => by cases h) dX9_held_23
  · refine lv_if_eq (tgt := 22) hx hb dX9_held_4 (by decide) (fun _ => ?_) (fun h9 => absurd h9 (by decide))
    refine lv_iconst (v := 0) hx hb dX9_held_22 (by decide) ?_
    exact W.iret (v := 0) hx hb hr (fun t ht hW => ⟨0, rfl, trivial, ht⟩) (fun _ h => by cases h) dX9_held_23
theorem lf_c_X9_canLearn_0 (v : Int32) (y3 : Int32) (y4 : Int32) (h_2 : inR v 0 191) (c_5 : ¬ y3 = y4) : ((0 : Int32) = 1 ∧ inR v 0 191) ∨ (0 : Int32) = 0 := by first | exact Or.inr rfl | exact Or.inl ⟨rfl, by assumption⟩
theorem lf_c_X9_canLearn_1 (v : Int32) (y3 : Int32) (y4 : Int32) (y6 : Int32) (h_2 : inR v 0 191) (c_5 : y3 = y4) (c_7 : 99 ≤ y6) : ((0 : Int32) = 1 ∧ inR v 0 191) ∨ (0 : Int32) = 0 := by first | exact Or.inr rfl | exact Or.inl ⟨rfl, by assumption⟩
theorem lf_c_X9_canLearn_2 (v : Int32) (y3 : Int32) (y4 : Int32) (y6 : Int32) (h_2 : inR v 0 191) (c_5 : y3 = y4) (c_7 : ¬ 99 ≤ y6) : ((1 : Int32) = 1 ∧ inR v 0 191) ∨ (1 : Int32) = 0 := by first | exact Or.inr rfl | exact Or.inl ⟨rfl, by assumption⟩
theorem lf_c_X9_canLearn_3 (v : Int32) (h_2 : ¬ inR v 0 191) : ((0 : Int32) = 1 ∧ inR v 0 191) ∨ (0 : Int32) = 0 := by first | exact Or.inr rfl | exact Or.inl ⟨rfl, by assumption⟩
set_option maxHeartbeats 4000000 in
set_option maxRecDepth 100000 in
theorem c_X9_canLearn (l : Launch) (G : va_G) (cy : Nat → ClassId) (sk sa : Nat → Nat) (sz : Nat) (wk : Nat) (ye : Nat) (no : Nat) (wki : Int32) (wce : Int32) (wsi : Int32) (wpi : Int32) (wlo : Int32) (wev : Int32) (wgo : Int32) (wbu : Int32) (wcl : Int32) (fy : Nat → Int32) (fn : Nat → Int32) (v : Int32)  : Met l yX9_canLearn (wsO yX9_canLearn cX9_canLearn 2 (some .boolean)) ({ frames := 1, cells := 0, slots := 0, locals := 20 }) (va_Pc [.ref wk, .int v] (PG G cy sk sa sz [(wk, .inr (9, [.int wki, .int wce, .int wsi, .int wpi, .int wlo, .int wev, .int wgo, .int wbu, .int wcl, .ref ye, .ref no])), (ye, .inl (cy 0, 192, .inl fy)), (no, .inl (cy 0, 192, .inl fn))])) (vp_Si (fun r => (r = 1 ∧ inR v 0 191) ∨ r = 0)) 0 0 (fun _ => False) := by
  refine mgr (by decide) (Nat.le_of_ble_eq_true rfl) ?_
  intro p e s m below meth c ls A hx hb hr hml hts hown hlocks hin hsz hP hE hD hS hT hl
  subst hsz
  have hl : lv_has ls 2 [(0, .ref wk), (1, .int v)] := hl
  refine lv_iload_n hx hb dX9_canLearn_0 rfl (lv_at hl 1 rfl) ?_
  refine grS (rest := []) hx hb hml hown hts hE (c_X7_isCell l G cy sk sa s.heap.size v) kS_X7_isCell m_919 rfl rfl ⟨(Nat.le_of_ble_eq_true rfl), (Nat.le_of_ble_eq_true rfl)⟩ hP hD hS hT [] rfl rfl rfl rfl hl.1 (Nat.le_of_ble_eq_true rfl) dX9_canLearn_1 ⟨Nat.zero_le _, Nat.zero_le _⟩ (fun r_1 hr_ => ?_)
  rcases hr_ with ⟨rfl, h_2⟩ | ⟨rfl, h_2⟩
  · refine lv_if_eq (tgt := 37) hx hb dX9_canLearn_4 (by decide) (fun h9 => absurd h9 (by decide)) (fun _ => ?_)
    refine lv_aload_n hx hb dX9_canLearn_7 rfl (lv_at hl 0 rfl) ?_
    refine va_get (D := G) (ci := 9) (v := .ref ye) (C := RX9) (T := TX9) (N := 11) hx hb hts inB9 hown hE.1 hP 0 rfl rfl 9 (by decide) (hts _ m_282) (fun _ h9 => h9) rfl dX9_canLearn_8 ?_
    refine lv_iload_n hx hb dX9_canLearn_11 rfl (lv_at hl 1 rfl) ?_
    refine va_iald hx hb hE.1 hP 1 0 rfl rfl (vinB h_2 (by decide) (by decide)) dX9_canLearn_12 ?_
    refine lv_topi (fun y3 ey3 => ?_)
    refine lv_aload_n hx hb dX9_canLearn_13 rfl (lv_at hl 0 rfl) ?_
    refine va_get (D := G) (ci := 9) (v := .ref no) (C := RX9) (T := TX9) (N := 11) hx hb hts inB9 hown hE.1 hP 0 rfl rfl 10 (by decide) (hts _ m_284) (fun _ h9 => h9) rfl dX9_canLearn_14 ?_
    refine lv_iload_n hx hb dX9_canLearn_17 rfl (lv_at hl 1 rfl) ?_
    refine va_iald hx hb hE.1 hP 2 0 rfl rfl (vinB h_2 (by decide) (by decide)) dX9_canLearn_18 ?_
    refine lv_topi (fun y4 ey4 => ?_)
    refine lv_icmp_ne (tgt := 37) hx hb dX9_canLearn_19 (by decide) (fun c_5 => ?_) (fun c_5 => ?_)
    · refine lv_iconst (v := 0) hx hb dX9_canLearn_37 (by decide) ?_
      exact W.zret (v := 0) hx hb hr rfl (fun t ht hW => ⟨0, rfl, (lf_c_X9_canLearn_0 v y3 y4 h_2 c_5), ht⟩) (fun _ h => by cases h) dX9_canLearn_38
    · refine lv_aload_n hx hb dX9_canLearn_22 rfl (lv_at hl 0 rfl) ?_
      refine va_get (D := G) (ci := 9) (v := .ref ye) (C := RX9) (T := TX9) (N := 11) hx hb hts inB9 hown hE.1 hP 0 rfl rfl 9 (by decide) (hts _ m_282) (fun _ h9 => h9) rfl dX9_canLearn_23 ?_
      refine lv_iload_n hx hb dX9_canLearn_26 rfl (lv_at hl 1 rfl) ?_
      refine va_iald hx hb hE.1 hP 1 0 rfl rfl (vinB h_2 (by decide) (by decide)) dX9_canLearn_27 ?_
      refine lv_topi (fun y6 ey6 => ?_)
      refine lv_bipush (v := 99) hx hb dX9_canLearn_28 (by decide) ?_
      refine lv_icmp_ge (tgt := 37) hx hb dX9_canLearn_30 (by decide) (fun c_7 => ?_) (fun c_7 => ?_)
      · refine lv_iconst (v := 0) hx hb dX9_canLearn_37 (by decide) ?_
        exact W.zret (v := 0) hx hb hr rfl (fun t ht hW => ⟨0, rfl, (lf_c_X9_canLearn_1 v y3 y4 y6 h_2 c_5 c_7), ht⟩) (fun _ h => by cases h) dX9_canLearn_38
      · refine lv_iconst (v := 1) hx hb dX9_canLearn_33 (by decide) ?_
        refine lv_goto (tgt := 38) hx hb dX9_canLearn_34 (by decide) ?_
        exact W.zret (v := 1) hx hb hr rfl (fun t ht hW => ⟨1, rfl, (lf_c_X9_canLearn_2 v y3 y4 y6 h_2 c_5 c_7), ht⟩) (fun _ h => by cases h) dX9_canLearn_38
  · refine lv_if_eq (tgt := 37) hx hb dX9_canLearn_4 (by decide) (fun _ => ?_) (fun h9 => absurd h9 (by decide))
    refine lv_iconst (v := 0) hx hb dX9_canLearn_37 (by decide) ?_
    exact W.zret (v := 0) hx hb hr rfl (fun t ht hW => ⟨0, rfl, (lf_c_X9_canLearn_3 v h_2), ht⟩) (fun _ h => by cases h) dX9_canLearn_38
def B_c_X9_turn (G : va_G) (cy : Nat → ClassId) (A : Nat → Prop) (wk : Nat) (ye : Nat) (no : Nat) (wki : Int32) (wce : Int32) (wsi : Int32) (wpi : Int32) (wlo : Int32) (wev : Int32) (wgo : Int32) (wbu : Int32) (wcl : Int32) (v : Int32) (H : Heap) : Prop := ∃ (ws2 : Int32), va_P G classes [(wk, .inr (9, [.int wki, .int wce, .int ws2, .int wpi, .int wlo, .int wev, .int wgo, .int wbu, .int wcl, .ref ye, .ref no]))] H ∧ va_D A [(wk, .inr (9, [.int wki, .int wce, .int ws2, .int wpi, .int wlo, .int wev, .int wgo, .int wbu, .int wcl, .ref ye, .ref no]))]
set_option maxHeartbeats 4000000 in
set_option maxRecDepth 100000 in
theorem c_X9_turn (l : Launch) (G : va_G) (cy : Nat → ClassId) (sk sa : Nat → Nat) (sz : Nat) (wk : Nat) (ye : Nat) (no : Nat) (wki : Int32) (wce : Int32) (wsi : Int32) (wpi : Int32) (wlo : Int32) (wev : Int32) (wgo : Int32) (wbu : Int32) (wcl : Int32) (v : Int32)  : Met l yX9_turn (wsO yX9_turn cX9_turn 2 none) ({ frames := 0, cells := 0, slots := 0, locals := 0 }) (va_Pc [.ref wk, .int v] (PG G cy sk sa sz [(wk, .inr (9, [.int wki, .int wce, .int wsi, .int wpi, .int wlo, .int wev, .int wgo, .int wbu, .int wcl, .ref ye, .ref no]))])) (va_Qv (fun (_ : Unit) => True) (fun _ t => B_c_X9_turn G cy (va_A [(wk, .inr (9, [.int wki, .int wce, .int wsi, .int wpi, .int wlo, .int wev, .int wgo, .int wbu, .int wcl, .ref ye, .ref no]))] sz) wk ye no wki wce wsi wpi wlo wev wgo wbu wcl v t.heap) (va_A [(wk, .inr (9, [.int wki, .int wce, .int wsi, .int wpi, .int wlo, .int wev, .int wgo, .int wbu, .int wcl, .ref ye, .ref no]))] sz)) 0 0 (va_A [(wk, .inr (9, [.int wki, .int wce, .int wsi, .int wpi, .int wlo, .int wev, .int wgo, .int wbu, .int wcl, .ref ye, .ref no]))] sz) := by
  refine mgw (Qc := fun A => (va_Qv (fun (_ : Unit) => True) (fun _ t => B_c_X9_turn G cy A wk ye no wki wce wsi wpi wlo wev wgo wbu wcl v t.heap) A)) (by decide) (Nat.le_of_ble_eq_true rfl) ?_
  intro p e s m below meth c ls A hx hb hr hml hts hown hlocks hin hP hE hD hS hA hT hl
  have hl : lv_has ls 2 [(0, .ref wk), (1, .int v)] := hl
  refine lv_aload_n hx hb dX9_turn_0 rfl (lv_at hl 0 rfl) ?_
  refine lv_aload_n hx hb dX9_turn_1 rfl (lv_at hl 0 rfl) ?_
  refine va_get (D := G) (ci := 9) (v := .int wsi) (C := RX9) (T := TX9) (N := 11) hx hb hts inB9 hown hE.1 hP 0 rfl rfl 2 (by decide) (hts _ m_264) (fun _ h9 => h9) rfl dX9_turn_2 ?_
  refine lv_iload_n hx hb dX9_turn_5 rfl (lv_at hl 1 rfl) ?_
  refine lv_iadd hx hb dX9_turn_6 ?_
  refine lv_bipush (v := 7) hx hb dX9_turn_7 (by decide) ?_
  refine lv_iand hx hb dX9_turn_9 ?_
  refine va_put (D := G) (ci := 9) (v := .int ((wsi + v) &&& 7)) (ty := .int) (C := RX9) (T := TX9) (N := 11) hx hb hts inB9 tyX9 tyX9_ok nmX9 hown hE.1 hP hD hS 0 rfl rfl 2 (by decide) (hts _ m_264) (fun _ h9 => h9) rfl (by decide +kernel) rfl rfl (Nat.le_of_ble_eq_true rfl) dX9_turn_10 (fun H locs hP hD hS => ?_)
  have hP : va_P G classes [(wk, .inr (9, [.int wki, .int wce, .int ((wsi + v) &&& 7), .int wpi, .int wlo, .int wev, .int wgo, .int wbu, .int wcl, .ref ye, .ref no]))] H := hP
  have hD : va_D A [(wk, .inr (9, [.int wki, .int wce, .int ((wsi + v) &&& 7), .int wpi, .int wlo, .int wev, .int wgo, .int wbu, .int wcl, .ref ye, .ref no]))] := hD
  have hP9 := P_cut (wc := [(wk, .inr (9, [.int wki, .int wce, .int ((wsi + v) &&& 7), .int wpi, .int wlo, .int wev, .int wgo, .int wbu, .int wcl, .ref ye, .ref no]))]) hP [0] rfl
  have hD9 := hD.sub (ws' := [(wk, .inr (9, [.int wki, .int wce, .int ((wsi + v) &&& 7), .int wpi, .int wlo, .int wev, .int wgo, .int wbu, .int wcl, .ref ye, .ref no]))]) [0] (by decide) rfl
  refine W.widen (k := 0) (n := 0) (by first | exact Nat.le_of_ble_eq_true rfl | omega) (by first | exact Nat.le_of_ble_eq_true rfl | omega) ?_
  exact W.vret hx hb hr (fun t ht hW => ⟨⟨(), rfl, trivial, by dsimp only; rw [ht]; exact ⟨((wsi + v) &&& 7), hP9, hD9⟩⟩, hS.F ht⟩) hS.2.2 dX9_turn_13
