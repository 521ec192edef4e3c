def B_c_X9_begin (G : va_G) (cy : Nat → ClassId) (A : Nat → Prop) (wk : Nat) (ye : Nat) (no : Nat) (wki : Int32) (wce : Int32) (wsi : Int32) (wpi : Int32) (wlo : Int32) (wev : Int32) (wgo : Int32) (wbu : Int32) (wcl : Int32) (fy : Nat → Int32) (fn : Nat → Int32) (a1 : Int32) (a2 : Int32) (a3 : Int32) (H : Heap) : Prop := ∃ (gy : Nat → Int32) (gn : Nat → Int32), va_P G classes [(wk, .inr (9, [.int a1, .int a2, .int a3, .int 5, .int 60, .int 0, .int 0, .int 0, .int 0, .ref ye, .ref no])), (ye, .inl (cy 0, 192, .inl gy)), (no, .inl (cy 0, 192, .inl gn))] H ∧ va_D A [(wk, .inr (9, [.int a1, .int a2, .int a3, .int 5, .int 60, .int 0, .int 0, .int 0, .int 0, .ref ye, .ref no])), (ye, .inl (cy 0, 192, .inl gy)), (no, .inl (cy 0, 192, .inl gn))]
theorem vi_c_X9_begin_0 (i : Nat) (hi : i ≤ 192) (hlt : i < 192) : vp_in (nI i) 192 := by exact vp_in_nI (by omega) (by decide)
theorem vi_c_X9_begin_1 (i : Nat) (hi : i ≤ 192) (hlt : i < 192) : vp_in (nI i) 192 := by exact vp_in_nI (by omega) (by decide)
set_option maxHeartbeats 4000000 in
set_option maxRecDepth 100000 in
theorem c_X9_begin (l : Launch) (G : va_G) (cy : Nat → ClassId) (sk sa : Nat → Nat) (sz : Nat) (wk : Nat) (ye : Nat) (no : Nat) (wki : Int32) (wce : Int32) (wsi : Int32) (wpi : Int32) (wlo : Int32) (wev : Int32) (wgo : Int32) (wbu : Int32) (wcl : Int32) (fy : Nat → Int32) (fn : Nat → Int32) (a1 : Int32) (a2 : Int32) (a3 : Int32)  : Met l yX9_begin (wsO yX9_begin cX9_begin 5 none) ({ frames := 0, cells := 0, slots := 0, locals := 0 }) (va_Pc [.ref wk, .int a1, .int a2, .int a3] (PG G cy sk sa sz [(wk, .inr (9, [.int wki, .int wce, .int wsi, .int wpi, .int wlo, .int wev, .int wgo, .int wbu, .int wcl, .ref ye, .ref no])), (ye, .inl (cy 0, 192, .inl fy)), (no, .inl (cy 0, 192, .inl fn))])) (va_Qv (fun (_ : Unit) => True) (fun _ t => B_c_X9_begin G cy (va_A [(wk, .inr (9, [.int wki, .int wce, .int wsi, .int wpi, .int wlo, .int wev, .int wgo, .int wbu, .int wcl, .ref ye, .ref no])), (ye, .inl (cy 0, 192, .inl fy)), (no, .inl (cy 0, 192, .inl fn))] sz) wk ye no wki wce wsi wpi wlo wev wgo wbu wcl fy fn a1 a2 a3 t.heap) (va_A [(wk, .inr (9, [.int wki, .int wce, .int wsi, .int wpi, .int wlo, .int wev, .int wgo, .int wbu, .int wcl, .ref ye, .ref no])), (ye, .inl (cy 0, 192, .inl fy)), (no, .inl (cy 0, 192, .inl fn))] sz)) 0 0 (va_A [(wk, .inr (9, [.int wki, .int wce, .int wsi, .int wpi, .int wlo, .int wev, .int wgo, .int wbu, .int wcl, .ref ye, .ref no])), (ye, .inl (cy 0, 192, .inl fy)), (no, .inl (cy 0, 192, .inl fn))] sz) := by
  refine mgw (Qc := fun A => (va_Qv (fun (_ : Unit) => True) (fun _ t => B_c_X9_begin G cy A wk ye no wki wce wsi wpi wlo wev wgo wbu wcl fy fn a1 a2 a3 t.heap) A)) (by decide) (Nat.le_of_ble_eq_true rfl) ?_
  intro p e s m below meth c ls A hx hb hr hml hts hown hlocks hin hP hE hD hS hA hT hl
  have hl : lv_has ls 5 [(0, .ref wk), (1, .int a1), (2, .int a2), (3, .int a3)] := hl
  refine lv_aload_n hx hb dX9_begin_0 rfl (lv_at hl 0 rfl) ?_
  refine lv_iload_n hx hb dX9_begin_1 rfl (lv_at hl 1 rfl) ?_
  refine va_put (D := G) (ci := 9) (v := .int a1) (ty := .int) (C := RX9) (T := TX9) (N := 11) hx hb hts inB9 tyX9 tyX9_ok nmX9 hown hE.1 hP hD hS 0 rfl rfl 0 (by decide) (hts _ m_258) (fun _ h9 => h9) rfl (by decide +kernel) rfl rfl (Nat.le_of_ble_eq_true rfl) dX9_begin_2 (fun H locs hP hD hS => ?_)
  have hP : va_P G classes [(wk, .inr (9, [.int a1, .int wce, .int wsi, .int wpi, .int wlo, .int wev, .int wgo, .int wbu, .int wcl, .ref ye, .ref no])), (ye, .inl (cy 0, 192, .inl fy)), (no, .inl (cy 0, 192, .inl fn))] H := hP
  have hD : va_D A [(wk, .inr (9, [.int a1, .int wce, .int wsi, .int wpi, .int wlo, .int wev, .int wgo, .int wbu, .int wcl, .ref ye, .ref no])), (ye, .inl (cy 0, 192, .inl fy)), (no, .inl (cy 0, 192, .inl fn))] := hD
  refine lv_aload_n hx hb dX9_begin_5 rfl (lv_at hl 0 rfl) ?_
  refine lv_iload_n hx hb dX9_begin_6 rfl (lv_at hl 2 rfl) ?_
  refine va_put (D := G) (ci := 9) (v := .int a2) (ty := .int) (C := RX9) (T := TX9) (N := 11) hx hb hts inB9 tyX9 tyX9_ok nmX9 hown hE.1 hP hD hS 0 rfl rfl 1 (by decide) (hts _ m_260) (fun _ h9 => h9) rfl (by decide +kernel) rfl rfl (Nat.le_of_ble_eq_true rfl) dX9_begin_7 (fun H locs hP hD hS => ?_)
  have hP : va_P G classes [(wk, .inr (9, [.int a1, .int a2, .int wsi, .int wpi, .int wlo, .int wev, .int wgo, .int wbu, .int wcl, .ref ye, .ref no])), (ye, .inl (cy 0, 192, .inl fy)), (no, .inl (cy 0, 192, .inl fn))] H := hP
  have hD : va_D A [(wk, .inr (9, [.int a1, .int a2, .int wsi, .int wpi, .int wlo, .int wev, .int wgo, .int wbu, .int wcl, .ref ye, .ref no])), (ye, .inl (cy 0, 192, .inl fy)), (no, .inl (cy 0, 192, .inl fn))] := hD
  refine lv_aload_n hx hb dX9_begin_10 rfl (lv_at hl 0 rfl) ?_
  refine lv_iload_n hx hb dX9_begin_11 rfl (lv_at hl 3 rfl) ?_
  refine va_put (D := G) (ci := 9) (v := .int a3) (ty := .int) (C := RX9) (T := TX9) (N := 11) hx hb hts inB9 tyX9 tyX9_ok nmX9 hown hE.1 hP hD hS 0 rfl rfl 2 (by decide) (hts _ m_264) (fun _ h9 => h9) rfl (by decide +kernel) rfl rfl (Nat.le_of_ble_eq_true rfl) dX9_begin_12 (fun H locs hP hD hS => ?_)
  have hP : va_P G classes [(wk, .inr (9, [.int a1, .int a2, .int a3, .int wpi, .int wlo, .int wev, .int wgo, .int wbu, .int wcl, .ref ye, .ref no])), (ye, .inl (cy 0, 192, .inl fy)), (no, .inl (cy 0, 192, .inl fn))] H := hP
  have hD : va_D A [(wk, .inr (9, [.int a1, .int a2, .int a3, .int wpi, .int wlo, .int wev, .int wgo, .int wbu, .int wcl, .ref ye, .ref no])), (ye, .inl (cy 0, 192, .inl fy)), (no, .inl (cy 0, 192, .inl fn))] := hD
  refine lv_aload_n hx hb dX9_begin_15 rfl (lv_at hl 0 rfl) ?_
  refine lv_iconst (v := 5) hx hb dX9_begin_16 (by decide) ?_
  refine va_put (D := G) (ci := 9) (v := .int 5) (ty := .int) (C := RX9) (T := TX9) (N := 11) hx hb hts inB9 tyX9 tyX9_ok nmX9 hown hE.1 hP hD hS 0 rfl rfl 3 (by decide) (hts _ m_267) (fun _ h9 => h9) rfl (by decide +kernel) rfl rfl (Nat.le_of_ble_eq_true rfl) dX9_begin_17 (fun H locs hP hD hS => ?_)
  have hP : va_P G classes [(wk, .inr (9, [.int a1, .int a2, .int a3, .int 5, .int wlo, .int wev, .int wgo, .int wbu, .int wcl, .ref ye, .ref no])), (ye, .inl (cy 0, 192, .inl fy)), (no, .inl (cy 0, 192, .inl fn))] H := hP
  have hD : va_D A [(wk, .inr (9, [.int a1, .int a2, .int a3, .int 5, .int wlo, .int wev, .int wgo, .int wbu, .int wcl, .ref ye, .ref no])), (ye, .inl (cy 0, 192, .inl fy)), (no, .inl (cy 0, 192, .inl fn))] := hD
  refine lv_aload_n hx hb dX9_begin_20 rfl (lv_at hl 0 rfl) ?_
  refine lv_bipush (v := 60) hx hb dX9_begin_21 (by decide) ?_
  refine va_put (D := G) (ci := 9) (v := .int 60) (ty := .int) (C := RX9) (T := TX9) (N := 11) hx hb hts inB9 tyX9 tyX9_ok nmX9 hown hE.1 hP hD hS 0 rfl rfl 4 (by decide) (hts _ m_270) (fun _ h9 => h9) rfl (by decide +kernel) rfl rfl (Nat.le_of_ble_eq_true rfl) dX9_begin_23 (fun H locs hP hD hS => ?_)
  have hP : va_P G classes [(wk, .inr (9, [.int a1, .int a2, .int a3, .int 5, .int 60, .int wev, .int wgo, .int wbu, .int wcl, .ref ye, .ref no])), (ye, .inl (cy 0, 192, .inl fy)), (no, .inl (cy 0, 192, .inl fn))] H := hP
  have hD : va_D A [(wk, .inr (9, [.int a1, .int a2, .int a3, .int 5, .int 60, .int wev, .int wgo, .int wbu, .int wcl, .ref ye, .ref no])), (ye, .inl (cy 0, 192, .inl fy)), (no, .inl (cy 0, 192, .inl fn))] := hD
  refine lv_aload_n hx hb dX9_begin_26 rfl (lv_at hl 0 rfl) ?_
  refine lv_iconst (v := 0) hx hb dX9_begin_27 (by decide) ?_
  refine va_put (D := G) (ci := 9) (v := .int 0) (ty := .int) (C := RX9) (T := TX9) (N := 11) hx hb hts inB9 tyX9 tyX9_ok nmX9 hown hE.1 hP hD hS 0 rfl rfl 5 (by decide) (hts _ m_272) (fun _ h9 => h9) rfl (by decide +kernel) rfl rfl (Nat.le_of_ble_eq_true rfl) dX9_begin_28 (fun H locs hP hD hS => ?_)
  have hP : va_P G classes [(wk, .inr (9, [.int a1, .int a2, .int a3, .int 5, .int 60, .int 0, .int wgo, .int wbu, .int wcl, .ref ye, .ref no])), (ye, .inl (cy 0, 192, .inl fy)), (no, .inl (cy 0, 192, .inl fn))] H := hP
  have hD : va_D A [(wk, .inr (9, [.int a1, .int a2, .int a3, .int 5, .int 60, .int 0, .int wgo, .int wbu, .int wcl, .ref ye, .ref no])), (ye, .inl (cy 0, 192, .inl fy)), (no, .inl (cy 0, 192, .inl fn))] := hD
  refine lv_aload_n hx hb dX9_begin_31 rfl (lv_at hl 0 rfl) ?_
  refine lv_iconst (v := 0) hx hb dX9_begin_32 (by decide) ?_
  refine va_put (D := G) (ci := 9) (v := .int 0) (ty := .boolean) (C := RX9) (T := TX9) (N := 11) hx hb hts inB9 tyX9 tyX9_ok nmX9 hown hE.1 hP hD hS 0 rfl rfl 6 (by decide) (hts _ m_275) (fun _ h9 => h9) rfl (by decide +kernel) rfl rfl (Nat.le_of_ble_eq_true rfl) dX9_begin_33 (fun H locs hP hD hS => ?_)
  have hP : va_P G classes [(wk, .inr (9, [.int a1, .int a2, .int a3, .int 5, .int 60, .int 0, .int 0, .int wbu, .int wcl, .ref ye, .ref no])), (ye, .inl (cy 0, 192, .inl fy)), (no, .inl (cy 0, 192, .inl fn))] H := hP
  have hD : va_D A [(wk, .inr (9, [.int a1, .int a2, .int a3, .int 5, .int 60, .int 0, .int 0, .int wbu, .int wcl, .ref ye, .ref no])), (ye, .inl (cy 0, 192, .inl fy)), (no, .inl (cy 0, 192, .inl fn))] := hD
  refine lv_aload_n hx hb dX9_begin_36 rfl (lv_at hl 0 rfl) ?_
  refine lv_iconst (v := 0) hx hb dX9_begin_37 (by decide) ?_
  refine va_put (D := G) (ci := 9) (v := .int 0) (ty := .int) (C := RX9) (T := TX9) (N := 11) hx hb hts inB9 tyX9 tyX9_ok nmX9 hown hE.1 hP hD hS 0 rfl rfl 7 (by decide) (hts _ m_278) (fun _ h9 => h9) rfl (by decide +kernel) rfl rfl (Nat.le_of_ble_eq_true rfl) dX9_begin_38 (fun H locs hP hD hS => ?_)
  have hP : va_P G classes [(wk, .inr (9, [.int a1, .int a2, .int a3, .int 5, .int 60, .int 0, .int 0, .int 0, .int wcl, .ref ye, .ref no])), (ye, .inl (cy 0, 192, .inl fy)), (no, .inl (cy 0, 192, .inl fn))] H := hP
  have hD : va_D A [(wk, .inr (9, [.int a1, .int a2, .int a3, .int 5, .int 60, .int 0, .int 0, .int 0, .int wcl, .ref ye, .ref no])), (ye, .inl (cy 0, 192, .inl fy)), (no, .inl (cy 0, 192, .inl fn))] := hD
  refine lv_aload_n hx hb dX9_begin_41 rfl (lv_at hl 0 rfl) ?_
  refine lv_iconst (v := 0) hx hb dX9_begin_42 (by decide) ?_
  refine va_put (D := G) (ci := 9) (v := .int 0) (ty := .int) (C := RX9) (T := TX9) (N := 11) hx hb hts inB9 tyX9 tyX9_ok nmX9 hown hE.1 hP hD hS 0 rfl rfl 8 (by decide) (hts _ m_280) (fun _ h9 => h9) rfl (by decide +kernel) rfl rfl (Nat.le_of_ble_eq_true rfl) dX9_begin_43 (fun H locs hP hD hS => ?_)
  have hP : va_P G classes [(wk, .inr (9, [.int a1, .int a2, .int a3, .int 5, .int 60, .int 0, .int 0, .int 0, .int 0, .ref ye, .ref no])), (ye, .inl (cy 0, 192, .inl fy)), (no, .inl (cy 0, 192, .inl fn))] H := hP
  have hD : va_D A [(wk, .inr (9, [.int a1, .int a2, .int a3, .int 5, .int 60, .int 0, .int 0, .int 0, .int 0, .ref ye, .ref no])), (ye, .inl (cy 0, 192, .inl fy)), (no, .inl (cy 0, 192, .inl fn))] := hD
  refine lv_iconst (v := 0) hx hb dX9_begin_46 (by decide) ?_
  refine lv_istore (lv' := [(4, .int 0), (0, .ref wk), (1, .int a1), (2, .int a2), (3, .int a3)]) hx hb dX9_begin_47 hl (by decide) rfl (fun ls hl => ?_)
  have lp1 : ∀ (nn i : Nat), i ≤ 192 → 192 + 1 ≤ i + nn → ∀ (ly : Nat → Int32), ∀ (ln : Nat → Int32), ∀ (H : Heap) (locs : List Loc), va_P G classes [(wk, .inr (9, [.int a1, .int a2, .int a3, .int 5, .int 60, .int 0, .int 0, .int 0, .int 0, .ref ye, .ref no])), (ye, .inl (cy 0, 192, .inl ly)), (no, .inl (cy 0, 192, .inl ln))] H → va_D A [(wk, .inr (9, [.int a1, .int a2, .int a3, .int 5, .int 60, .int 0, .int 0, .int 0, .int 0, .ref ye, .ref no])), (ye, .inl (cy 0, 192, .inl ly)), (no, .inl (cy 0, 192, .inl ln))] → va_S A s.heap H locs → ∀ (ls : Array Slot), lv_has ls 5 [(4, .int (nI i)), (0, .ref wk), (1, .int a1), (2, .int a2), (3, .int a3)] → W p l e (headSpec (wsO yX9_begin cX9_begin 5 none) ({ frames := 0, cells := 0, slots := 0, locals := 0 })).room s m [.ref wk, .int a1, .int a2, .int a3].toArray below meth c H locs 0 0 (MQ below (va_Qv (fun (_ : Unit) => True) (fun _ t => B_c_X9_begin G cy A wk ye no wki wce wsi wpi wlo wev wgo wbu wcl fy fn a1 a2 a3 t.heap) A) [.ref wk, .int a1, .int a2, .int a3].toArray s 0 0 A) (F0 m 49 ls []) := by
    intro nn
    induction nn with
    | zero => intro i h1 h2; exact absurd h2 (by omega)
    | succ nn ih =>
      intro i hi hin0 ly ln H locs hP hD hS ls hl
      rcases Nat.lt_or_ge i 192 with hlt | hge
      · refine lv_iload hx hb dX9_begin_49 (lv_at hl 0 rfl) ?_
        refine lv_sipush (v := 192) hx hb dX9_begin_51 (by decide) ?_
        refine lv_icmp_ge (tgt := 79) hx hb dX9_begin_54 (by decide) (fun h9 => absurd h9 (nI_ge hlt (by decide))) (fun _ => ?_)
        refine lv_aload_n hx hb dX9_begin_57 rfl (lv_at hl 1 rfl) ?_
        refine va_get (D := G) (ci := 9) (v := .ref ye) (C := RX9) (T := TX9) (N := 11) hx hb hts inB9 hown hE.1 hP 0 rfl rfl 9 (by decide) (hts _ m_282) (fun _ h9 => h9) rfl dX9_begin_58 ?_
        refine lv_iload hx hb dX9_begin_61 (lv_at hl 0 rfl) ?_
        refine lv_iconst (v := 0) hx hb dX9_begin_63 (by decide) ?_
        refine va_iast hx hb hE.1 hP hD hS 1 0 rfl rfl (vi_c_X9_begin_0 i hi hlt) dX9_begin_64 (fun H locs hP hD hS => ?_)
        have hP : va_P G classes [(wk, .inr (9, [.int a1, .int a2, .int a3, .int 5, .int 60, .int 0, .int 0, .int 0, .int 0, .ref ye, .ref no])), (ye, .inl (cy 0, 192, .inl (upd ly ((nI i)).toNatClampNeg 0))), (no, .inl (cy 0, 192, .inl ln))] H := hP
        have hD : va_D A [(wk, .inr (9, [.int a1, .int a2, .int a3, .int 5, .int 60, .int 0, .int 0, .int 0, .int 0, .ref ye, .ref no])), (ye, .inl (cy 0, 192, .inl (upd ly ((nI i)).toNatClampNeg 0))), (no, .inl (cy 0, 192, .inl ln))] := hD
        refine lv_aload_n hx hb dX9_begin_65 rfl (lv_at hl 1 rfl) ?_
        refine va_get (D := G) (ci := 9) (v := .ref no) (C := RX9) (T := TX9) (N := 11) hx hb hts inB9 hown hE.1 hP 0 rfl rfl 10 (by decide) (hts _ m_284) (fun _ h9 => h9) rfl dX9_begin_66 ?_
        refine lv_iload hx hb dX9_begin_69 (lv_at hl 0 rfl) ?_
        refine lv_iconst (v := 0) hx hb dX9_begin_71 (by decide) ?_
        refine va_iast hx hb hE.1 hP hD hS 2 0 rfl rfl (vi_c_X9_begin_1 i hi hlt) dX9_begin_72 (fun H locs hP hD hS => ?_)
        have hP : va_P G classes [(wk, .inr (9, [.int a1, .int a2, .int a3, .int 5, .int 60, .int 0, .int 0, .int 0, .int 0, .ref ye, .ref no])), (ye, .inl (cy 0, 192, .inl (upd ly ((nI i)).toNatClampNeg 0))), (no, .inl (cy 0, 192, .inl (upd ln ((nI i)).toNatClampNeg 0)))] H := hP
        have hD : va_D A [(wk, .inr (9, [.int a1, .int a2, .int a3, .int 5, .int 60, .int 0, .int 0, .int 0, .int 0, .ref ye, .ref no])), (ye, .inl (cy 0, 192, .inl (upd ly ((nI i)).toNatClampNeg 0))), (no, .inl (cy 0, 192, .inl (upd ln ((nI i)).toNatClampNeg 0)))] := hD
        refine lv_iinc (v := (nI (i + 1))) (lv' := [(4, .int (nI (i + 1))), (0, .ref wk), (1, .int a1), (2, .int a2), (3, .int a3)]) hx hb dX9_begin_73 hl (k := 0) rfl (nI_1 (i)) (by decide) rfl (fun ls hl => ?_)
        refine lv_goto (tgt := 49) hx hb dX9_begin_76 (by decide) ?_
        exact ih (i + 1) hlt (by omega) (upd ly ((nI i)).toNatClampNeg 0) (upd ln ((nI i)).toNatClampNeg 0) _ _ hP hD hS ls (lv_sub hl [0, 1, 2, 3, 4] rfl)
      · have hie : i = 192 := Nat.le_antisymm hi hge
        subst hie
        refine lv_iload hx hb dX9_begin_49 (lv_at hl 0 rfl) ?_
        refine lv_sipush (v := 192) hx hb dX9_begin_51 (by decide) ?_
        refine lv_icmp_ge (tgt := 79) hx hb dX9_begin_54 (by decide) (fun _ => ?_) (fun h9 => absurd (Int32.le_refl _) h9)
        have hP9 := P_cut (wc := [(wk, .inr (9, [.int a1, .int a2, .int a3, .int 5, .int 60, .int 0, .int 0, .int 0, .int 0, .ref ye, .ref no])), (ye, .inl (cy 0, 192, .inl ly)), (no, .inl (cy 0, 192, .inl ln))]) hP [0, 1, 2] rfl
        have hD9 := hD.sub (ws' := [(wk, .inr (9, [.int a1, .int a2, .int a3, .int 5, .int 60, .int 0, .int 0, .int 0, .int 0, .ref ye, .ref no])), (ye, .inl (cy 0, 192, .inl ly)), (no, .inl (cy 0, 192, .inl ln))]) [0, 1, 2] (by decide) rfl
        refine W.widen (k := 0) (n := 0) (by first | exact Nat.le_of_ble_eq_true rfl | omega) (by first | exact Nat.le_of_ble_eq_true rfl | omega) ?_
        exact W.vret hx hb hr (fun t ht hW => ⟨⟨(), rfl, trivial, by dsimp only; rw [ht]; exact ⟨ly, ln, hP9, hD9⟩⟩, hS.F ht⟩) hS.2.2 dX9_begin_79
  exact lp1 (192 + 1) 0 (Nat.zero_le _) (by omega) fy fn _ _ hP hD hS ls (lv_sub hl [0, 1, 2, 3, 4] rfl)
def B_c_X9_takeFrom (G : va_G) (cy : Nat → ClassId) (A : Nat → Prop) (wk : Nat) (ye : Nat) (no : Nat) (wki : Int32) (wce : Int32) (wsi : Int32) (wpi : Int32) (wlo : Int32) (wev : Int32) (wgo : Int32) (wbu : Int32) (wcl : Int32) (fy : Nat → Int32) (fn : Nat → Int32) (vk : Nat) (ve : Nat) (vn : Nat) (vki : Int32) (vce : Int32) (vsi : Int32) (vpi : Int32) (vlo : Int32) (vev : Int32) (vgo : Int32) (vbu : Int32) (vcl : Int32) (fvy : Nat → Int32) (fvn : Nat → Int32) (H : Heap) : Prop := ∃ (gy : Nat → Int32) (gn : Nat → Int32), va_P G classes [(wk, .inr (9, [.int vki, .int vce, .int vsi, .int vpi, .int vlo, .int vev, .int vgo, .int vbu, .int vcl, .ref ye, .ref no])), (ye, .inl (cy 0, 192, .inl gy)), (no, .inl (cy 0, 192, .inl gn)), (vk, .inr (9, [.int vki, .int vce, .int vsi, .int vpi, .int vlo, .int vev, .int vgo, .int vbu, .int vcl, .ref ve, .ref vn])), (ve, .inl (cy 0, 192, .inl fvy)), (vn, .inl (cy 0, 192, .inl fvn))] H ∧ va_D A [(wk, .inr (9, [.int vki, .int vce, .int vsi, .int vpi, .int vlo, .int vev, .int vgo, .int vbu, .int vcl, .ref ye, .ref no])), (ye, .inl (cy 0, 192, .inl gy)), (no, .inl (cy 0, 192, .inl gn)), (vk, .inr (9, [.int vki, .int vce, .int vsi, .int vpi, .int vlo, .int vev, .int vgo, .int vbu, .int vcl, .ref ve, .ref vn])), (ve, .inl (cy 0, 192, .inl fvy)), (vn, .inl (cy 0, 192, .inl fvn))]
set_option maxHeartbeats 4000000 in
set_option maxRecDepth 100000 in
theorem c_X9_takeFrom (l : Launch) (G : va_G) (cy : Nat → ClassId) (sk sa : Nat → Nat) (sz : Nat) (wk : Nat) (ye : Nat) (no : Nat) (wki : Int32) (wce : Int32) (wsi : Int32) (wpi : Int32) (wlo : Int32) (wev : Int32) (wgo : Int32) (wbu : Int32) (wcl : Int32) (fy : Nat → Int32) (fn : Nat → Int32) (vk : Nat) (ve : Nat) (vn : Nat) (vki : Int32) (vce : Int32) (vsi : Int32) (vpi : Int32) (vlo : Int32) (vev : Int32) (vgo : Int32) (vbu : Int32) (vcl : Int32) (fvy : Nat → Int32) (fvn : Nat → Int32) (hgo : isB vgo) : Met l yX9_takeFrom (wsO yX9_takeFrom cX9_takeFrom 2 none) ({ frames := 1, cells := 0, slots := 0, locals := 40 }) (va_Pc [.ref wk, .ref vk] (PG G cy sk sa sz [(wk, .inr (9, [.int wki, .int wce, .int wsi, .int wpi, .int wlo, .int wev, .int wgo, .int wbu, .int wcl, .ref ye, .ref no])), (ye, .inl (cy 0, 192, .inl fy)), (no, .inl (cy 0, 192, .inl fn)), (vk, .inr (9, [.int vki, .int vce, .int vsi, .int vpi, .int vlo, .int vev, .int vgo, .int vbu, .int vcl, .ref ve, .ref vn])), (ve, .inl (cy 0, 192, .inl fvy)), (vn, .inl (cy 0, 192, .inl fvn))])) (va_Qv (fun (_ : Unit) => True) (fun _ t => B_c_X9_takeFrom G cy (va_A [(wk, .inr (9, [.int wki, .int wce, .int wsi, .int wpi, .int wlo, .int wev, .int wgo, .int wbu, .int wcl, .ref ye, .ref no])), (ye, .inl (cy 0, 192, .inl fy)), (no, .inl (cy 0, 192, .inl fn)), (vk, .inr (9, [.int vki, .int vce, .int vsi, .int vpi, .int vlo, .int vev, .int vgo, .int vbu, .int vcl, .ref ve, .ref vn])), (ve, .inl (cy 0, 192, .inl fvy)), (vn, .inl (cy 0, 192, .inl fvn))] sz) wk ye no wki wce wsi wpi wlo wev wgo wbu wcl fy fn vk ve vn vki vce vsi vpi vlo vev vgo vbu vcl fvy fvn t.heap) (va_A [(wk, .inr (9, [.int wki, .int wce, .int wsi, .int wpi, .int wlo, .int wev, .int wgo, .int wbu, .int wcl, .ref ye, .ref no])), (ye, .inl (cy 0, 192, .inl fy)), (no, .inl (cy 0, 192, .inl fn)), (vk, .inr (9, [.int vki, .int vce, .int vsi, .int vpi, .int vlo, .int vev, .int vgo, .int vbu, .int vcl, .ref ve, .ref vn])), (ve, .inl (cy 0, 192, .inl fvy)), (vn, .inl (cy 0, 192, .inl fvn))] sz)) 0 0 (va_A [(wk, .inr (9, [.int wki, .int wce, .int wsi, .int wpi, .int wlo, .int wev, .int wgo, .int wbu, .int wcl, .ref ye, .ref no])), (ye, .inl (cy 0, 192, .inl fy)), (no, .inl (cy 0, 192, .inl fn)), (vk, .inr (9, [.int vki, .int vce, .int vsi, .int vpi, .int vlo, .int vev, .int vgo, .int vbu, .int vcl, .ref ve, .ref vn])), (ve, .inl (cy 0, 192, .inl fvy)), (vn, .inl (cy 0, 192, .inl fvn))] sz) := by
  refine mgw (Qc := fun A => (va_Qv (fun (_ : Unit) => True) (fun _ t => B_c_X9_takeFrom G cy A wk ye no wki wce wsi wpi wlo wev wgo wbu wcl fy fn vk ve vn vki vce vsi vpi vlo vev vgo vbu vcl fvy fvn t.heap) A)) (by decide) (Nat.le_of_ble_eq_true rfl) ?_
  intro p e s m below meth c ls A hx hb hr hml hts hown hlocks hin hP hE hD hS hA hT hl
  have hl : lv_has ls 2 [(0, .ref wk), (1, .ref vk)] := hl
  refine lv_aload_n hx hb dX9_takeFrom_0 rfl (lv_at hl 0 rfl) ?_
  refine lv_aload_n hx hb dX9_takeFrom_1 rfl (lv_at hl 1 rfl) ?_
  refine va_get (D := G) (ci := 9) (v := .int vki) (C := RX9) (T := TX9) (N := 11) hx hb hts inB9 hown hE.1 hP 3 rfl rfl 0 (by decide) (hts _ m_258) (fun _ h9 => h9) rfl dX9_takeFrom_2 ?_
  refine va_put (D := G) (ci := 9) (v := .int vki) (ty := .int) (C := RX9) (T := TX9) (N := 11) hx hb hts inB9 tyX9 tyX9_ok nmX9 hown hE.1 hP hD hS 0 rfl rfl 0 (by decide) (hts _ m_258) (fun _ h9 => h9) rfl (by decide +kernel) rfl rfl (Nat.le_of_ble_eq_true rfl) dX9_takeFrom_5 (fun H locs hP hD hS => ?_)
  have hP : va_P G classes [(wk, .inr (9, [.int vki, .int wce, .int wsi, .int wpi, .int wlo, .int wev, .int wgo, .int wbu, .int wcl, .ref ye, .ref no])), (ye, .inl (cy 0, 192, .inl fy)), (no, .inl (cy 0, 192, .inl fn)), (vk, .inr (9, [.int vki, .int vce, .int vsi, .int vpi, .int vlo, .int vev, .int vgo, .int vbu, .int vcl, .ref ve, .ref vn])), (ve, .inl (cy 0, 192, .inl fvy)), (vn, .inl (cy 0, 192, .inl fvn))] H := hP
  have hD : va_D A [(wk, .inr (9, [.int vki, .int wce, .int wsi, .int wpi, .int wlo, .int wev, .int wgo, .int wbu, .int wcl, .ref ye, .ref no])), (ye, .inl (cy 0, 192, .inl fy)), (no, .inl (cy 0, 192, .inl fn)), (vk, .inr (9, [.int vki, .int vce, .int vsi, .int vpi, .int vlo, .int vev, .int vgo, .int vbu, .int vcl, .ref ve, .ref vn])), (ve, .inl (cy 0, 192, .inl fvy)), (vn, .inl (cy 0, 192, .inl fvn))] := hD
  refine lv_aload_n hx hb dX9_takeFrom_8 rfl (lv_at hl 0 rfl) ?_
  refine lv_aload_n hx hb dX9_takeFrom_9 rfl (lv_at hl 1 rfl) ?_
  refine va_get (D := G) (ci := 9) (v := .int vce) (C := RX9) (T := TX9) (N := 11) hx hb hts inB9 hown hE.1 hP 3 rfl rfl 1 (by decide) (hts _ m_260) (fun _ h9 => h9) rfl dX9_takeFrom_10 ?_
  refine va_put (D := G) (ci := 9) (v := .int vce) (ty := .int) (C := RX9) (T := TX9) (N := 11) hx hb hts inB9 tyX9 tyX9_ok nmX9 hown hE.1 hP hD hS 0 rfl rfl 1 (by decide) (hts _ m_260) (fun _ h9 => h9) rfl (by decide +kernel) rfl rfl (Nat.le_of_ble_eq_true rfl) dX9_takeFrom_13 (fun H locs hP hD hS => ?_)
  have hP : va_P G classes [(wk, .inr (9, [.int vki, .int vce, .int wsi, .int wpi, .int wlo, .int wev, .int wgo, .int wbu, .int wcl, .ref ye, .ref no])), (ye, .inl (cy 0, 192, .inl fy)), (no, .inl (cy 0, 192, .inl fn)), (vk, .inr (9, [.int vki, .int vce, .int vsi, .int vpi, .int vlo, .int vev, .int vgo, .int vbu, .int vcl, .ref ve, .ref vn])), (ve, .inl (cy 0, 192, .inl fvy)), (vn, .inl (cy 0, 192, .inl fvn))] H := hP
  have hD : va_D A [(wk, .inr (9, [.int vki, .int vce, .int wsi, .int wpi, .int wlo, .int wev, .int wgo, .int wbu, .int wcl, .ref ye, .ref no])), (ye, .inl (cy 0, 192, .inl fy)), (no, .inl (cy 0, 192, .inl fn)), (vk, .inr (9, [.int vki, .int vce, .int vsi, .int vpi, .int vlo, .int vev, .int vgo, .int vbu, .int vcl, .ref ve, .ref vn])), (ve, .inl (cy 0, 192, .inl fvy)), (vn, .inl (cy 0, 192, .inl fvn))] := hD
  refine lv_aload_n hx hb dX9_takeFrom_16 rfl (lv_at hl 0 rfl) ?_
  refine lv_aload_n hx hb dX9_takeFrom_17 rfl (lv_at hl 1 rfl) ?_
  refine va_get (D := G) (ci := 9) (v := .int vsi) (C := RX9) (T := TX9) (N := 11) hx hb hts inB9 hown hE.1 hP 3 rfl rfl 2 (by decide) (hts _ m_264) (fun _ h9 => h9) rfl dX9_takeFrom_18 ?_
  refine va_put (D := G) (ci := 9) (v := .int vsi) (ty := .int) (C := RX9) (T := TX9) (N := 11) hx hb hts inB9 tyX9 tyX9_ok nmX9 hown hE.1 hP hD hS 0 rfl rfl 2 (by decide) (hts _ m_264) (fun _ h9 => h9) rfl (by decide +kernel) rfl rfl (Nat.le_of_ble_eq_true rfl) dX9_takeFrom_21 (fun H locs hP hD hS => ?_)
  have hP : va_P G classes [(wk, .inr (9, [.int vki, .int vce, .int vsi, .int wpi, .int wlo, .int wev, .int wgo, .int wbu, .int wcl, .ref ye, .ref no])), (ye, .inl (cy 0, 192, .inl fy)), (no, .inl (cy 0, 192, .inl fn)), (vk, .inr (9, [.int vki, .int vce, .int vsi, .int vpi, .int vlo, .int vev, .int vgo, .int vbu, .int vcl, .ref ve, .ref vn])), (ve, .inl (cy 0, 192, .inl fvy)), (vn, .inl (cy 0, 192, .inl fvn))] H := hP
  have hD : va_D A [(wk, .inr (9, [.int vki, .int vce, .int vsi, .int wpi, .int wlo, .int wev, .int wgo, .int wbu, .int wcl, .ref ye, .ref no])), (ye, .inl (cy 0, 192, .inl fy)), (no, .inl (cy 0, 192, .inl fn)), (vk, .inr (9, [.int vki, .int vce, .int vsi, .int vpi, .int vlo, .int vev, .int vgo, .int vbu, .int vcl, .ref ve, .ref vn])), (ve, .inl (cy 0, 192, .inl fvy)), (vn, .inl (cy 0, 192, .inl fvn))] := hD
  refine lv_aload_n hx hb dX9_takeFrom_24 rfl (lv_at hl 0 rfl) ?_
  refine lv_aload_n hx hb dX9_takeFrom_25 rfl (lv_at hl 1 rfl) ?_
  refine va_get (D := G) (ci := 9) (v := .int vpi) (C := RX9) (T := TX9) (N := 11) hx hb hts inB9 hown hE.1 hP 3 rfl rfl 3 (by decide) (hts _ m_267) (fun _ h9 => h9) rfl dX9_takeFrom_26 ?_
  refine va_put (D := G) (ci := 9) (v := .int vpi) (ty := .int) (C := RX9) (T := TX9) (N := 11) hx hb hts inB9 tyX9 tyX9_ok nmX9 hown hE.1 hP hD hS 0 rfl rfl 3 (by decide) (hts _ m_267) (fun _ h9 => h9) rfl (by decide +kernel) rfl rfl (Nat.le_of_ble_eq_true rfl) dX9_takeFrom_29 (fun H locs hP hD hS => ?_)
  have hP : va_P G classes [(wk, .inr (9, [.int vki, .int vce, .int vsi, .int vpi, .int wlo, .int wev, .int wgo, .int wbu, .int wcl, .ref ye, .ref no])), (ye, .inl (cy 0, 192, .inl fy)), (no, .inl (cy 0, 192, .inl fn)), (vk, .inr (9, [.int vki, .int vce, .int vsi, .int vpi, .int vlo, .int vev, .int vgo, .int vbu, .int vcl, .ref ve, .ref vn])), (ve, .inl (cy 0, 192, .inl fvy)), (vn, .inl (cy 0, 192, .inl fvn))] H := hP
  have hD : va_D A [(wk, .inr (9, [.int vki, .int vce, .int vsi, .int vpi, .int wlo, .int wev, .int wgo, .int wbu, .int wcl, .ref ye, .ref no])), (ye, .inl (cy 0, 192, .inl fy)), (no, .inl (cy 0, 192, .inl fn)), (vk, .inr (9, [.int vki, .int vce, .int vsi, .int vpi, .int vlo, .int vev, .int vgo, .int vbu, .int vcl, .ref ve, .ref vn])), (ve, .inl (cy 0, 192, .inl fvy)), (vn, .inl (cy 0, 192, .inl fvn))] := hD
  refine lv_aload_n hx hb dX9_takeFrom_32 rfl (lv_at hl 0 rfl) ?_
  refine lv_aload_n hx hb dX9_takeFrom_33 rfl (lv_at hl 1 rfl) ?_
  refine va_get (D := G) (ci := 9) (v := .int vlo) (C := RX9) (T := TX9) (N := 11) hx hb hts inB9 hown hE.1 hP 3 rfl rfl 4 (by decide) (hts _ m_270) (fun _ h9 => h9) rfl dX9_takeFrom_34 ?_
  refine va_put (D := G) (ci := 9) (v := .int vlo) (ty := .int) (C := RX9) (T := TX9) (N := 11) hx hb hts inB9 tyX9 tyX9_ok nmX9 hown hE.1 hP hD hS 0 rfl rfl 4 (by decide) (hts _ m_270) (fun _ h9 => h9) rfl (by decide +kernel) rfl rfl (Nat.le_of_ble_eq_true rfl) dX9_takeFrom_37 (fun H locs hP hD hS => ?_)
  have hP : va_P G classes [(wk, .inr (9, [.int vki, .int vce, .int vsi, .int vpi, .int vlo, .int wev, .int wgo, .int wbu, .int wcl, .ref ye, .ref no])), (ye, .inl (cy 0, 192, .inl fy)), (no, .inl (cy 0, 192, .inl fn)), (vk, .inr (9, [.int vki, .int vce, .int vsi, .int vpi, .int vlo, .int vev, .int vgo, .int vbu, .int vcl, .ref ve, .ref vn])), (ve, .inl (cy 0, 192, .inl fvy)), (vn, .inl (cy 0, 192, .inl fvn))] H := hP
  have hD : va_D A [(wk, .inr (9, [.int vki, .int vce, .int vsi, .int vpi, .int vlo, .int wev, .int wgo, .int wbu, .int wcl, .ref ye, .ref no])), (ye, .inl (cy 0, 192, .inl fy)), (no, .inl (cy 0, 192, .inl fn)), (vk, .inr (9, [.int vki, .int vce, .int vsi, .int vpi, .int vlo, .int vev, .int vgo, .int vbu, .int vcl, .ref ve, .ref vn])), (ve, .inl (cy 0, 192, .inl fvy)), (vn, .inl (cy 0, 192, .inl fvn))] := hD
  refine lv_aload_n hx hb dX9_takeFrom_40 rfl (lv_at hl 0 rfl) ?_
  refine lv_aload_n hx hb dX9_takeFrom_41 rfl (lv_at hl 1 rfl) ?_
  refine va_get (D := G) (ci := 9) (v := .int vev) (C := RX9) (T := TX9) (N := 11) hx hb hts inB9 hown hE.1 hP 3 rfl rfl 5 (by decide) (hts _ m_272) (fun _ h9 => h9) rfl dX9_takeFrom_42 ?_
  refine va_put (D := G) (ci := 9) (v := .int vev) (ty := .int) (C := RX9) (T := TX9) (N := 11) hx hb hts inB9 tyX9 tyX9_ok nmX9 hown hE.1 hP hD hS 0 rfl rfl 5 (by decide) (hts _ m_272) (fun _ h9 => h9) rfl (by decide +kernel) rfl rfl (Nat.le_of_ble_eq_true rfl) dX9_takeFrom_45 (fun H locs hP hD hS => ?_)
  have hP : va_P G classes [(wk, .inr (9, [.int vki, .int vce, .int vsi, .int vpi, .int vlo, .int vev, .int wgo, .int wbu, .int wcl, .ref ye, .ref no])), (ye, .inl (cy 0, 192, .inl fy)), (no, .inl (cy 0, 192, .inl fn)), (vk, .inr (9, [.int vki, .int vce, .int vsi, .int vpi, .int vlo, .int vev, .int vgo, .int vbu, .int vcl, .ref ve, .ref vn])), (ve, .inl (cy 0, 192, .inl fvy)), (vn, .inl (cy 0, 192, .inl fvn))] H := hP
  have hD : va_D A [(wk, .inr (9, [.int vki, .int vce, .int vsi, .int vpi, .int vlo, .int vev, .int wgo, .int wbu, .int wcl, .ref ye, .ref no])), (ye, .inl (cy 0, 192, .inl fy)), (no, .inl (cy 0, 192, .inl fn)), (vk, .inr (9, [.int vki, .int vce, .int vsi, .int vpi, .int vlo, .int vev, .int vgo, .int vbu, .int vcl, .ref ve, .ref vn])), (ve, .inl (cy 0, 192, .inl fvy)), (vn, .inl (cy 0, 192, .inl fvn))] := hD
  refine lv_aload_n hx hb dX9_takeFrom_48 rfl (lv_at hl 0 rfl) ?_
  refine lv_aload_n hx hb dX9_takeFrom_49 rfl (lv_at hl 1 rfl) ?_
  refine va_get (D := G) (ci := 9) (v := .int vgo) (C := RX9) (T := TX9) (N := 11) hx hb hts inB9 hown hE.1 hP 3 rfl rfl 6 (by decide) (hts _ m_275) (fun _ h9 => h9) rfl dX9_takeFrom_50 ?_
  refine va_put (D := G) (ci := 9) (v := .int vgo) (ty := .boolean) (C := RX9) (T := TX9) (N := 11) hx hb hts inB9 tyX9 tyX9_ok nmX9 hown hE.1 hP hD hS 0 rfl rfl 6 (by decide) (hts _ m_275) (fun _ h9 => h9) rfl (by decide +kernel) (isB_n hgo) (isB_f hgo) (Nat.le_of_ble_eq_true rfl) dX9_takeFrom_53 (fun H locs hP hD hS => ?_)
  have hP : va_P G classes [(wk, .inr (9, [.int vki, .int vce, .int vsi, .int vpi, .int vlo, .int vev, .int vgo, .int wbu, .int wcl, .ref ye, .ref no])), (ye, .inl (cy 0, 192, .inl fy)), (no, .inl (cy 0, 192, .inl fn)), (vk, .inr (9, [.int vki, .int vce, .int vsi, .int vpi, .int vlo, .int vev, .int vgo, .int vbu, .int vcl, .ref ve, .ref vn])), (ve, .inl (cy 0, 192, .inl fvy)), (vn, .inl (cy 0, 192, .inl fvn))] H := hP
  have hD : va_D A [(wk, .inr (9, [.int vki, .int vce, .int vsi, .int vpi, .int vlo, .int vev, .int vgo, .int wbu, .int wcl, .ref ye, .ref no])), (ye, .inl (cy 0, 192, .inl fy)), (no, .inl (cy 0, 192, .inl fn)), (vk, .inr (9, [.int vki, .int vce, .int vsi, .int vpi, .int vlo, .int vev, .int vgo, .int vbu, .int vcl, .ref ve, .ref vn])), (ve, .inl (cy 0, 192, .inl fvy)), (vn, .inl (cy 0, 192, .inl fvn))] := hD
  refine lv_aload_n hx hb dX9_takeFrom_56 rfl (lv_at hl 0 rfl) ?_
  refine lv_aload_n hx hb dX9_takeFrom_57 rfl (lv_at hl 1 rfl) ?_
  refine va_get (D := G) (ci := 9) (v := .int vbu) (C := RX9) (T := TX9) (N := 11) hx hb hts inB9 hown hE.1 hP 3 rfl rfl 7 (by decide) (hts _ m_278) (fun _ h9 => h9) rfl dX9_takeFrom_58 ?_
  refine va_put (D := G) (ci := 9) (v := .int vbu) (ty := .int) (C := RX9) (T := TX9) (N := 11) hx hb hts inB9 tyX9 tyX9_ok nmX9 hown hE.1 hP hD hS 0 rfl rfl 7 (by decide) (hts _ m_278) (fun _ h9 => h9) rfl (by decide +kernel) rfl rfl (Nat.le_of_ble_eq_true rfl) dX9_takeFrom_61 (fun H locs hP hD hS => ?_)
  have hP : va_P G classes [(wk, .inr (9, [.int vki, .int vce, .int vsi, .int vpi, .int vlo, .int vev, .int vgo, .int vbu, .int wcl, .ref ye, .ref no])), (ye, .inl (cy 0, 192, .inl fy)), (no, .inl (cy 0, 192, .inl fn)), (vk, .inr (9, [.int vki, .int vce, .int vsi, .int vpi, .int vlo, .int vev, .int vgo, .int vbu, .int vcl, .ref ve, .ref vn])), (ve, .inl (cy 0, 192, .inl fvy)), (vn, .inl (cy 0, 192, .inl fvn))] H := hP
  have hD : va_D A [(wk, .inr (9, [.int vki, .int vce, .int vsi, .int vpi, .int vlo, .int vev, .int vgo, .int vbu, .int wcl, .ref ye, .ref no])), (ye, .inl (cy 0, 192, .inl fy)), (no, .inl (cy 0, 192, .inl fn)), (vk, .inr (9, [.int vki, .int vce, .int vsi, .int vpi, .int vlo, .int vev, .int vgo, .int vbu, .int vcl, .ref ve, .ref vn])), (ve, .inl (cy 0, 192, .inl fvy)), (vn, .inl (cy 0, 192, .inl fvn))] := hD
  refine lv_aload_n hx hb dX9_takeFrom_64 rfl (lv_at hl 0 rfl) ?_
  refine lv_aload_n hx hb dX9_takeFrom_65 rfl (lv_at hl 1 rfl) ?_
  refine va_get (D := G) (ci := 9) (v := .int vcl) (C := RX9) (T := TX9) (N := 11) hx hb hts inB9 hown hE.1 hP 3 rfl rfl 8 (by decide) (hts _ m_280) (fun _ h9 => h9) rfl dX9_takeFrom_66 ?_
  refine va_put (D := G) (ci := 9) (v := .int vcl) (ty := .int) (C := RX9) (T := TX9) (N := 11) hx hb hts inB9 tyX9 tyX9_ok nmX9 hown hE.1 hP hD hS 0 rfl rfl 8 (by decide) (hts _ m_280) (fun _ h9 => h9) rfl (by decide +kernel) rfl rfl (Nat.le_of_ble_eq_true rfl) dX9_takeFrom_69 (fun H locs hP hD hS => ?_)
  have hP : va_P G classes [(wk, .inr (9, [.int vki, .int vce, .int vsi, .int vpi, .int vlo, .int vev, .int vgo, .int vbu, .int vcl, .ref ye, .ref no])), (ye, .inl (cy 0, 192, .inl fy)), (no, .inl (cy 0, 192, .inl fn)), (vk, .inr (9, [.int vki, .int vce, .int vsi, .int vpi, .int vlo, .int vev, .int vgo, .int vbu, .int vcl, .ref ve, .ref vn])), (ve, .inl (cy 0, 192, .inl fvy)), (vn, .inl (cy 0, 192, .inl fvn))] H := hP
  have hD : va_D A [(wk, .inr (9, [.int vki, .int vce, .int vsi, .int vpi, .int vlo, .int vev, .int vgo, .int vbu, .int vcl, .ref ye, .ref no])), (ye, .inl (cy 0, 192, .inl fy)), (no, .inl (cy 0, 192, .inl fn)), (vk, .inr (9, [.int vki, .int vce, .int vsi, .int vpi, .int vlo, .int vev, .int vgo, .int vbu, .int vcl, .ref ve, .ref vn])), (ve, .inl (cy 0, 192, .inl fvy)), (vn, .inl (cy 0, 192, .inl fvn))] := hD
  refine lv_aload_n hx hb dX9_takeFrom_72 rfl (lv_at hl 1 rfl) ?_
  refine va_get (D := G) (ci := 9) (v := .ref ve) (C := RX9) (T := TX9) (N := 11) hx hb hts inB9 hown hE.1 hP 3 rfl rfl 9 (by decide) (hts _ m_282) (fun _ h9 => h9) rfl dX9_takeFrom_73 ?_
  refine lv_iconst (v := 0) hx hb dX9_takeFrom_76 (by decide) ?_
  refine lv_aload_n hx hb dX9_takeFrom_77 rfl (lv_at hl 0 rfl) ?_
  refine va_get (D := G) (ci := 9) (v := .ref ye) (C := RX9) (T := TX9) (N := 11) hx hb hts inB9 hown hE.1 hP 0 rfl rfl 9 (by decide) (hts _ m_282) (fun _ h9 => h9) rfl dX9_takeFrom_78 ?_
  refine lv_iconst (v := 0) hx hb dX9_takeFrom_81 (by decide) ?_
  refine lv_sipush (v := 192) hx hb dX9_takeFrom_82 (by decide) ?_
  refine va_copyi (ty := .int) hx hb (hml.trans hl.1.symm) hown (hts _ m_1279) (hts _ m_830) (hts _ m_829) (hts _ m_98) hE.1 hP hD hS 4 1 0 0 rfl rfl rfl rfl rfl (by decide) (by decide) (by decide) (by decide) (by decide) (fun _ _ => rfl) (Nat.le_of_ble_eq_true rfl) (Nat.le_of_ble_eq_true rfl) dX9_takeFrom_85 (fun H locs hP hD hS => ?_)
  have hP : va_P G classes [(wk, .inr (9, [.int vki, .int vce, .int vsi, .int vpi, .int vlo, .int vev, .int vgo, .int vbu, .int vcl, .ref ye, .ref no])), (ye, .inl (cy 0, 192, .inl (va_cpy fvy fy 0 0 192))), (no, .inl (cy 0, 192, .inl fn)), (vk, .inr (9, [.int vki, .int vce, .int vsi, .int vpi, .int vlo, .int vev, .int vgo, .int vbu, .int vcl, .ref ve, .ref vn])), (ve, .inl (cy 0, 192, .inl fvy)), (vn, .inl (cy 0, 192, .inl fvn))] H := hP
  have hD : va_D A [(wk, .inr (9, [.int vki, .int vce, .int vsi, .int vpi, .int vlo, .int vev, .int vgo, .int vbu, .int vcl, .ref ye, .ref no])), (ye, .inl (cy 0, 192, .inl (va_cpy fvy fy 0 0 192))), (no, .inl (cy 0, 192, .inl fn)), (vk, .inr (9, [.int vki, .int vce, .int vsi, .int vpi, .int vlo, .int vev, .int vgo, .int vbu, .int vcl, .ref ve, .ref vn])), (ve, .inl (cy 0, 192, .inl fvy)), (vn, .inl (cy 0, 192, .inl fvn))] := hD
  obtain ⟨xf1, hP, hD⟩ : ∃ xf1, va_P G classes [(wk, .inr (9, [.int vki, .int vce, .int vsi, .int vpi, .int vlo, .int vev, .int vgo, .int vbu, .int vcl, .ref ye, .ref no])), (ye, .inl (cy 0, 192, .inl xf1)), (no, .inl (cy 0, 192, .inl fn)), (vk, .inr (9, [.int vki, .int vce, .int vsi, .int vpi, .int vlo, .int vev, .int vgo, .int vbu, .int vcl, .ref ve, .ref vn])), (ve, .inl (cy 0, 192, .inl fvy)), (vn, .inl (cy 0, 192, .inl fvn))] H ∧ va_D A [(wk, .inr (9, [.int vki, .int vce, .int vsi, .int vpi, .int vlo, .int vev, .int vgo, .int vbu, .int vcl, .ref ye, .ref no])), (ye, .inl (cy 0, 192, .inl xf1)), (no, .inl (cy 0, 192, .inl fn)), (vk, .inr (9, [.int vki, .int vce, .int vsi, .int vpi, .int vlo, .int vev, .int vgo, .int vbu, .int vcl, .ref ve, .ref vn])), (ve, .inl (cy 0, 192, .inl fvy)), (vn, .inl (cy 0, 192, .inl fvn))] := ⟨_, hP, hD⟩
  refine lv_aload_n hx hb dX9_takeFrom_88 rfl (lv_at hl 1 rfl) ?_
  refine va_get (D := G) (ci := 9) (v := .ref vn) (C := RX9) (T := TX9) (N := 11) hx hb hts inB9 hown hE.1 hP 3 rfl rfl 10 (by decide) (hts _ m_284) (fun _ h9 => h9) rfl dX9_takeFrom_89 ?_
  refine lv_iconst (v := 0) hx hb dX9_takeFrom_92 (by decide) ?_
  refine lv_aload_n hx hb dX9_takeFrom_93 rfl (lv_at hl 0 rfl) ?_
  refine va_get (D := G) (ci := 9) (v := .ref no) (C := RX9) (T := TX9) (N := 11) hx hb hts inB9 hown hE.1 hP 0 rfl rfl 10 (by decide) (hts _ m_284) (fun _ h9 => h9) rfl dX9_takeFrom_94 ?_
  refine lv_iconst (v := 0) hx hb dX9_takeFrom_97 (by decide) ?_
  refine lv_sipush (v := 192) hx hb dX9_takeFrom_98 (by decide) ?_
  refine va_copyi (ty := .int) hx hb (hml.trans hl.1.symm) hown (hts _ m_1279) (hts _ m_830) (hts _ m_829) (hts _ m_98) hE.1 hP hD hS 5 2 0 0 rfl rfl rfl rfl rfl (by decide) (by decide) (by decide) (by decide) (by decide) (fun _ _ => rfl) (Nat.le_of_ble_eq_true rfl) (Nat.le_of_ble_eq_true rfl) dX9_takeFrom_101 (fun H locs hP hD hS => ?_)
  have hP : va_P G classes [(wk, .inr (9, [.int vki, .int vce, .int vsi, .int vpi, .int vlo, .int vev, .int vgo, .int vbu, .int vcl, .ref ye, .ref no])), (ye, .inl (cy 0, 192, .inl xf1)), (no, .inl (cy 0, 192, .inl (va_cpy fvn fn 0 0 192))), (vk, .inr (9, [.int vki, .int vce, .int vsi, .int vpi, .int vlo, .int vev, .int vgo, .int vbu, .int vcl, .ref ve, .ref vn])), (ve, .inl (cy 0, 192, .inl fvy)), (vn, .inl (cy 0, 192, .inl fvn))] H := hP
  have hD : va_D A [(wk, .inr (9, [.int vki, .int vce, .int vsi, .int vpi, .int vlo, .int vev, .int vgo, .int vbu, .int vcl, .ref ye, .ref no])), (ye, .inl (cy 0, 192, .inl xf1)), (no, .inl (cy 0, 192, .inl (va_cpy fvn fn 0 0 192))), (vk, .inr (9, [.int vki, .int vce, .int vsi, .int vpi, .int vlo, .int vev, .int vgo, .int vbu, .int vcl, .ref ve, .ref vn])), (ve, .inl (cy 0, 192, .inl fvy)), (vn, .inl (cy 0, 192, .inl fvn))] := hD
  obtain ⟨xf2, hP, hD⟩ : ∃ xf2, va_P G classes [(wk, .inr (9, [.int vki, .int vce, .int vsi, .int vpi, .int vlo, .int vev, .int vgo, .int vbu, .int vcl, .ref ye, .ref no])), (ye, .inl (cy 0, 192, .inl xf1)), (no, .inl (cy 0, 192, .inl xf2)), (vk, .inr (9, [.int vki, .int vce, .int vsi, .int vpi, .int vlo, .int vev, .int vgo, .int vbu, .int vcl, .ref ve, .ref vn])), (ve, .inl (cy 0, 192, .inl fvy)), (vn, .inl (cy 0, 192, .inl fvn))] H ∧ va_D A [(wk, .inr (9, [.int vki, .int vce, .int vsi, .int vpi, .int vlo, .int vev, .int vgo, .int vbu, .int vcl, .ref ye, .ref no])), (ye, .inl (cy 0, 192, .inl xf1)), (no, .inl (cy 0, 192, .inl xf2)), (vk, .inr (9, [.int vki, .int vce, .int vsi, .int vpi, .int vlo, .int vev, .int vgo, .int vbu, .int vcl, .ref ve, .ref vn])), (ve, .inl (cy 0, 192, .inl fvy)), (vn, .inl (cy 0, 192, .inl fvn))] := ⟨_, hP, hD⟩
  have hP9 := P_cut (wc := [(wk, .inr (9, [.int vki, .int vce, .int vsi, .int vpi, .int vlo, .int vev, .int vgo, .int vbu, .int vcl, .ref ye, .ref no])), (ye, .inl (cy 0, 192, .inl xf1)), (no, .inl (cy 0, 192, .inl xf2)), (vk, .inr (9, [.int vki, .int vce, .int vsi, .int vpi, .int vlo, .int vev, .int vgo, .int vbu, .int vcl, .ref ve, .ref vn])), (ve, .inl (cy 0, 192, .inl fvy)), (vn, .inl (cy 0, 192, .inl fvn))]) hP [0, 1, 2, 3, 4, 5] rfl
  have hD9 := hD.sub (ws' := [(wk, .inr (9, [.int vki, .int vce, .int vsi, .int vpi, .int vlo, .int vev, .int vgo, .int vbu, .int vcl, .ref ye, .ref no])), (ye, .inl (cy 0, 192, .inl xf1)), (no, .inl (cy 0, 192, .inl xf2)), (vk, .inr (9, [.int vki, .int vce, .int vsi, .int vpi, .int vlo, .int vev, .int vgo, .int vbu, .int vcl, .ref ve, .ref vn])), (ve, .inl (cy 0, 192, .inl fvy)), (vn, .inl (cy 0, 192, .inl fvn))]) [0, 1, 2, 3, 4, 5] (by decide) rfl
  refine W.widen (k := 0) (n := 0) (by first | exact Nat.le_of_ble_eq_true rfl | omega) (by first | exact Nat.le_of_ble_eq_true rfl | omega) ?_
  exact W.vret hx hb hr (fun t ht hW => ⟨⟨(), rfl, trivial, by dsimp only; rw [ht]; exact ⟨xf1, xf2, hP9, hD9⟩⟩, hS.F ht⟩) hS.2.2 dX9_takeFrom_104
theorem lf_c_X6_has_0 (sz_ : Int32) (v : Int32) (c_1 : v < 0) : ¬ (hasS v sz_) := by simp only [hasS, Int32.le_iff_toInt_le, Int32.lt_iff_toInt_lt] at *; simp at *; omega
theorem lf_c_X6_has_1 (sz_ : Int32) (v : Int32) (c_1 : ¬ v < 0) (c_2 : sz_ ≤ v) : ¬ (hasS v sz_) := by simp only [hasS, Int32.le_iff_toInt_le, Int32.lt_iff_toInt_lt] at *; simp at *; omega
theorem lf_c_X6_has_2 (sz_ : Int32) (v : Int32) (c_1 : ¬ v < 0) (c_2 : ¬ sz_ ≤ v) (c_3 : 24 ≤ v) : ¬ (hasS v sz_) := by simp only [hasS, Int32.le_iff_toInt_le, Int32.lt_iff_toInt_lt] at *; simp at *; omega
theorem lf_c_X6_has_3 (sz_ : Int32) (v : Int32) (c_1 : ¬ v < 0) (c_2 : ¬ sz_ ≤ v) (c_3 : ¬ 24 ≤ v) : (hasS v sz_) := by simp only [hasS, Int32.le_iff_toInt_le, Int32.lt_iff_toInt_lt] at *; simp at *; omega
set_option maxHeartbeats 4000000 in
set_option maxRecDepth 100000 in
theorem c_X6_has (l : Launch) (G : va_G) (cy : Nat → ClassId) (sk sa : Nat → Nat) (sz : Nat) (sh : Nat) (nu : Nat) (bi : Int32) (sz_ : Int32) (v : Int32)  : Met l yX6_has (wsO yX6_has cX6_has 2 (some .boolean)) ({ frames := 0, cells := 0, slots := 0, locals := 0 }) (va_Pc [.ref sh, .int v] (PG G cy sk sa sz [(sh, .inr (6, [.int bi, .int sz_, .ref nu]))])) (vp_Si (fun r => (r = 1 ∧ (hasS v sz_)) ∨ (r = 0 ∧ ¬ (hasS v sz_)))) 0 0 (fun _ => False) := by
  refine mgr (by decide) (Nat.le_of_ble_eq_true rfl) ?_
  intro p e s m below meth c ls A hx hb hr hml hts hown hlocks hin hsz hP hE hD hS hT hl
  subst hsz
  have hl : lv_has ls 2 [(0, .ref sh), (1, .int v)] := hl
  refine lv_iload_n hx hb dX6_has_0 rfl (lv_at hl 1 rfl) ?_
  refine lv_if_lt (tgt := 22) hx hb dX6_has_1 (by decide) (fun c_1 => ?_) (fun c_1 => ?_)
  · refine lv_iconst (v := 0) hx hb dX6_has_22 (by decide) ?_
    exact W.zret (v := 0) hx hb hr rfl (fun t ht hW => ⟨0, rfl, (Or.inr ⟨rfl, (lf_c_X6_has_0 sz_ v c_1)⟩), ht⟩) (fun _ h => by cases h) dX6_has_23
  · refine lv_iload_n hx hb dX6_has_4 rfl (lv_at hl 1 rfl) ?_
    refine lv_aload_n hx hb dX6_has_5 rfl (lv_at hl 0 rfl) ?_
    refine va_get (D := G) (ci := 6) (v := .int sz_) (C := RX6) (T := TX6) (N := 3) hx hb hts inB6 hown hE.1 hP 0 rfl rfl 1 (by decide) (hts _ m_447) (fun _ h9 => h9) rfl dX6_has_6 ?_
    refine lv_icmp_ge (tgt := 22) hx hb dX6_has_9 (by decide) (fun c_2 => ?_) (fun c_2 => ?_)
    · refine lv_iconst (v := 0) hx hb dX6_has_22 (by decide) ?_
      exact W.zret (v := 0) hx hb hr rfl (fun t ht hW => ⟨0, rfl, (Or.inr ⟨rfl, (lf_c_X6_has_1 sz_ v c_1 c_2)⟩), ht⟩) (fun _ h => by cases h) dX6_has_23
    · refine lv_iload_n hx hb dX6_has_12 rfl (lv_at hl 1 rfl) ?_
      refine lv_bipush (v := 24) hx hb dX6_has_13 (by decide) ?_
      refine lv_icmp_ge (tgt := 22) hx hb dX6_has_15 (by decide) (fun c_3 => ?_) (fun c_3 => ?_)
      · refine lv_iconst (v := 0) hx hb dX6_has_22 (by decide) ?_
        exact W.zret (v := 0) hx hb hr rfl (fun t ht hW => ⟨0, rfl, (Or.inr ⟨rfl, (lf_c_X6_has_2 sz_ v c_1 c_2 c_3)⟩), ht⟩) (fun _ h => by cases h) dX6_has_23
      · refine lv_iconst (v := 1) hx hb dX6_has_18 (by decide) ?_
        refine lv_goto (tgt := 23) hx hb dX6_has_19 (by decide) ?_
        exact W.zret (v := 1) hx hb hr rfl (fun t ht hW => ⟨1, rfl, (Or.inl ⟨rfl, (lf_c_X6_has_3 sz_ v c_1 c_2 c_3)⟩), ht⟩) (fun _ h => by cases h) dX6_has_23
theorem vi_c_X6_numberAt_0 (sz_ : Int32) (v : Int32) (h_2 : (hasS v sz_)) : vp_in v 24 := by rw [vp_in_iff]; simp only [hasS, Int32.le_iff_toInt_le, Int32.lt_iff_toInt_lt] at *; simp at *; omega
set_option maxHeartbeats 4000000 in
set_option maxRecDepth 100000 in
theorem c_X6_numberAt (l : Launch) (G : va_G) (cy : Nat → ClassId) (sk sa : Nat → Nat) (sz : Nat) (sh : Nat) (nu : Nat) (bi : Int32) (sz_ : Int32) (fu : Nat → Int32) (v : Int32)  : Met l yX6_numberAt (wsO yX6_numberAt cX6_numberAt 2 (some .int)) ({ frames := 1, cells := 0, slots := 0, locals := 21 }) (va_Pc [.ref sh, .int v] (PG G cy sk sa sz [(sh, .inr (6, [.int bi, .int sz_, .ref nu])), (nu, .inl (cy 0, 24, .inl fu))])) (vp_Si (fun _ => True)) 0 0 (fun _ => False) := by
  refine mgr (by decide) (Nat.le_of_ble_eq_true rfl) ?_
  intro p e s m below meth c ls A hx hb hr hml hts hown hlocks hin hsz hP hE hD hS hT hl
  subst hsz
  have hl : lv_has ls 2 [(0, .ref sh), (1, .int v)] := hl
  refine lv_aload_n hx hb dX6_numberAt_0 rfl (lv_at hl 0 rfl) ?_
  refine lv_iload_n hx hb dX6_numberAt_1 rfl (lv_at hl 1 rfl) ?_
  refine grV (rest := []) hx hb hml hown hts hE (c_X6_has l G cy sk sa s.heap.size sh nu bi sz_ v) kV_X6_has m_577 rfl rfl ⟨(Nat.le_of_ble_eq_true rfl), (Nat.le_of_ble_eq_true rfl)⟩ hP hD hS hT 0 rfl rfl rfl [0] rfl rfl rfl rfl hl.1 (Nat.le_of_ble_eq_true rfl) dX6_numberAt_2 ⟨Nat.zero_le _, Nat.zero_le _⟩ (fun r_1 hr_ => ?_)
  rcases hr_ with ⟨rfl, h_2⟩ | ⟨rfl, h_2⟩
  · refine lv_if_eq (tgt := 17) hx hb dX6_numberAt_5 (by decide) (fun h9 => absurd h9 (by decide)) (fun _ => ?_)
    refine lv_aload_n hx hb dX6_numberAt_8 rfl (lv_at hl 0 rfl) ?_
    refine va_get (D := G) (ci := 6) (v := .ref nu) (C := RX6) (T := TX6) (N := 3) hx hb hts inB6 hown hE.1 hP 0 rfl rfl 2 (by decide) (hts _ m_450) (fun _ h9 => h9) rfl dX6_numberAt_9 ?_
    refine lv_iload_n hx hb dX6_numberAt_12 rfl (lv_at hl 1 rfl) ?_
    refine va_iald hx hb hE.1 hP 1 0 rfl rfl (vi_c_X6_numberAt_0 sz_ v h_2) dX6_numberAt_13 ?_
    refine lv_topi (fun y3 ey3 => ?_)
    refine lv_goto (tgt := 18) hx hb dX6_numberAt_14 (by decide) ?_
    exact W.iret (v := y3) hx hb hr (fun t ht hW => ⟨y3, rfl, trivial, ht⟩) (fun _ h => by cases h) dX6_numberAt_18
  · refine lv_if_eq (tgt := 17) hx hb dX6_numberAt_5 (by decide) (fun _ => ?_) (fun h9 => absurd h9 (by decide))
    refine lv_iconst (v := 0) hx hb dX6_numberAt_17 (by decide) ?_
    exact W.iret (v := 0) hx hb hr (fun t ht hW => ⟨0, rfl, trivial, ht⟩) (fun _ h => by cases h) dX6_numberAt_18
def B_c_X6_store (G : va_G) (cy : Nat → ClassId) (A : Nat → Prop) (sh : Nat) (nu : Nat) (bi : Int32) (sz_ : Int32) (fu : Nat → Int32) (v : Int32) (x : Int32) (H : Heap) : Prop := ∃ (gu : Nat → Int32), va_P G classes [(sh, .inr (6, [.int bi, .int sz_, .ref nu])), (nu, .inl (cy 0, 24, .inl gu))] H ∧ va_D A [(sh, .inr (6, [.int bi, .int sz_, .ref nu])), (nu, .inl (cy 0, 24, .inl gu))]
theorem vi_c_X6_store_0 (sz_ : Int32) (v : Int32) (h_2 : (hasS v sz_)) : vp_in v 24 := by rw [vp_in_iff]; simp only [hasS, Int32.le_iff_toInt_le, Int32.lt_iff_toInt_lt] at *; simp at *; omega
theorem vi_c_X6_store_1 (sz_ : Int32) (v : Int32) (h_2 : (hasS v sz_)) : vp_in v 24 := by rw [vp_in_iff]; simp only [hasS, Int32.le_iff_toInt_le, Int32.lt_iff_toInt_lt] at *; simp at *; omega
theorem vi_c_X6_store_2 (sz_ : Int32) (v : Int32) (h_2 : (hasS v sz_)) : vp_in v 24 := by rw [vp_in_iff]; simp only [hasS, Int32.le_iff_toInt_le, Int32.lt_iff_toInt_lt] at *; simp at *; omega
set_option maxHeartbeats 4000000 in
set_option maxRecDepth 100000 in
theorem c_X6_store (l : Launch) (G : va_G) (cy : Nat → ClassId) (sk sa : Nat → Nat) (sz : Nat) (sh : Nat) (nu : Nat) (bi : Int32) (sz_ : Int32) (fu : Nat → Int32) (v : Int32) (x : Int32)  : Met l yX6_store (wsO yX6_store cX6_store 3 none) ({ frames := 1, cells := 0, slots := 0, locals := 21 }) (va_Pc [.ref sh, .int v, .int x] (PG G cy sk sa sz [(sh, .inr (6, [.int bi, .int sz_, .ref nu])), (nu, .inl (cy 0, 24, .inl fu))])) (va_Qv (fun (_ : Unit) => True) (fun _ t => B_c_X6_store G cy (va_A [(sh, .inr (6, [.int bi, .int sz_, .ref nu])), (nu, .inl (cy 0, 24, .inl fu))] sz) sh nu bi sz_ fu v x t.heap) (va_A [(sh, .inr (6, [.int bi, .int sz_, .ref nu])), (nu, .inl (cy 0, 24, .inl fu))] sz)) 0 0 (va_A [(sh, .inr (6, [.int bi, .int sz_, .ref nu])), (nu, .inl (cy 0, 24, .inl fu))] sz) := by
  refine mgw (Qc := fun A => (va_Qv (fun (_ : Unit) => True) (fun _ t => B_c_X6_store G cy A sh nu bi sz_ fu v x t.heap) A)) (by decide) (Nat.le_of_ble_eq_true rfl) ?_
  intro p e s m below meth c ls A hx hb hr hml hts hown hlocks hin hP hE hD hS hA hT hl
  have hl : lv_has ls 3 [(0, .ref sh), (1, .int v), (2, .int x)] := hl
  refine lv_aload_n hx hb dX6_store_0 rfl (lv_at hl 0 rfl) ?_
  refine lv_iload_n hx hb dX6_store_1 rfl (lv_at hl 1 rfl) ?_
  refine grV (rest := []) hx hb hml hown hts hE (c_X6_has l G cy sk sa s.heap.size sh nu bi sz_ v) kV_X6_has m_577 rfl rfl ⟨(Nat.le_of_ble_eq_true rfl), (Nat.le_of_ble_eq_true rfl)⟩ hP hD hS hT 0 rfl rfl rfl [0] rfl rfl rfl rfl hl.1 (Nat.le_of_ble_eq_true rfl) dX6_store_2 ⟨(Nat.le_of_ble_eq_true rfl), (Nat.le_of_ble_eq_true rfl)⟩ (fun r_1 hr_ => ?_)
  rcases hr_ with ⟨rfl, h_2⟩ | ⟨rfl, h_2⟩
  · refine lv_if_eq (tgt := 43) hx hb dX6_store_5 (by decide) (fun h9 => absurd h9 (by decide)) (fun _ => ?_)
    refine lv_aload_n hx hb dX6_store_8 rfl (lv_at hl 0 rfl) ?_
    refine va_get (D := G) (ci := 6) (v := .ref nu) (C := RX6) (T := TX6) (N := 3) hx hb hts inB6 hown hE.1 hP 0 rfl rfl 2 (by decide) (hts _ m_450) (fun _ h9 => h9) rfl dX6_store_9 ?_
    refine lv_iload_n hx hb dX6_store_12 rfl (lv_at hl 1 rfl) ?_
    refine lv_aload_n hx hb dX6_store_13 rfl (lv_at hl 0 rfl) ?_
    refine va_get (D := G) (ci := 6) (v := .int bi) (C := RX6) (T := TX6) (N := 3) hx hb hts inB6 hown hE.1 hP 0 rfl rfl 0 (by decide) (hts _ m_445) (fun _ h9 => h9) rfl dX6_store_14 ?_
    refine lv_bipush (v := 8) hx hb dX6_store_17 (by decide) ?_
    refine lv_icmp_ne (tgt := 27) hx hb dX6_store_19 (by decide) (fun c_3 => ?_) (fun c_3 => ?_)
    · refine lv_aload_n hx hb dX6_store_27 rfl (lv_at hl 0 rfl) ?_
      refine va_get (D := G) (ci := 6) (v := .int bi) (C := RX6) (T := TX6) (N := 3) hx hb hts inB6 hown hE.1 hP 0 rfl rfl 0 (by decide) (hts _ m_445) (fun _ h9 => h9) rfl dX6_store_28 ?_
      refine lv_bipush (v := 16) hx hb dX6_store_31 (by decide) ?_
      refine lv_icmp_ne (tgt := 41) hx hb dX6_store_33 (by decide) (fun c_4 => ?_) (fun c_4 => ?_)
      · refine lv_iload_n hx hb dX6_store_41 rfl (lv_at hl 2 rfl) ?_
        refine va_iast hx hb hE.1 hP hD hS 1 0 rfl rfl (vi_c_X6_store_0 sz_ v h_2) dX6_store_42 (fun H locs hP hD hS => ?_)
        have hP : va_P G classes [(sh, .inr (6, [.int bi, .int sz_, .ref nu])), (nu, .inl (cy 0, 24, .inl (upd fu (v).toNatClampNeg x)))] H := hP
        have hD : va_D A [(sh, .inr (6, [.int bi, .int sz_, .ref nu])), (nu, .inl (cy 0, 24, .inl (upd fu (v).toNatClampNeg x)))] := hD
        have hP9 := P_cut (wc := [(sh, .inr (6, [.int bi, .int sz_, .ref nu])), (nu, .inl (cy 0, 24, .inl (upd fu (v).toNatClampNeg x)))]) hP [0, 1] rfl
        have hD9 := hD.sub (ws' := [(sh, .inr (6, [.int bi, .int sz_, .ref nu])), (nu, .inl (cy 0, 24, .inl (upd fu (v).toNatClampNeg x)))]) [0, 1] (by decide) rfl
        refine W.widen (k := 0) (n := 0) (by first | exact Nat.le_of_ble_eq_true rfl | omega) (by first | exact Nat.le_of_ble_eq_true rfl | omega) ?_
        exact W.vret hx hb hr (fun t ht hW => ⟨⟨(), rfl, trivial, by dsimp only; rw [ht]; exact ⟨(upd fu (v).toNatClampNeg x), hP9, hD9⟩⟩, hS.F ht⟩) hS.2.2 dX6_store_43
      · refine lv_iload_n hx hb dX6_store_36 rfl (lv_at hl 2 rfl) ?_
        obtain ⟨z5, ez5⟩ : ∃ z : Int32, z = (x).toInt16.toInt32 := ⟨_, rfl⟩
        refine lv_i2s (v := z5) hx hb dX6_store_37 ez5.symm ?_
        refine lv_goto (tgt := 42) hx hb dX6_store_38 (by decide) ?_
        refine va_iast hx hb hE.1 hP hD hS 1 0 rfl rfl (vi_c_X6_store_1 sz_ v h_2) dX6_store_42 (fun H locs hP hD hS => ?_)
        have hP : va_P G classes [(sh, .inr (6, [.int bi, .int sz_, .ref nu])), (nu, .inl (cy 0, 24, .inl (upd fu (v).toNatClampNeg z5)))] H := hP
        have hD : va_D A [(sh, .inr (6, [.int bi, .int sz_, .ref nu])), (nu, .inl (cy 0, 24, .inl (upd fu (v).toNatClampNeg z5)))] := hD
        have hP9 := P_cut (wc := [(sh, .inr (6, [.int bi, .int sz_, .ref nu])), (nu, .inl (cy 0, 24, .inl (upd fu (v).toNatClampNeg z5)))]) hP [0, 1] rfl
        have hD9 := hD.sub (ws' := [(sh, .inr (6, [.int bi, .int sz_, .ref nu])), (nu, .inl (cy 0, 24, .inl (upd fu (v).toNatClampNeg z5)))]) [0, 1] (by decide) rfl
        refine W.widen (k := 0) (n := 0) (by first | exact Nat.le_of_ble_eq_true rfl | omega) (by first | exact Nat.le_of_ble_eq_true rfl | omega) ?_
        exact W.vret hx hb hr (fun t ht hW => ⟨⟨(), rfl, trivial, by dsimp only; rw [ht]; exact ⟨(upd fu (v).toNatClampNeg z5), hP9, hD9⟩⟩, hS.F ht⟩) hS.2.2 dX6_store_43
    · refine lv_iload_n hx hb dX6_store_22 rfl (lv_at hl 2 rfl) ?_
      obtain ⟨z6, ez6⟩ : ∃ z : Int32, z = (x).toInt8.toInt32 := ⟨_, rfl⟩
      refine lv_i2b (v := z6) hx hb dX6_store_23 ez6.symm ?_
      refine lv_goto (tgt := 42) hx hb dX6_store_24 (by decide) ?_
      refine va_iast hx hb hE.1 hP hD hS 1 0 rfl rfl (vi_c_X6_store_2 sz_ v h_2) dX6_store_42 (fun H locs hP hD hS => ?_)
      have hP : va_P G classes [(sh, .inr (6, [.int bi, .int sz_, .ref nu])), (nu, .inl (cy 0, 24, .inl (upd fu (v).toNatClampNeg z6)))] H := hP
      have hD : va_D A [(sh, .inr (6, [.int bi, .int sz_, .ref nu])), (nu, .inl (cy 0, 24, .inl (upd fu (v).toNatClampNeg z6)))] := hD
      have hP9 := P_cut (wc := [(sh, .inr (6, [.int bi, .int sz_, .ref nu])), (nu, .inl (cy 0, 24, .inl (upd fu (v).toNatClampNeg z6)))]) hP [0, 1] rfl
      have hD9 := hD.sub (ws' := [(sh, .inr (6, [.int bi, .int sz_, .ref nu])), (nu, .inl (cy 0, 24, .inl (upd fu (v).toNatClampNeg z6)))]) [0, 1] (by decide) rfl
      refine W.widen (k := 0) (n := 0) (by first | exact Nat.le_of_ble_eq_true rfl | omega) (by first | exact Nat.le_of_ble_eq_true rfl | omega) ?_
      exact W.vret hx hb hr (fun t ht hW => ⟨⟨(), rfl, trivial, by dsimp only; rw [ht]; exact ⟨(upd fu (v).toNatClampNeg z6), hP9, hD9⟩⟩, hS.F ht⟩) hS.2.2 dX6_store_43
  · refine lv_if_eq (tgt := 43) hx hb dX6_store_5 (by decide) (fun _ => ?_) (fun h9 => absurd h9 (by decide))
    have hP9 := P_cut (wc := [(sh, .inr (6, [.int bi, .int sz_, .ref nu])), (nu, .inl (cy 0, 24, .inl fu))]) hP [0, 1] rfl
    have hD9 := hD.sub (ws' := [(sh, .inr (6, [.int bi, .int sz_, .ref nu])), (nu, .inl (cy 0, 24, .inl fu))]) [0, 1] (by decide) rfl
    refine W.widen (k := 0) (n := 0) (by first | exact Nat.le_of_ble_eq_true rfl | omega) (by first | exact Nat.le_of_ble_eq_true rfl | omega) ?_
    exact W.vret hx hb hr (fun t ht hW => ⟨⟨(), rfl, trivial, by dsimp only; rw [ht]; exact ⟨fu, hP9, hD9⟩⟩, hS.F ht⟩) hS.2.2 dX6_store_43
def B_c_X6_begin (G : va_G) (cy : Nat → ClassId) (A : Nat → Prop) (sh : Nat) (nu : Nat) (bi : Int32) (sz_ : Int32) (fu : Nat → Int32) (v : Int32) (n : Int32) (H : Heap) : Prop := ∃ (z2 : Int32) (gu : Nat → Int32), va_P G classes [(sh, .inr (6, [.int v, .int z2, .ref nu])), (nu, .inl (cy 0, 24, .inl gu))] H ∧ va_D A [(sh, .inr (6, [.int v, .int z2, .ref nu])), (nu, .inl (cy 0, 24, .inl gu))]
theorem vi_c_X6_begin_0 (i : Nat) (hi : i ≤ 24) (hlt : i < 24) : vp_in (nI i) 24 := by exact vp_in_nI (by omega) (by decide)
set_option maxHeartbeats 4000000 in
set_option maxRecDepth 100000 in
theorem c_X6_begin (l : Launch) (G : va_G) (cy : Nat → ClassId) (sk sa : Nat → Nat) (sz : Nat) (sh : Nat) (nu : Nat) (bi : Int32) (sz_ : Int32) (fu : Nat → Int32) (v : Int32) (n : Int32)  : Met l yX6_begin (wsO yX6_begin cX6_begin 4 none) ({ frames := 1, cells := 0, slots := 0, locals := 15 }) (va_Pc [.ref sh, .int v, .int n] (PG G cy sk sa sz [(sh, .inr (6, [.int bi, .int sz_, .ref nu])), (nu, .inl (cy 0, 24, .inl fu))])) (va_Qv (fun (_ : Unit) => True) (fun _ t => B_c_X6_begin G cy (va_A [(sh, .inr (6, [.int bi, .int sz_, .ref nu])), (nu, .inl (cy 0, 24, .inl fu))] sz) sh nu bi sz_ fu v n t.heap) (va_A [(sh, .inr (6, [.int bi, .int sz_, .ref nu])), (nu, .inl (cy 0, 24, .inl fu))] sz)) 0 0 (va_A [(sh, .inr (6, [.int bi, .int sz_, .ref nu])), (nu, .inl (cy 0, 24, .inl fu))] sz) := by
  refine mgw (Qc := fun A => (va_Qv (fun (_ : Unit) => True) (fun _ t => B_c_X6_begin G cy A sh nu bi sz_ fu v n t.heap) A)) (by decide) (Nat.le_of_ble_eq_true rfl) ?_
  intro p e s m below meth c ls A hx hb hr hml hts hown hlocks hin hP hE hD hS hA hT hl
  have hl : lv_has ls 4 [(0, .ref sh), (1, .int v), (2, .int n)] := hl
  refine lv_aload_n hx hb dX6_begin_0 rfl (lv_at hl 0 rfl) ?_
  refine lv_iload_n hx hb dX6_begin_1 rfl (lv_at hl 1 rfl) ?_
  refine va_put (D := G) (ci := 6) (v := .int v) (ty := .int) (C := RX6) (T := TX6) (N := 3) hx hb hts inB6 tyX6 tyX6_ok nmX6 hown hE.1 hP hD hS 0 rfl rfl 0 (by decide) (hts _ m_445) (fun _ h9 => h9) rfl (by decide +kernel) rfl rfl (Nat.le_of_ble_eq_true rfl) dX6_begin_2 (fun H locs hP hD hS => ?_)
  have hP : va_P G classes [(sh, .inr (6, [.int v, .int sz_, .ref nu])), (nu, .inl (cy 0, 24, .inl fu))] H := hP
  have hD : va_D A [(sh, .inr (6, [.int v, .int sz_, .ref nu])), (nu, .inl (cy 0, 24, .inl fu))] := hD
  refine lv_aload_n hx hb dX6_begin_5 rfl (lv_at hl 0 rfl) ?_
  refine lv_iconst (v := 0) hx hb dX6_begin_6 (by decide) ?_
  refine lv_bipush (v := 24) hx hb dX6_begin_7 (by decide) ?_
  refine lv_iload_n hx hb dX6_begin_9 rfl (lv_at hl 2 rfl) ?_
  refine va_mmin hx hb (hml.trans hl.1.symm) hown (hts _ m_1230) (hts _ m_770) (hts _ m_86) (hts _ m_771) (Nat.le_of_ble_eq_true rfl) (Nat.le_of_ble_eq_true rfl) (Nat.le_of_ble_eq_true rfl) (Nat.le_of_ble_eq_true rfl) dX6_begin_10 ?_
  refine lv_topi (fun z1 ez1 => ?_)
  refine va_mmax hx hb (hml.trans hl.1.symm) hown (hts _ m_1231) (hts _ m_206) (hts _ m_86) (hts _ m_207) (Nat.le_of_ble_eq_true rfl) (Nat.le_of_ble_eq_true rfl) (Nat.le_of_ble_eq_true rfl) (Nat.le_of_ble_eq_true rfl) dX6_begin_13 ?_
  refine lv_topi (fun z2 ez2 => ?_)
  refine va_put (D := G) (ci := 6) (v := .int z2) (ty := .int) (C := RX6) (T := TX6) (N := 3) hx hb hts inB6 tyX6 tyX6_ok nmX6 hown hE.1 hP hD hS 0 rfl rfl 1 (by decide) (hts _ m_447) (fun _ h9 => h9) rfl (by decide +kernel) rfl rfl (Nat.le_of_ble_eq_true rfl) dX6_begin_16 (fun H locs hP hD hS => ?_)
  have hP : va_P G classes [(sh, .inr (6, [.int v, .int z2, .ref nu])), (nu, .inl (cy 0, 24, .inl fu))] H := hP
  have hD : va_D A [(sh, .inr (6, [.int v, .int z2, .ref nu])), (nu, .inl (cy 0, 24, .inl fu))] := hD
  refine lv_iconst (v := 0) hx hb dX6_begin_19 (by decide) ?_
  refine lv_istore_n (lv' := [(3, .int 0), (0, .ref sh), (1, .int v), (2, .int n)]) hx hb dX6_begin_20 rfl hl (by decide) rfl (fun ls hl => ?_)
  have lp3 : ∀ (nn i : Nat), i ≤ 24 → 24 + 1 ≤ i + nn → ∀ (lu : Nat → Int32), ∀ (H : Heap) (locs : List Loc), va_P G classes [(sh, .inr (6, [.int v, .int z2, .ref nu])), (nu, .inl (cy 0, 24, .inl lu))] H → va_D A [(sh, .inr (6, [.int v, .int z2, .ref nu])), (nu, .inl (cy 0, 24, .inl lu))] → va_S A s.heap H locs → ∀ (ls : Array Slot), lv_has ls 4 [(3, .int (nI i)), (0, .ref sh), (1, .int v), (2, .int n)] → W p l e (headSpec (wsO yX6_begin cX6_begin 4 none) ({ frames := 1, cells := 0, slots := 0, locals := 15 })).room s m [.ref sh, .int v, .int n].toArray below meth c H locs 0 0 (MQ below (va_Qv (fun (_ : Unit) => True) (fun _ t => B_c_X6_begin G cy A sh nu bi sz_ fu v n t.heap) A) [.ref sh, .int v, .int n].toArray s 0 0 A) (F0 m 21 ls []) := by
    intro nn
    induction nn with
    | zero => intro i h1 h2; exact absurd h2 (by omega)
    | succ nn ih =>
      intro i hi hin0 lu H locs hP hD hS ls hl
      rcases Nat.lt_or_ge i 24 with hlt | hge
      · refine lv_iload_n hx hb dX6_begin_21 rfl (lv_at hl 0 rfl) ?_
        refine lv_bipush (v := 24) hx hb dX6_begin_22 (by decide) ?_
        refine lv_icmp_ge (tgt := 40) hx hb dX6_begin_24 (by decide) (fun h9 => absurd h9 (nI_ge hlt (by decide))) (fun _ => ?_)
        refine lv_aload_n hx hb dX6_begin_27 rfl (lv_at hl 1 rfl) ?_
        refine va_get (D := G) (ci := 6) (v := .ref nu) (C := RX6) (T := TX6) (N := 3) hx hb hts inB6 hown hE.1 hP 0 rfl rfl 2 (by decide) (hts _ m_450) (fun _ h9 => h9) rfl dX6_begin_28 ?_
        refine lv_iload_n hx hb dX6_begin_31 rfl (lv_at hl 0 rfl) ?_
        refine lv_iconst (v := 0) hx hb dX6_begin_32 (by decide) ?_
        refine va_iast hx hb hE.1 hP hD hS 1 0 rfl rfl (vi_c_X6_begin_0 i hi hlt) dX6_begin_33 (fun H locs hP hD hS => ?_)
        have hP : va_P G classes [(sh, .inr (6, [.int v, .int z2, .ref nu])), (nu, .inl (cy 0, 24, .inl (upd lu ((nI i)).toNatClampNeg 0)))] H := hP
        have hD : va_D A [(sh, .inr (6, [.int v, .int z2, .ref nu])), (nu, .inl (cy 0, 24, .inl (upd lu ((nI i)).toNatClampNeg 0)))] := hD
        refine lv_iinc (v := (nI (i + 1))) (lv' := [(3, .int (nI (i + 1))), (0, .ref sh), (1, .int v), (2, .int n)]) hx hb dX6_begin_34 hl (k := 0) rfl (nI_1 (i)) (by decide) rfl (fun ls hl => ?_)
        refine lv_goto (tgt := 21) hx hb dX6_begin_37 (by decide) ?_
        exact ih (i + 1) hlt (by omega) (upd lu ((nI i)).toNatClampNeg 0) _ _ hP hD hS ls (lv_sub hl [0, 1, 2, 3] rfl)
      · have hie : i = 24 := Nat.le_antisymm hi hge
        subst hie
        refine lv_iload_n hx hb dX6_begin_21 rfl (lv_at hl 0 rfl) ?_
        refine lv_bipush (v := 24) hx hb dX6_begin_22 (by decide) ?_
        refine lv_icmp_ge (tgt := 40) hx hb dX6_begin_24 (by decide) (fun _ => ?_) (fun h9 => absurd (Int32.le_refl _) h9)
        have hP9 := P_cut (wc := [(sh, .inr (6, [.int v, .int z2, .ref nu])), (nu, .inl (cy 0, 24, .inl lu))]) hP [0, 1] rfl
        have hD9 := hD.sub (ws' := [(sh, .inr (6, [.int v, .int z2, .ref nu])), (nu, .inl (cy 0, 24, .inl lu))]) [0, 1] (by decide) rfl
        refine W.widen (k := 0) (n := 0) (by first | exact Nat.le_of_ble_eq_true rfl | omega) (by first | exact Nat.le_of_ble_eq_true rfl | omega) ?_
        exact W.vret hx hb hr (fun t ht hW => ⟨⟨(), rfl, trivial, by dsimp only; rw [ht]; exact ⟨z2, lu, hP9, hD9⟩⟩, hS.F ht⟩) hS.2.2 dX6_begin_40
  exact lp3 (24 + 1) 0 (Nat.zero_le _) (by omega) fu _ _ hP hD hS ls (lv_sub hl [0, 1, 2, 3] rfl)
set_option maxHeartbeats 4000000 in
set_option maxRecDepth 100000 in
theorem c_X6_holdsFewCells (l : Launch) (G : va_G) (cy : Nat → ClassId) (sk sa : Nat → Nat) (sz : Nat) (sh : Nat) (nu : Nat) (bi : Int32) (sz_ : Int32) (fu : Nat → Int32)  : Met l yX6_holdsFewCells (wsO yX6_holdsFewCells cX6_holdsFewCells 2 (some .boolean)) ({ frames := 2, cells := 0, slots := 0, locals := 42 }) (va_Pc [.ref sh] (PG G cy sk sa sz [(sh, .inr (6, [.int bi, .int sz_, .ref nu])), (nu, .inl (cy 0, 24, .inl fu))])) (vp_Si (fun _ => True)) 0 0 (fun _ => False) := by
  refine mgr (by decide) (Nat.le_of_ble_eq_true rfl) ?_
  intro p e s m below meth c ls A hx hb hr hml hts hown hlocks hin hsz hP hE hD hS hT hl
  subst hsz
  have hl : lv_has ls 2 [(0, .ref sh)] := hl
  refine lv_aload_n hx hb dX6_holdsFewCells_0 rfl (lv_at hl 0 rfl) ?_
  refine va_get (D := G) (ci := 6) (v := .int sz_) (C := RX6) (T := TX6) (N := 3) hx hb hts inB6 hown hE.1 hP 0 rfl rfl 1 (by decide) (hts _ m_447) (fun _ h9 => h9) rfl dX6_holdsFewCells_1 ?_
  refine lv_iconst (v := 1) hx hb dX6_holdsFewCells_4 (by decide) ?_
  refine lv_icmp_lt (tgt := 17) hx hb dX6_holdsFewCells_5 (by decide) (fun c_1 => ?_) (fun c_1 => ?_)
  · refine lv_iconst (v := 0) hx hb dX6_holdsFewCells_17 (by decide) ?_
    exact W.zret (v := 0) hx hb hr rfl (fun t ht hW => ⟨0, rfl, trivial, ht⟩) (fun _ h => by cases h) dX6_holdsFewCells_18
  · refine lv_aload_n hx hb dX6_holdsFewCells_8 rfl (lv_at hl 0 rfl) ?_
    refine va_get (D := G) (ci := 6) (v := .int sz_) (C := RX6) (T := TX6) (N := 3) hx hb hts inB6 hown hE.1 hP 0 rfl rfl 1 (by decide) (hts _ m_447) (fun _ h9 => h9) rfl dX6_holdsFewCells_9 ?_
    refine lv_bipush (v := 8) hx hb dX6_holdsFewCells_12 (by decide) ?_
    refine lv_icmp_le (tgt := 19) hx hb dX6_holdsFewCells_14 (by decide) (fun c_2 => ?_) (fun c_2 => ?_)
    · refine lv_iconst (v := 0) hx hb dX6_holdsFewCells_19 (by decide) ?_
      refine lv_istore_n (lv' := [(1, .int 0), (0, .ref sh)]) hx hb dX6_holdsFewCells_20 rfl hl (by decide) rfl (fun ls hl => ?_)
      have lp3 : ∀ (nn i : Nat), i ≤ 8 → 8 + 1 ≤ i + nn → ∀ (ls : Array Slot), lv_has ls 2 [(1, .int (nI i)), (0, .ref sh)] → W p l e (headSpec (wsO yX6_holdsFewCells cX6_holdsFewCells 2 (some .boolean)) ({ frames := 2, cells := 0, slots := 0, locals := 42 })).room s m [.ref sh].toArray below meth c s.heap [] 0 0 (MQ below (vp_Si (fun _ => True)) [.ref sh].toArray s 0 0 (fun _ => False)) (F0 m 21 ls []) := by
        intro nn
        induction nn with
        | zero => intro i h1 h2; exact absurd h2 (by omega)
        | succ nn ih =>
          intro i hi hin0 ls hl
          rcases Nat.lt_or_ge i 8 with hlt | hge
          · refine lv_iload_n hx hb dX6_holdsFewCells_21 rfl (lv_at hl 0 rfl) ?_
            refine lv_aload_n hx hb dX6_holdsFewCells_22 rfl (lv_at hl 1 rfl) ?_
            refine va_get (D := G) (ci := 6) (v := .int sz_) (C := RX6) (T := TX6) (N := 3) hx hb hts inB6 hown hE.1 hP 0 rfl rfl 1 (by decide) (hts _ m_447) (fun _ h9 => h9) rfl dX6_holdsFewCells_23 ?_
            refine lv_icmp_ge (tgt := 48) hx hb dX6_holdsFewCells_26 (by decide) (fun c_4 => ?_) (fun c_4 => ?_)
            · refine lv_iconst (v := 1) hx hb dX6_holdsFewCells_48 (by decide) ?_
              exact W.zret (v := 1) hx hb hr rfl (fun t ht hW => ⟨1, rfl, trivial, ht⟩) (fun _ h => by cases h) dX6_holdsFewCells_49
            · refine lv_aload_n hx hb dX6_holdsFewCells_29 rfl (lv_at hl 1 rfl) ?_
              refine lv_iload_n hx hb dX6_holdsFewCells_30 rfl (lv_at hl 0 rfl) ?_
              refine grV (rest := []) hx hb hml hown hts hE (c_X6_numberAt l G cy sk sa s.heap.size sh nu bi sz_ fu (nI i)) kV_X6_numberAt m_982 rfl rfl ⟨(Nat.le_of_ble_eq_true rfl), (Nat.le_of_ble_eq_true rfl)⟩ hP hD hS hT 0 rfl rfl rfl [0, 1] rfl rfl rfl rfl hl.1 (Nat.le_of_ble_eq_true rfl) dX6_holdsFewCells_31 ⟨Nat.zero_le _, Nat.zero_le _⟩ (fun r_5 hr_ => ?_)
              refine grS (rest := []) hx hb hml hown hts hE (c_X7_isCell l G cy sk sa s.heap.size r_5) kS_X7_isCell m_983 rfl rfl ⟨(Nat.le_of_ble_eq_true rfl), (Nat.le_of_ble_eq_true rfl)⟩ hP hD hS hT [] rfl rfl rfl rfl hl.1 (Nat.le_of_ble_eq_true rfl) dX6_holdsFewCells_34 ⟨Nat.zero_le _, Nat.zero_le _⟩ (fun r_6 hr_ => ?_)
              rcases hr_ with ⟨rfl, h_7⟩ | ⟨rfl, h_7⟩
              · refine lv_if_ne (tgt := 42) hx hb dX6_holdsFewCells_37 (by decide) (fun _ => ?_) (fun h9 => absurd h9 (by decide))
                refine lv_iinc (v := (nI (i + 1))) (lv' := [(1, .int (nI (i + 1))), (0, .ref sh)]) hx hb dX6_holdsFewCells_42 hl (k := 0) rfl (nI_1 (i)) (by decide) rfl (fun ls hl => ?_)
                refine lv_goto (tgt := 21) hx hb dX6_holdsFewCells_45 (by decide) ?_
                exact ih (i + 1) hlt (by omega) ls (lv_sub hl [0, 1] rfl)
              · refine lv_if_ne (tgt := 42) hx hb dX6_holdsFewCells_37 (by decide) (fun h9 => absurd h9 (by decide)) (fun _ => ?_)
                refine lv_iconst (v := 0) hx hb dX6_holdsFewCells_40 (by decide) ?_
                exact W.zret (v := 0) hx hb hr rfl (fun t ht hW => ⟨0, rfl, trivial, ht⟩) (fun _ h => by cases h) dX6_holdsFewCells_41
          · have hie : i = 8 := Nat.le_antisymm hi hge
            subst hie
            refine lv_iload_n hx hb dX6_holdsFewCells_21 rfl (lv_at hl 0 rfl) ?_
            refine lv_aload_n hx hb dX6_holdsFewCells_22 rfl (lv_at hl 1 rfl) ?_
            refine va_get (D := G) (ci := 6) (v := .int sz_) (C := RX6) (T := TX6) (N := 3) hx hb hts inB6 hown hE.1 hP 0 rfl rfl 1 (by decide) (hts _ m_447) (fun _ h9 => h9) rfl dX6_holdsFewCells_23 ?_
            refine lv_icmp_ge (tgt := 48) hx hb dX6_holdsFewCells_26 (by decide) (fun _ => ?_) (fun h9 => absurd ‹sz_ ≤ 8› h9)
            refine lv_iconst (v := 1) hx hb dX6_holdsFewCells_48 (by decide) ?_
            exact W.zret (v := 1) hx hb hr rfl (fun t ht hW => ⟨1, rfl, trivial, ht⟩) (fun _ h => by cases h) dX6_holdsFewCells_49
      exact lp3 (8 + 1) 0 (Nat.zero_le _) (by omega) ls (lv_sub hl [0, 1] rfl)
    · refine lv_iconst (v := 0) hx hb dX6_holdsFewCells_17 (by decide) ?_
      exact W.zret (v := 0) hx hb hr rfl (fun t ht hW => ⟨0, rfl, trivial, ht⟩) (fun _ h => by cases h) dX6_holdsFewCells_18
