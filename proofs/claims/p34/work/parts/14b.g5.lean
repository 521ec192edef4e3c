def B_c_X9_addYes (G : va_G) (cy : Nat → ClassId) (A : Nat → Prop) (wk : Nat) (ye : Nat) (no : Nat) (wki : Int32) (wce : Int32) (wsi : Int32) (wpi : Int32) (wlo : Int32) (wev : Int32) (wgo : Int32) (wbu : Int32) (wcl : Int32) (fy : Nat → Int32) (fn : Nat → Int32) (v : Int32) (mo : Int32) (H : Heap) : Prop := ∃ (gy : Nat → Int32) (gn : Nat → Int32), va_P G classes [(wk, .inr (9, [.int wki, .int wce, .int wsi, .int wpi, .int wlo, .int wev, .int wgo, .int wbu, .int wcl, .ref ye, .ref no])), (ye, .inl (cy 0, 192, .inl gy)), (no, .inl (cy 0, 192, .inl gn))] H ∧ va_D A [(wk, .inr (9, [.int wki, .int wce, .int wsi, .int wpi, .int wlo, .int wev, .int wgo, .int wbu, .int wcl, .ref ye, .ref no])), (ye, .inl (cy 0, 192, .inl gy)), (no, .inl (cy 0, 192, .inl gn))]
set_option maxHeartbeats 4000000 in
set_option maxRecDepth 100000 in
theorem c_X9_addYes (l : Launch) (G : va_G) (cy : Nat → ClassId) (sk sa : Nat → Nat) (sz : Nat) (wk : Nat) (ye : Nat) (no : Nat) (wki : Int32) (wce : Int32) (wsi : Int32) (wpi : Int32) (wlo : Int32) (wev : Int32) (wgo : Int32) (wbu : Int32) (wcl : Int32) (fy : Nat → Int32) (fn : Nat → Int32) (v : Int32) (mo : Int32)  : Met l yX9_addYes (wsO yX9_addYes cX9_addYes 3 none) ({ frames := 1, cells := 0, slots := 0, locals := 20 }) (va_Pc [.ref wk, .int v, .int mo] (PG G cy sk sa sz [(wk, .inr (9, [.int wki, .int wce, .int wsi, .int wpi, .int wlo, .int wev, .int wgo, .int wbu, .int wcl, .ref ye, .ref no])), (ye, .inl (cy 0, 192, .inl fy)), (no, .inl (cy 0, 192, .inl fn))])) (va_Qv (fun (_ : Unit) => True) (fun _ t => B_c_X9_addYes G cy (va_A [(wk, .inr (9, [.int wki, .int wce, .int wsi, .int wpi, .int wlo, .int wev, .int wgo, .int wbu, .int wcl, .ref ye, .ref no])), (ye, .inl (cy 0, 192, .inl fy)), (no, .inl (cy 0, 192, .inl fn))] sz) wk ye no wki wce wsi wpi wlo wev wgo wbu wcl fy fn v mo t.heap) (va_A [(wk, .inr (9, [.int wki, .int wce, .int wsi, .int wpi, .int wlo, .int wev, .int wgo, .int wbu, .int wcl, .ref ye, .ref no])), (ye, .inl (cy 0, 192, .inl fy)), (no, .inl (cy 0, 192, .inl fn))] sz)) 0 0 (va_A [(wk, .inr (9, [.int wki, .int wce, .int wsi, .int wpi, .int wlo, .int wev, .int wgo, .int wbu, .int wcl, .ref ye, .ref no])), (ye, .inl (cy 0, 192, .inl fy)), (no, .inl (cy 0, 192, .inl fn))] sz) := by
  refine mgw (Qc := fun A => (va_Qv (fun (_ : Unit) => True) (fun _ t => B_c_X9_addYes G cy A wk ye no wki wce wsi wpi wlo wev wgo wbu wcl fy fn v mo t.heap) A)) (by decide) (Nat.le_of_ble_eq_true rfl) ?_
  intro p e s m below meth c ls A hx hb hr hml hts hown hlocks hin hP hE hD hS hA hT hl
  have hl : lv_has ls 3 [(0, .ref wk), (1, .int v), (2, .int mo)] := hl
  refine lv_iload_n hx hb dX9_addYes_0 rfl (lv_at hl 1 rfl) ?_
  refine grS (rest := []) hx hb hml hown hts hE (c_X7_isCell l G cy sk sa s.heap.size v) kS_X7_isCell m_919 rfl rfl ⟨(Nat.le_of_ble_eq_true rfl), (Nat.le_of_ble_eq_true rfl)⟩ hP hD hS hT [] rfl rfl rfl rfl hl.1 (Nat.le_of_ble_eq_true rfl) dX9_addYes_1 ⟨(Nat.le_of_ble_eq_true rfl), (Nat.le_of_ble_eq_true rfl)⟩ (fun r_1 hr_ => ?_)
  rcases hr_ with ⟨rfl, h_2⟩ | ⟨rfl, h_2⟩
  · refine lv_if_eq (tgt := 26) hx hb dX9_addYes_4 (by decide) (fun h9 => absurd h9 (by decide)) (fun _ => ?_)
    refine lv_aload_n hx hb dX9_addYes_7 rfl (lv_at hl 0 rfl) ?_
    refine va_get (D := G) (ci := 9) (v := .ref ye) (C := RX9) (T := TX9) (N := 11) hx hb hts inB9 hown hE.1 hP 0 rfl rfl 9 (by decide) (hts _ m_282) (fun _ h9 => h9) rfl dX9_addYes_8 ?_
    refine lv_iload_n hx hb dX9_addYes_11 rfl (lv_at hl 1 rfl) ?_
    refine lv_bipush (v := 99) hx hb dX9_addYes_12 (by decide) ?_
    refine lv_aload_n hx hb dX9_addYes_14 rfl (lv_at hl 0 rfl) ?_
    refine va_get (D := G) (ci := 9) (v := .ref ye) (C := RX9) (T := TX9) (N := 11) hx hb hts inB9 hown hE.1 hP 0 rfl rfl 9 (by decide) (hts _ m_282) (fun _ h9 => h9) rfl dX9_addYes_15 ?_
    refine lv_iload_n hx hb dX9_addYes_18 rfl (lv_at hl 1 rfl) ?_
    refine va_iald hx hb hE.1 hP 1 0 rfl rfl (vinB h_2 (by decide) (by decide)) dX9_addYes_19 ?_
    refine lv_topi (fun y3 ey3 => ?_)
    refine lv_iload_n hx hb dX9_addYes_20 rfl (lv_at hl 2 rfl) ?_
    refine lv_iadd hx hb dX9_addYes_21 ?_
    refine va_mmin hx hb (hml.trans hl.1.symm) hown (hts _ m_920) (hts _ m_770) (hts _ m_86) (hts _ m_771) (Nat.le_of_ble_eq_true rfl) (Nat.le_of_ble_eq_true rfl) (Nat.le_of_ble_eq_true rfl) (Nat.le_of_ble_eq_true rfl) dX9_addYes_22 ?_
    refine lv_topi (fun z4 ez4 => ?_)
    refine va_iast hx hb hE.1 hP hD hS 1 0 rfl rfl (vinB h_2 (by decide) (by decide)) dX9_addYes_25 (fun H locs hP hD hS => ?_)
    have hP : va_P G classes [(wk, .inr (9, [.int wki, .int wce, .int wsi, .int wpi, .int wlo, .int wev, .int wgo, .int wbu, .int wcl, .ref ye, .ref no])), (ye, .inl (cy 0, 192, .inl (upd fy (v).toNatClampNeg z4))), (no, .inl (cy 0, 192, .inl fn))] H := hP
    have hD : va_D A [(wk, .inr (9, [.int wki, .int wce, .int wsi, .int wpi, .int wlo, .int wev, .int wgo, .int wbu, .int wcl, .ref ye, .ref no])), (ye, .inl (cy 0, 192, .inl (upd fy (v).toNatClampNeg z4))), (no, .inl (cy 0, 192, .inl fn))] := hD
    have hP9 := P_cut (wc := [(wk, .inr (9, [.int wki, .int wce, .int wsi, .int wpi, .int wlo, .int wev, .int wgo, .int wbu, .int wcl, .ref ye, .ref no])), (ye, .inl (cy 0, 192, .inl (upd fy (v).toNatClampNeg z4))), (no, .inl (cy 0, 192, .inl fn))]) hP [0, 1, 2] rfl
    have hD9 := hD.sub (ws' := [(wk, .inr (9, [.int wki, .int wce, .int wsi, .int wpi, .int wlo, .int wev, .int wgo, .int wbu, .int wcl, .ref ye, .ref no])), (ye, .inl (cy 0, 192, .inl (upd fy (v).toNatClampNeg z4))), (no, .inl (cy 0, 192, .inl fn))]) [0, 1, 2] (by decide) rfl
    refine W.widen (k := 0) (n := 0) (by first | exact Nat.le_of_ble_eq_true rfl | omega) (by first | exact Nat.le_of_ble_eq_true rfl | omega) ?_
    exact W.vret hx hb hr (fun t ht hW => ⟨⟨(), rfl, trivial, by dsimp only; rw [ht]; exact ⟨(upd fy (v).toNatClampNeg z4), fn, hP9, hD9⟩⟩, hS.F ht⟩) hS.2.2 dX9_addYes_26
  · refine lv_if_eq (tgt := 26) hx hb dX9_addYes_4 (by decide) (fun _ => ?_) (fun h9 => absurd h9 (by decide))
    have hP9 := P_cut (wc := [(wk, .inr (9, [.int wki, .int wce, .int wsi, .int wpi, .int wlo, .int wev, .int wgo, .int wbu, .int wcl, .ref ye, .ref no])), (ye, .inl (cy 0, 192, .inl fy)), (no, .inl (cy 0, 192, .inl fn))]) hP [0, 1, 2] rfl
    have hD9 := hD.sub (ws' := [(wk, .inr (9, [.int wki, .int wce, .int wsi, .int wpi, .int wlo, .int wev, .int wgo, .int wbu, .int wcl, .ref ye, .ref no])), (ye, .inl (cy 0, 192, .inl fy)), (no, .inl (cy 0, 192, .inl fn))]) [0, 1, 2] (by decide) rfl
    refine W.widen (k := 0) (n := 0) (by first | exact Nat.le_of_ble_eq_true rfl | omega) (by first | exact Nat.le_of_ble_eq_true rfl | omega) ?_
    exact W.vret hx hb hr (fun t ht hW => ⟨⟨(), rfl, trivial, by dsimp only; rw [ht]; exact ⟨fy, fn, hP9, hD9⟩⟩, hS.F ht⟩) hS.2.2 dX9_addYes_26
def B_c_X9_addNo (G : va_G) (cy : Nat → ClassId) (A : Nat → Prop) (wk : Nat) (ye : Nat) (no : Nat) (wki : Int32) (wce : Int32) (wsi : Int32) (wpi : Int32) (wlo : Int32) (wev : Int32) (wgo : Int32) (wbu : Int32) (wcl : Int32) (fy : Nat → Int32) (fn : Nat → Int32) (v : Int32) (H : Heap) : Prop := ∃ (gy : Nat → Int32) (gn : Nat → Int32), va_P G classes [(wk, .inr (9, [.int wki, .int wce, .int wsi, .int wpi, .int wlo, .int wev, .int wgo, .int wbu, .int wcl, .ref ye, .ref no])), (ye, .inl (cy 0, 192, .inl gy)), (no, .inl (cy 0, 192, .inl gn))] H ∧ va_D A [(wk, .inr (9, [.int wki, .int wce, .int wsi, .int wpi, .int wlo, .int wev, .int wgo, .int wbu, .int wcl, .ref ye, .ref no])), (ye, .inl (cy 0, 192, .inl gy)), (no, .inl (cy 0, 192, .inl gn))]
set_option maxHeartbeats 4000000 in
set_option maxRecDepth 100000 in
theorem c_X9_addNo (l : Launch) (G : va_G) (cy : Nat → ClassId) (sk sa : Nat → Nat) (sz : Nat) (wk : Nat) (ye : Nat) (no : Nat) (wki : Int32) (wce : Int32) (wsi : Int32) (wpi : Int32) (wlo : Int32) (wev : Int32) (wgo : Int32) (wbu : Int32) (wcl : Int32) (fy : Nat → Int32) (fn : Nat → Int32) (v : Int32)  : Met l yX9_addNo (wsO yX9_addNo cX9_addNo 2 none) ({ frames := 1, cells := 0, slots := 0, locals := 20 }) (va_Pc [.ref wk, .int v] (PG G cy sk sa sz [(wk, .inr (9, [.int wki, .int wce, .int wsi, .int wpi, .int wlo, .int wev, .int wgo, .int wbu, .int wcl, .ref ye, .ref no])), (ye, .inl (cy 0, 192, .inl fy)), (no, .inl (cy 0, 192, .inl fn))])) (va_Qv (fun (_ : Unit) => True) (fun _ t => B_c_X9_addNo G cy (va_A [(wk, .inr (9, [.int wki, .int wce, .int wsi, .int wpi, .int wlo, .int wev, .int wgo, .int wbu, .int wcl, .ref ye, .ref no])), (ye, .inl (cy 0, 192, .inl fy)), (no, .inl (cy 0, 192, .inl fn))] sz) wk ye no wki wce wsi wpi wlo wev wgo wbu wcl fy fn v t.heap) (va_A [(wk, .inr (9, [.int wki, .int wce, .int wsi, .int wpi, .int wlo, .int wev, .int wgo, .int wbu, .int wcl, .ref ye, .ref no])), (ye, .inl (cy 0, 192, .inl fy)), (no, .inl (cy 0, 192, .inl fn))] sz)) 0 0 (va_A [(wk, .inr (9, [.int wki, .int wce, .int wsi, .int wpi, .int wlo, .int wev, .int wgo, .int wbu, .int wcl, .ref ye, .ref no])), (ye, .inl (cy 0, 192, .inl fy)), (no, .inl (cy 0, 192, .inl fn))] sz) := by
  refine mgw (Qc := fun A => (va_Qv (fun (_ : Unit) => True) (fun _ t => B_c_X9_addNo G cy A wk ye no wki wce wsi wpi wlo wev wgo wbu wcl fy fn v t.heap) A)) (by decide) (Nat.le_of_ble_eq_true rfl) ?_
  intro p e s m below meth c ls A hx hb hr hml hts hown hlocks hin hP hE hD hS hA hT hl
  have hl : lv_has ls 2 [(0, .ref wk), (1, .int v)] := hl
  refine lv_iload_n hx hb dX9_addNo_0 rfl (lv_at hl 1 rfl) ?_
  refine grS (rest := []) hx hb hml hown hts hE (c_X7_isCell l G cy sk sa s.heap.size v) kS_X7_isCell m_919 rfl rfl ⟨(Nat.le_of_ble_eq_true rfl), (Nat.le_of_ble_eq_true rfl)⟩ hP hD hS hT [] rfl rfl rfl rfl hl.1 (Nat.le_of_ble_eq_true rfl) dX9_addNo_1 ⟨(Nat.le_of_ble_eq_true rfl), (Nat.le_of_ble_eq_true rfl)⟩ (fun r_1 hr_ => ?_)
  rcases hr_ with ⟨rfl, h_2⟩ | ⟨rfl, h_2⟩
  · refine lv_if_eq (tgt := 26) hx hb dX9_addNo_4 (by decide) (fun h9 => absurd h9 (by decide)) (fun _ => ?_)
    refine lv_aload_n hx hb dX9_addNo_7 rfl (lv_at hl 0 rfl) ?_
    refine va_get (D := G) (ci := 9) (v := .ref no) (C := RX9) (T := TX9) (N := 11) hx hb hts inB9 hown hE.1 hP 0 rfl rfl 10 (by decide) (hts _ m_284) (fun _ h9 => h9) rfl dX9_addNo_8 ?_
    refine lv_iload_n hx hb dX9_addNo_11 rfl (lv_at hl 1 rfl) ?_
    refine lv_bipush (v := 99) hx hb dX9_addNo_12 (by decide) ?_
    refine lv_aload_n hx hb dX9_addNo_14 rfl (lv_at hl 0 rfl) ?_
    refine va_get (D := G) (ci := 9) (v := .ref no) (C := RX9) (T := TX9) (N := 11) hx hb hts inB9 hown hE.1 hP 0 rfl rfl 10 (by decide) (hts _ m_284) (fun _ h9 => h9) rfl dX9_addNo_15 ?_
    refine lv_iload_n hx hb dX9_addNo_18 rfl (lv_at hl 1 rfl) ?_
    refine va_iald hx hb hE.1 hP 2 0 rfl rfl (vinB h_2 (by decide) (by decide)) dX9_addNo_19 ?_
    refine lv_topi (fun y3 ey3 => ?_)
    refine lv_iconst (v := 1) hx hb dX9_addNo_20 (by decide) ?_
    refine lv_iadd hx hb dX9_addNo_21 ?_
    refine va_mmin hx hb (hml.trans hl.1.symm) hown (hts _ m_920) (hts _ m_770) (hts _ m_86) (hts _ m_771) (Nat.le_of_ble_eq_true rfl) (Nat.le_of_ble_eq_true rfl) (Nat.le_of_ble_eq_true rfl) (Nat.le_of_ble_eq_true rfl) dX9_addNo_22 ?_
    refine lv_topi (fun z4 ez4 => ?_)
    refine va_iast hx hb hE.1 hP hD hS 2 0 rfl rfl (vinB h_2 (by decide) (by decide)) dX9_addNo_25 (fun H locs hP hD hS => ?_)
    have hP : va_P G classes [(wk, .inr (9, [.int wki, .int wce, .int wsi, .int wpi, .int wlo, .int wev, .int wgo, .int wbu, .int wcl, .ref ye, .ref no])), (ye, .inl (cy 0, 192, .inl fy)), (no, .inl (cy 0, 192, .inl (upd fn (v).toNatClampNeg z4)))] H := hP
    have hD : va_D A [(wk, .inr (9, [.int wki, .int wce, .int wsi, .int wpi, .int wlo, .int wev, .int wgo, .int wbu, .int wcl, .ref ye, .ref no])), (ye, .inl (cy 0, 192, .inl fy)), (no, .inl (cy 0, 192, .inl (upd fn (v).toNatClampNeg z4)))] := hD
    have hP9 := P_cut (wc := [(wk, .inr (9, [.int wki, .int wce, .int wsi, .int wpi, .int wlo, .int wev, .int wgo, .int wbu, .int wcl, .ref ye, .ref no])), (ye, .inl (cy 0, 192, .inl fy)), (no, .inl (cy 0, 192, .inl (upd fn (v).toNatClampNeg z4)))]) hP [0, 1, 2] rfl
    have hD9 := hD.sub (ws' := [(wk, .inr (9, [.int wki, .int wce, .int wsi, .int wpi, .int wlo, .int wev, .int wgo, .int wbu, .int wcl, .ref ye, .ref no])), (ye, .inl (cy 0, 192, .inl fy)), (no, .inl (cy 0, 192, .inl (upd fn (v).toNatClampNeg z4)))]) [0, 1, 2] (by decide) rfl
    refine W.widen (k := 0) (n := 0) (by first | exact Nat.le_of_ble_eq_true rfl | omega) (by first | exact Nat.le_of_ble_eq_true rfl | omega) ?_
    exact W.vret hx hb hr (fun t ht hW => ⟨⟨(), rfl, trivial, by dsimp only; rw [ht]; exact ⟨fy, (upd fn (v).toNatClampNeg z4), hP9, hD9⟩⟩, hS.F ht⟩) hS.2.2 dX9_addNo_26
  · refine lv_if_eq (tgt := 26) hx hb dX9_addNo_4 (by decide) (fun _ => ?_) (fun h9 => absurd h9 (by decide))
    have hP9 := P_cut (wc := [(wk, .inr (9, [.int wki, .int wce, .int wsi, .int wpi, .int wlo, .int wev, .int wgo, .int wbu, .int wcl, .ref ye, .ref no])), (ye, .inl (cy 0, 192, .inl fy)), (no, .inl (cy 0, 192, .inl fn))]) hP [0, 1, 2] rfl
    have hD9 := hD.sub (ws' := [(wk, .inr (9, [.int wki, .int wce, .int wsi, .int wpi, .int wlo, .int wev, .int wgo, .int wbu, .int wcl, .ref ye, .ref no])), (ye, .inl (cy 0, 192, .inl fy)), (no, .inl (cy 0, 192, .inl fn))]) [0, 1, 2] (by decide) rfl
    refine W.widen (k := 0) (n := 0) (by first | exact Nat.le_of_ble_eq_true rfl | omega) (by first | exact Nat.le_of_ble_eq_true rfl | omega) ?_
    exact W.vret hx hb hr (fun t ht hW => ⟨⟨(), rfl, trivial, by dsimp only; rw [ht]; exact ⟨fy, fn, hP9, hD9⟩⟩, hS.F ht⟩) hS.2.2 dX9_addNo_26
set_option maxHeartbeats 4000000 in
set_option maxRecDepth 100000 in
theorem c_X9_yardsToFull (l : Launch) (G : va_G) (cy : Nat → ClassId) (sk sa : Nat → Nat) (sz : Nat) (wk : Nat) (ye : Nat) (no : Nat) (wki : Int32) (wce : Int32) (wsi : Int32) (wpi : Int32) (wlo : Int32) (wev : Int32) (wgo : Int32) (wbu : Int32) (wcl : Int32) (fy : Nat → Int32) (fn : Nat → Int32) (v : Int32)  : Met l yX9_yardsToFull (wsO yX9_yardsToFull cX9_yardsToFull 3 (some .int)) ({ frames := 2, cells := 0, slots := 0, locals := 44 }) (va_Pc [.ref wk, .int v] (PG G cy sk sa sz [(wk, .inr (9, [.int wki, .int wce, .int wsi, .int wpi, .int wlo, .int wev, .int wgo, .int wbu, .int wcl, .ref ye, .ref no])), (ye, .inl (cy 0, 192, .inl fy)), (no, .inl (cy 0, 192, .inl fn))])) (vp_Si (fun _ => True)) 0 0 (fun _ => False) := by
  refine mgr (by decide) (Nat.le_of_ble_eq_true rfl) ?_
  intro p e s m below meth c ls A hx hb hr hml hts hown hlocks hin hsz hP hE hD hS hT hl
  subst hsz
  have hl : lv_has ls 3 [(0, .ref wk), (1, .int v)] := hl
  refine lv_iconst (v := 1) hx hb dX9_yardsToFull_0 (by decide) ?_
  refine lv_istore_n (lv' := [(2, .int 1), (0, .ref wk), (1, .int v)]) hx hb dX9_yardsToFull_1 rfl hl (by decide) rfl (fun ls hl => ?_)
  refine lv_iload_n hx hb dX9_yardsToFull_2 rfl (lv_at hl 0 rfl) ?_
  refine lv_bipush (v := 9) hx hb dX9_yardsToFull_3 (by decide) ?_
  refine lv_icmp_gt (tgt := 33) hx hb dX9_yardsToFull_5 (by decide) (fun h9 => absurd h9 (by decide)) (fun _ => ?_)
  refine lv_aload_n hx hb dX9_yardsToFull_8 rfl (lv_at hl 1 rfl) ?_
  refine lv_aload_n hx hb dX9_yardsToFull_9 rfl (lv_at hl 1 rfl) ?_
  refine va_get (D := G) (ci := 9) (v := .int wce) (C := RX9) (T := TX9) (N := 11) hx hb hts inB9 hown hE.1 hP 0 rfl rfl 1 (by decide) (hts _ m_260) (fun _ h9 => h9) rfl dX9_yardsToFull_10 ?_
  refine lv_iload_n hx hb dX9_yardsToFull_13 rfl (lv_at hl 2 rfl) ?_
  refine lv_iload_n hx hb dX9_yardsToFull_14 rfl (lv_at hl 0 rfl) ?_
  refine grS (rest := [.ref wk]) hx hb hml hown hts hE (c_X7_cellFrom l G cy sk sa s.heap.size wce v 1) kS_X7_cellFrom m_1049 rfl rfl ⟨(Nat.le_of_ble_eq_true rfl), (Nat.le_of_ble_eq_true rfl)⟩ hP hD hS hT [] rfl rfl rfl rfl hl.1 (Nat.le_of_ble_eq_true rfl) dX9_yardsToFull_15 ⟨Nat.zero_le _, Nat.zero_le _⟩ (fun r_1 hr_ => ?_)
  have h_2 := hr_
  refine grV (rest := []) hx hb hml hown hts hE (c_X9_held l G cy sk sa s.heap.size wk ye no wki wce wsi wpi wlo wev wgo wbu wcl fy fn r_1) kV_X9_held m_946 rfl rfl ⟨(Nat.le_of_ble_eq_true rfl), (Nat.le_of_ble_eq_true rfl)⟩ hP hD hS hT 0 rfl rfl rfl [0, 1, 2] rfl rfl rfl rfl hl.1 (Nat.le_of_ble_eq_true rfl) dX9_yardsToFull_18 ⟨Nat.zero_le _, Nat.zero_le _⟩ (fun r_3 hr_ => ?_)
  refine lv_iconst (v := 2) hx hb dX9_yardsToFull_21 (by decide) ?_
  refine lv_icmp_ne (tgt := 27) hx hb dX9_yardsToFull_22 (by decide) (fun c_4 => ?_) (fun c_4 => ?_)
  · refine lv_iinc (v := 2) (lv' := [(2, .int 2), (0, .ref wk), (1, .int v)]) hx hb dX9_yardsToFull_27 hl (k := 0) rfl (by decide) (by decide) rfl (fun ls hl => ?_)
    refine lv_goto (tgt := 2) hx hb dX9_yardsToFull_30 (by decide) ?_
    refine lv_iload_n hx hb dX9_yardsToFull_2 rfl (lv_at hl 0 rfl) ?_
    refine lv_bipush (v := 9) hx hb dX9_yardsToFull_3 (by decide) ?_
    refine lv_icmp_gt (tgt := 33) hx hb dX9_yardsToFull_5 (by decide) (fun h9 => absurd h9 (by decide)) (fun _ => ?_)
    refine lv_aload_n hx hb dX9_yardsToFull_8 rfl (lv_at hl 1 rfl) ?_
    refine lv_aload_n hx hb dX9_yardsToFull_9 rfl (lv_at hl 1 rfl) ?_
    refine va_get (D := G) (ci := 9) (v := .int wce) (C := RX9) (T := TX9) (N := 11) hx hb hts inB9 hown hE.1 hP 0 rfl rfl 1 (by decide) (hts _ m_260) (fun _ h9 => h9) rfl dX9_yardsToFull_10 ?_
    refine lv_iload_n hx hb dX9_yardsToFull_13 rfl (lv_at hl 2 rfl) ?_
    refine lv_iload_n hx hb dX9_yardsToFull_14 rfl (lv_at hl 0 rfl) ?_
    refine grS (rest := [.ref wk]) hx hb hml hown hts hE (c_X7_cellFrom l G cy sk sa s.heap.size wce v 2) kS_X7_cellFrom m_1049 rfl rfl ⟨(Nat.le_of_ble_eq_true rfl), (Nat.le_of_ble_eq_true rfl)⟩ hP hD hS hT [] rfl rfl rfl rfl hl.1 (Nat.le_of_ble_eq_true rfl) dX9_yardsToFull_15 ⟨Nat.zero_le _, Nat.zero_le _⟩ (fun r_5 hr_ => ?_)
    have h_6 := hr_
    refine grV (rest := []) hx hb hml hown hts hE (c_X9_held l G cy sk sa s.heap.size wk ye no wki wce wsi wpi wlo wev wgo wbu wcl fy fn r_5) kV_X9_held m_946 rfl rfl ⟨(Nat.le_of_ble_eq_true rfl), (Nat.le_of_ble_eq_true rfl)⟩ hP hD hS hT 0 rfl rfl rfl [0, 1, 2] rfl rfl rfl rfl hl.1 (Nat.le_of_ble_eq_true rfl) dX9_yardsToFull_18 ⟨Nat.zero_le _, Nat.zero_le _⟩ (fun r_7 hr_ => ?_)
    refine lv_iconst (v := 2) hx hb dX9_yardsToFull_21 (by decide) ?_
    refine lv_icmp_ne (tgt := 27) hx hb dX9_yardsToFull_22 (by decide) (fun c_8 => ?_) (fun c_8 => ?_)
    · refine lv_iinc (v := 3) (lv' := [(2, .int 3), (0, .ref wk), (1, .int v)]) hx hb dX9_yardsToFull_27 hl (k := 0) rfl (by decide) (by decide) rfl (fun ls hl => ?_)
      refine lv_goto (tgt := 2) hx hb dX9_yardsToFull_30 (by decide) ?_
      refine lv_iload_n hx hb dX9_yardsToFull_2 rfl (lv_at hl 0 rfl) ?_
      refine lv_bipush (v := 9) hx hb dX9_yardsToFull_3 (by decide) ?_
      refine lv_icmp_gt (tgt := 33) hx hb dX9_yardsToFull_5 (by decide) (fun h9 => absurd h9 (by decide)) (fun _ => ?_)
      refine lv_aload_n hx hb dX9_yardsToFull_8 rfl (lv_at hl 1 rfl) ?_
      refine lv_aload_n hx hb dX9_yardsToFull_9 rfl (lv_at hl 1 rfl) ?_
      refine va_get (D := G) (ci := 9) (v := .int wce) (C := RX9) (T := TX9) (N := 11) hx hb hts inB9 hown hE.1 hP 0 rfl rfl 1 (by decide) (hts _ m_260) (fun _ h9 => h9) rfl dX9_yardsToFull_10 ?_
      refine lv_iload_n hx hb dX9_yardsToFull_13 rfl (lv_at hl 2 rfl) ?_
      refine lv_iload_n hx hb dX9_yardsToFull_14 rfl (lv_at hl 0 rfl) ?_
      refine grS (rest := [.ref wk]) hx hb hml hown hts hE (c_X7_cellFrom l G cy sk sa s.heap.size wce v 3) kS_X7_cellFrom m_1049 rfl rfl ⟨(Nat.le_of_ble_eq_true rfl), (Nat.le_of_ble_eq_true rfl)⟩ hP hD hS hT [] rfl rfl rfl rfl hl.1 (Nat.le_of_ble_eq_true rfl) dX9_yardsToFull_15 ⟨Nat.zero_le _, Nat.zero_le _⟩ (fun r_9 hr_ => ?_)
      have h_10 := hr_
      refine grV (rest := []) hx hb hml hown hts hE (c_X9_held l G cy sk sa s.heap.size wk ye no wki wce wsi wpi wlo wev wgo wbu wcl fy fn r_9) kV_X9_held m_946 rfl rfl ⟨(Nat.le_of_ble_eq_true rfl), (Nat.le_of_ble_eq_true rfl)⟩ hP hD hS hT 0 rfl rfl rfl [0, 1, 2] rfl rfl rfl rfl hl.1 (Nat.le_of_ble_eq_true rfl) dX9_yardsToFull_18 ⟨Nat.zero_le _, Nat.zero_le _⟩ (fun r_11 hr_ => ?_)
      refine lv_iconst (v := 2) hx hb dX9_yardsToFull_21 (by decide) ?_
      refine lv_icmp_ne (tgt := 27) hx hb dX9_yardsToFull_22 (by decide) (fun c_12 => ?_) (fun c_12 => ?_)
      · refine lv_iinc (v := 4) (lv' := [(2, .int 4), (0, .ref wk), (1, .int v)]) hx hb dX9_yardsToFull_27 hl (k := 0) rfl (by decide) (by decide) rfl (fun ls hl => ?_)
        refine lv_goto (tgt := 2) hx hb dX9_yardsToFull_30 (by decide) ?_
        refine lv_iload_n hx hb dX9_yardsToFull_2 rfl (lv_at hl 0 rfl) ?_
        refine lv_bipush (v := 9) hx hb dX9_yardsToFull_3 (by decide) ?_
        refine lv_icmp_gt (tgt := 33) hx hb dX9_yardsToFull_5 (by decide) (fun h9 => absurd h9 (by decide)) (fun _ => ?_)
        refine lv_aload_n hx hb dX9_yardsToFull_8 rfl (lv_at hl 1 rfl) ?_
        refine lv_aload_n hx hb dX9_yardsToFull_9 rfl (lv_at hl 1 rfl) ?_
        refine va_get (D := G) (ci := 9) (v := .int wce) (C := RX9) (T := TX9) (N := 11) hx hb hts inB9 hown hE.1 hP 0 rfl rfl 1 (by decide) (hts _ m_260) (fun _ h9 => h9) rfl dX9_yardsToFull_10 ?_
        refine lv_iload_n hx hb dX9_yardsToFull_13 rfl (lv_at hl 2 rfl) ?_
        refine lv_iload_n hx hb dX9_yardsToFull_14 rfl (lv_at hl 0 rfl) ?_
        refine grS (rest := [.ref wk]) hx hb hml hown hts hE (c_X7_cellFrom l G cy sk sa s.heap.size wce v 4) kS_X7_cellFrom m_1049 rfl rfl ⟨(Nat.le_of_ble_eq_true rfl), (Nat.le_of_ble_eq_true rfl)⟩ hP hD hS hT [] rfl rfl rfl rfl hl.1 (Nat.le_of_ble_eq_true rfl) dX9_yardsToFull_15 ⟨Nat.zero_le _, Nat.zero_le _⟩ (fun r_13 hr_ => ?_)
        have h_14 := hr_
        refine grV (rest := []) hx hb hml hown hts hE (c_X9_held l G cy sk sa s.heap.size wk ye no wki wce wsi wpi wlo wev wgo wbu wcl fy fn r_13) kV_X9_held m_946 rfl rfl ⟨(Nat.le_of_ble_eq_true rfl), (Nat.le_of_ble_eq_true rfl)⟩ hP hD hS hT 0 rfl rfl rfl [0, 1, 2] rfl rfl rfl rfl hl.1 (Nat.le_of_ble_eq_true rfl) dX9_yardsToFull_18 ⟨Nat.zero_le _, Nat.zero_le _⟩ (fun r_15 hr_ => ?_)
        refine lv_iconst (v := 2) hx hb dX9_yardsToFull_21 (by decide) ?_
        refine lv_icmp_ne (tgt := 27) hx hb dX9_yardsToFull_22 (by decide) (fun c_16 => ?_) (fun c_16 => ?_)
        · refine lv_iinc (v := 5) (lv' := [(2, .int 5), (0, .ref wk), (1, .int v)]) hx hb dX9_yardsToFull_27 hl (k := 0) rfl (by decide) (by decide) rfl (fun ls hl => ?_)
          refine lv_goto (tgt := 2) hx hb dX9_yardsToFull_30 (by decide) ?_
          refine lv_iload_n hx hb dX9_yardsToFull_2 rfl (lv_at hl 0 rfl) ?_
          refine lv_bipush (v := 9) hx hb dX9_yardsToFull_3 (by decide) ?_
          refine lv_icmp_gt (tgt := 33) hx hb dX9_yardsToFull_5 (by decide) (fun h9 => absurd h9 (by decide)) (fun _ => ?_)
          refine lv_aload_n hx hb dX9_yardsToFull_8 rfl (lv_at hl 1 rfl) ?_
          refine lv_aload_n hx hb dX9_yardsToFull_9 rfl (lv_at hl 1 rfl) ?_
          refine va_get (D := G) (ci := 9) (v := .int wce) (C := RX9) (T := TX9) (N := 11) hx hb hts inB9 hown hE.1 hP 0 rfl rfl 1 (by decide) (hts _ m_260) (fun _ h9 => h9) rfl dX9_yardsToFull_10 ?_
          refine lv_iload_n hx hb dX9_yardsToFull_13 rfl (lv_at hl 2 rfl) ?_
          refine lv_iload_n hx hb dX9_yardsToFull_14 rfl (lv_at hl 0 rfl) ?_
          refine grS (rest := [.ref wk]) hx hb hml hown hts hE (c_X7_cellFrom l G cy sk sa s.heap.size wce v 5) kS_X7_cellFrom m_1049 rfl rfl ⟨(Nat.le_of_ble_eq_true rfl), (Nat.le_of_ble_eq_true rfl)⟩ hP hD hS hT [] rfl rfl rfl rfl hl.1 (Nat.le_of_ble_eq_true rfl) dX9_yardsToFull_15 ⟨Nat.zero_le _, Nat.zero_le _⟩ (fun r_17 hr_ => ?_)
          have h_18 := hr_
          refine grV (rest := []) hx hb hml hown hts hE (c_X9_held l G cy sk sa s.heap.size wk ye no wki wce wsi wpi wlo wev wgo wbu wcl fy fn r_17) kV_X9_held m_946 rfl rfl ⟨(Nat.le_of_ble_eq_true rfl), (Nat.le_of_ble_eq_true rfl)⟩ hP hD hS hT 0 rfl rfl rfl [0, 1, 2] rfl rfl rfl rfl hl.1 (Nat.le_of_ble_eq_true rfl) dX9_yardsToFull_18 ⟨Nat.zero_le _, Nat.zero_le _⟩ (fun r_19 hr_ => ?_)
          refine lv_iconst (v := 2) hx hb dX9_yardsToFull_21 (by decide) ?_
          refine lv_icmp_ne (tgt := 27) hx hb dX9_yardsToFull_22 (by decide) (fun c_20 => ?_) (fun c_20 => ?_)
          · refine lv_iinc (v := 6) (lv' := [(2, .int 6), (0, .ref wk), (1, .int v)]) hx hb dX9_yardsToFull_27 hl (k := 0) rfl (by decide) (by decide) rfl (fun ls hl => ?_)
            refine lv_goto (tgt := 2) hx hb dX9_yardsToFull_30 (by decide) ?_
            refine lv_iload_n hx hb dX9_yardsToFull_2 rfl (lv_at hl 0 rfl) ?_
            refine lv_bipush (v := 9) hx hb dX9_yardsToFull_3 (by decide) ?_
            refine lv_icmp_gt (tgt := 33) hx hb dX9_yardsToFull_5 (by decide) (fun h9 => absurd h9 (by decide)) (fun _ => ?_)
            refine lv_aload_n hx hb dX9_yardsToFull_8 rfl (lv_at hl 1 rfl) ?_
            refine lv_aload_n hx hb dX9_yardsToFull_9 rfl (lv_at hl 1 rfl) ?_
            refine va_get (D := G) (ci := 9) (v := .int wce) (C := RX9) (T := TX9) (N := 11) hx hb hts inB9 hown hE.1 hP 0 rfl rfl 1 (by decide) (hts _ m_260) (fun _ h9 => h9) rfl dX9_yardsToFull_10 ?_
            refine lv_iload_n hx hb dX9_yardsToFull_13 rfl (lv_at hl 2 rfl) ?_
            refine lv_iload_n hx hb dX9_yardsToFull_14 rfl (lv_at hl 0 rfl) ?_
            refine grS (rest := [.ref wk]) hx hb hml hown hts hE (c_X7_cellFrom l G cy sk sa s.heap.size wce v 6) kS_X7_cellFrom m_1049 rfl rfl ⟨(Nat.le_of_ble_eq_true rfl), (Nat.le_of_ble_eq_true rfl)⟩ hP hD hS hT [] rfl rfl rfl rfl hl.1 (Nat.le_of_ble_eq_true rfl) dX9_yardsToFull_15 ⟨Nat.zero_le _, Nat.zero_le _⟩ (fun r_21 hr_ => ?_)
            have h_22 := hr_
            refine grV (rest := []) hx hb hml hown hts hE (c_X9_held l G cy sk sa s.heap.size wk ye no wki wce wsi wpi wlo wev wgo wbu wcl fy fn r_21) kV_X9_held m_946 rfl rfl ⟨(Nat.le_of_ble_eq_true rfl), (Nat.le_of_ble_eq_true rfl)⟩ hP hD hS hT 0 rfl rfl rfl [0, 1, 2] rfl rfl rfl rfl hl.1 (Nat.le_of_ble_eq_true rfl) dX9_yardsToFull_18 ⟨Nat.zero_le _, Nat.zero_le _⟩ (fun r_23 hr_ => ?_)
            refine lv_iconst (v := 2) hx hb dX9_yardsToFull_21 (by decide) ?_
            refine lv_icmp_ne (tgt := 27) hx hb dX9_yardsToFull_22 (by decide) (fun c_24 => ?_) (fun c_24 => ?_)
            · refine lv_iinc (v := 7) (lv' := [(2, .int 7), (0, .ref wk), (1, .int v)]) hx hb dX9_yardsToFull_27 hl (k := 0) rfl (by decide) (by decide) rfl (fun ls hl => ?_)
              refine lv_goto (tgt := 2) hx hb dX9_yardsToFull_30 (by decide) ?_
              refine lv_iload_n hx hb dX9_yardsToFull_2 rfl (lv_at hl 0 rfl) ?_
              refine lv_bipush (v := 9) hx hb dX9_yardsToFull_3 (by decide) ?_
              refine lv_icmp_gt (tgt := 33) hx hb dX9_yardsToFull_5 (by decide) (fun h9 => absurd h9 (by decide)) (fun _ => ?_)
              refine lv_aload_n hx hb dX9_yardsToFull_8 rfl (lv_at hl 1 rfl) ?_
              refine lv_aload_n hx hb dX9_yardsToFull_9 rfl (lv_at hl 1 rfl) ?_
              refine va_get (D := G) (ci := 9) (v := .int wce) (C := RX9) (T := TX9) (N := 11) hx hb hts inB9 hown hE.1 hP 0 rfl rfl 1 (by decide) (hts _ m_260) (fun _ h9 => h9) rfl dX9_yardsToFull_10 ?_
              refine lv_iload_n hx hb dX9_yardsToFull_13 rfl (lv_at hl 2 rfl) ?_
              refine lv_iload_n hx hb dX9_yardsToFull_14 rfl (lv_at hl 0 rfl) ?_
              refine grS (rest := [.ref wk]) hx hb hml hown hts hE (c_X7_cellFrom l G cy sk sa s.heap.size wce v 7) kS_X7_cellFrom m_1049 rfl rfl ⟨(Nat.le_of_ble_eq_true rfl), (Nat.le_of_ble_eq_true rfl)⟩ hP hD hS hT [] rfl rfl rfl rfl hl.1 (Nat.le_of_ble_eq_true rfl) dX9_yardsToFull_15 ⟨Nat.zero_le _, Nat.zero_le _⟩ (fun r_25 hr_ => ?_)
              have h_26 := hr_
              refine grV (rest := []) hx hb hml hown hts hE (c_X9_held l G cy sk sa s.heap.size wk ye no wki wce wsi wpi wlo wev wgo wbu wcl fy fn r_25) kV_X9_held m_946 rfl rfl ⟨(Nat.le_of_ble_eq_true rfl), (Nat.le_of_ble_eq_true rfl)⟩ hP hD hS hT 0 rfl rfl rfl [0, 1, 2] rfl rfl rfl rfl hl.1 (Nat.le_of_ble_eq_true rfl) dX9_yardsToFull_18 ⟨Nat.zero_le _, Nat.zero_le _⟩ (fun r_27 hr_ => ?_)
              refine lv_iconst (v := 2) hx hb dX9_yardsToFull_21 (by decide) ?_
              refine lv_icmp_ne (tgt := 27) hx hb dX9_yardsToFull_22 (by decide) (fun c_28 => ?_) (fun c_28 => ?_)
              · refine lv_iinc (v := 8) (lv' := [(2, .int 8), (0, .ref wk), (1, .int v)]) hx hb dX9_yardsToFull_27 hl (k := 0) rfl (by decide) (by decide) rfl (fun ls hl => ?_)
                refine lv_goto (tgt := 2) hx hb dX9_yardsToFull_30 (by decide) ?_
                refine lv_iload_n hx hb dX9_yardsToFull_2 rfl (lv_at hl 0 rfl) ?_
                refine lv_bipush (v := 9) hx hb dX9_yardsToFull_3 (by decide) ?_
                refine lv_icmp_gt (tgt := 33) hx hb dX9_yardsToFull_5 (by decide) (fun h9 => absurd h9 (by decide)) (fun _ => ?_)
                refine lv_aload_n hx hb dX9_yardsToFull_8 rfl (lv_at hl 1 rfl) ?_
                refine lv_aload_n hx hb dX9_yardsToFull_9 rfl (lv_at hl 1 rfl) ?_
                refine va_get (D := G) (ci := 9) (v := .int wce) (C := RX9) (T := TX9) (N := 11) hx hb hts inB9 hown hE.1 hP 0 rfl rfl 1 (by decide) (hts _ m_260) (fun _ h9 => h9) rfl dX9_yardsToFull_10 ?_
                refine lv_iload_n hx hb dX9_yardsToFull_13 rfl (lv_at hl 2 rfl) ?_
                refine lv_iload_n hx hb dX9_yardsToFull_14 rfl (lv_at hl 0 rfl) ?_
                refine grS (rest := [.ref wk]) hx hb hml hown hts hE (c_X7_cellFrom l G cy sk sa s.heap.size wce v 8) kS_X7_cellFrom m_1049 rfl rfl ⟨(Nat.le_of_ble_eq_true rfl), (Nat.le_of_ble_eq_true rfl)⟩ hP hD hS hT [] rfl rfl rfl rfl hl.1 (Nat.le_of_ble_eq_true rfl) dX9_yardsToFull_15 ⟨Nat.zero_le _, Nat.zero_le _⟩ (fun r_29 hr_ => ?_)
                have h_30 := hr_
                refine grV (rest := []) hx hb hml hown hts hE (c_X9_held l G cy sk sa s.heap.size wk ye no wki wce wsi wpi wlo wev wgo wbu wcl fy fn r_29) kV_X9_held m_946 rfl rfl ⟨(Nat.le_of_ble_eq_true rfl), (Nat.le_of_ble_eq_true rfl)⟩ hP hD hS hT 0 rfl rfl rfl [0, 1, 2] rfl rfl rfl rfl hl.1 (Nat.le_of_ble_eq_true rfl) dX9_yardsToFull_18 ⟨Nat.zero_le _, Nat.zero_le _⟩ (fun r_31 hr_ => ?_)
                refine lv_iconst (v := 2) hx hb dX9_yardsToFull_21 (by decide) ?_
                refine lv_icmp_ne (tgt := 27) hx hb dX9_yardsToFull_22 (by decide) (fun c_32 => ?_) (fun c_32 => ?_)
                · refine lv_iinc (v := 9) (lv' := [(2, .int 9), (0, .ref wk), (1, .int v)]) hx hb dX9_yardsToFull_27 hl (k := 0) rfl (by decide) (by decide) rfl (fun ls hl => ?_)
                  refine lv_goto (tgt := 2) hx hb dX9_yardsToFull_30 (by decide) ?_
                  refine lv_iload_n hx hb dX9_yardsToFull_2 rfl (lv_at hl 0 rfl) ?_
                  refine lv_bipush (v := 9) hx hb dX9_yardsToFull_3 (by decide) ?_
                  refine lv_icmp_gt (tgt := 33) hx hb dX9_yardsToFull_5 (by decide) (fun h9 => absurd h9 (by decide)) (fun _ => ?_)
                  refine lv_aload_n hx hb dX9_yardsToFull_8 rfl (lv_at hl 1 rfl) ?_
                  refine lv_aload_n hx hb dX9_yardsToFull_9 rfl (lv_at hl 1 rfl) ?_
                  refine va_get (D := G) (ci := 9) (v := .int wce) (C := RX9) (T := TX9) (N := 11) hx hb hts inB9 hown hE.1 hP 0 rfl rfl 1 (by decide) (hts _ m_260) (fun _ h9 => h9) rfl dX9_yardsToFull_10 ?_
                  refine lv_iload_n hx hb dX9_yardsToFull_13 rfl (lv_at hl 2 rfl) ?_
                  refine lv_iload_n hx hb dX9_yardsToFull_14 rfl (lv_at hl 0 rfl) ?_
                  refine grS (rest := [.ref wk]) hx hb hml hown hts hE (c_X7_cellFrom l G cy sk sa s.heap.size wce v 9) kS_X7_cellFrom m_1049 rfl rfl ⟨(Nat.le_of_ble_eq_true rfl), (Nat.le_of_ble_eq_true rfl)⟩ hP hD hS hT [] rfl rfl rfl rfl hl.1 (Nat.le_of_ble_eq_true rfl) dX9_yardsToFull_15 ⟨Nat.zero_le _, Nat.zero_le _⟩ (fun r_33 hr_ => ?_)
                  have h_34 := hr_
                  refine grV (rest := []) hx hb hml hown hts hE (c_X9_held l G cy sk sa s.heap.size wk ye no wki wce wsi wpi wlo wev wgo wbu wcl fy fn r_33) kV_X9_held m_946 rfl rfl ⟨(Nat.le_of_ble_eq_true rfl), (Nat.le_of_ble_eq_true rfl)⟩ hP hD hS hT 0 rfl rfl rfl [0, 1, 2] rfl rfl rfl rfl hl.1 (Nat.le_of_ble_eq_true rfl) dX9_yardsToFull_18 ⟨Nat.zero_le _, Nat.zero_le _⟩ (fun r_35 hr_ => ?_)
                  refine lv_iconst (v := 2) hx hb dX9_yardsToFull_21 (by decide) ?_
                  refine lv_icmp_ne (tgt := 27) hx hb dX9_yardsToFull_22 (by decide) (fun c_36 => ?_) (fun c_36 => ?_)
                  · refine lv_iinc (v := 10) (lv' := [(2, .int 10), (0, .ref wk), (1, .int v)]) hx hb dX9_yardsToFull_27 hl (k := 0) rfl (by decide) (by decide) rfl (fun ls hl => ?_)
                    refine lv_goto (tgt := 2) hx hb dX9_yardsToFull_30 (by decide) ?_
                    refine lv_iload_n hx hb dX9_yardsToFull_2 rfl (lv_at hl 0 rfl) ?_
                    refine lv_bipush (v := 9) hx hb dX9_yardsToFull_3 (by decide) ?_
                    refine lv_icmp_gt (tgt := 33) hx hb dX9_yardsToFull_5 (by decide) (fun _ => ?_) (fun h9 => absurd h9 (by decide))
                    refine lv_iconst (v := 0) hx hb dX9_yardsToFull_33 (by decide) ?_
                    exact W.iret (v := 0) hx hb hr (fun t ht hW => ⟨0, rfl, trivial, ht⟩) (fun _ h => by cases h) dX9_yardsToFull_34
                  · refine lv_iload_n hx hb dX9_yardsToFull_25 rfl (lv_at hl 0 rfl) ?_
                    exact W.iret (v := 9) hx hb hr (fun t ht hW => ⟨9, rfl, trivial, ht⟩) (fun _ h => by cases h) dX9_yardsToFull_26
                · refine lv_iload_n hx hb dX9_yardsToFull_25 rfl (lv_at hl 0 rfl) ?_
                  exact W.iret (v := 8) hx hb hr (fun t ht hW => ⟨8, rfl, trivial, ht⟩) (fun _ h => by cases h) dX9_yardsToFull_26
              · refine lv_iload_n hx hb dX9_yardsToFull_25 rfl (lv_at hl 0 rfl) ?_
                exact W.iret (v := 7) hx hb hr (fun t ht hW => ⟨7, rfl, trivial, ht⟩) (fun _ h => by cases h) dX9_yardsToFull_26
            · refine lv_iload_n hx hb dX9_yardsToFull_25 rfl (lv_at hl 0 rfl) ?_
              exact W.iret (v := 6) hx hb hr (fun t ht hW => ⟨6, rfl, trivial, ht⟩) (fun _ h => by cases h) dX9_yardsToFull_26
          · refine lv_iload_n hx hb dX9_yardsToFull_25 rfl (lv_at hl 0 rfl) ?_
            exact W.iret (v := 5) hx hb hr (fun t ht hW => ⟨5, rfl, trivial, ht⟩) (fun _ h => by cases h) dX9_yardsToFull_26
        · refine lv_iload_n hx hb dX9_yardsToFull_25 rfl (lv_at hl 0 rfl) ?_
          exact W.iret (v := 4) hx hb hr (fun t ht hW => ⟨4, rfl, trivial, ht⟩) (fun _ h => by cases h) dX9_yardsToFull_26
      · refine lv_iload_n hx hb dX9_yardsToFull_25 rfl (lv_at hl 0 rfl) ?_
        exact W.iret (v := 3) hx hb hr (fun t ht hW => ⟨3, rfl, trivial, ht⟩) (fun _ h => by cases h) dX9_yardsToFull_26
    · refine lv_iload_n hx hb dX9_yardsToFull_25 rfl (lv_at hl 0 rfl) ?_
      exact W.iret (v := 2) hx hb hr (fun t ht hW => ⟨2, rfl, trivial, ht⟩) (fun _ h => by cases h) dX9_yardsToFull_26
  · refine lv_iload_n hx hb dX9_yardsToFull_25 rfl (lv_at hl 0 rfl) ?_
    exact W.iret (v := 1) hx hb hr (fun t ht hW => ⟨1, rfl, trivial, ht⟩) (fun _ h => by cases h) dX9_yardsToFull_26
set_option maxHeartbeats 4000000 in
set_option maxRecDepth 100000 in
theorem c_X9_yardsHeldFree (l : Launch) (G : va_G) (cy : Nat → ClassId) (sk sa : Nat → Nat) (sz : Nat) (wk : Nat) (ye : Nat) (no : Nat) (wki : Int32) (wce : Int32) (wsi : Int32) (wpi : Int32) (wlo : Int32) (wev : Int32) (wgo : Int32) (wbu : Int32) (wcl : Int32) (fy : Nat → Int32) (fn : Nat → Int32)  : Met l yX9_yardsHeldFree (wsO yX9_yardsHeldFree cX9_yardsHeldFree 2 (some .int)) ({ frames := 2, cells := 0, slots := 0, locals := 44 }) (va_Pc [.ref wk] (PG G cy sk sa sz [(wk, .inr (9, [.int wki, .int wce, .int wsi, .int wpi, .int wlo, .int wev, .int wgo, .int wbu, .int wcl, .ref ye, .ref no])), (ye, .inl (cy 0, 192, .inl fy)), (no, .inl (cy 0, 192, .inl fn))])) (vp_Si (fun _ => True)) 0 0 (fun _ => False) := by
  refine mgr (by decide) (Nat.le_of_ble_eq_true rfl) ?_
  intro p e s m below meth c ls A hx hb hr hml hts hown hlocks hin hsz hP hE hD hS hT hl
  subst hsz
  have hl : lv_has ls 2 [(0, .ref wk)] := hl
  refine lv_iconst (v := 0) hx hb dX9_yardsHeldFree_0 (by decide) ?_
  refine lv_istore_n (lv' := [(1, .int 0), (0, .ref wk)]) hx hb dX9_yardsHeldFree_1 rfl hl (by decide) rfl (fun ls hl => ?_)
  refine lv_iload_n hx hb dX9_yardsHeldFree_2 rfl (lv_at hl 0 rfl) ?_
  refine lv_bipush (v := 15) hx hb dX9_yardsHeldFree_3 (by decide) ?_
  refine lv_icmp_ge (tgt := 36) hx hb dX9_yardsHeldFree_5 (by decide) (fun h9 => absurd h9 (by decide)) (fun _ => ?_)
  refine lv_aload_n hx hb dX9_yardsHeldFree_8 rfl (lv_at hl 1 rfl) ?_
  refine lv_aload_n hx hb dX9_yardsHeldFree_9 rfl (lv_at hl 1 rfl) ?_
  refine va_get (D := G) (ci := 9) (v := .int wce) (C := RX9) (T := TX9) (N := 11) hx hb hts inB9 hown hE.1 hP 0 rfl rfl 1 (by decide) (hts _ m_260) (fun _ h9 => h9) rfl dX9_yardsHeldFree_10 ?_
  refine lv_aload_n hx hb dX9_yardsHeldFree_13 rfl (lv_at hl 1 rfl) ?_
  refine va_get (D := G) (ci := 9) (v := .int wsi) (C := RX9) (T := TX9) (N := 11) hx hb hts inB9 hown hE.1 hP 0 rfl rfl 2 (by decide) (hts _ m_264) (fun _ h9 => h9) rfl dX9_yardsHeldFree_14 ?_
  refine lv_iload_n hx hb dX9_yardsHeldFree_17 rfl (lv_at hl 0 rfl) ?_
  refine lv_iconst (v := 1) hx hb dX9_yardsHeldFree_18 (by decide) ?_
  refine lv_iadd hx hb dX9_yardsHeldFree_19 ?_
  refine tp (v := 1) (by decide) ?_
  refine grS (rest := [.ref wk]) hx hb hml hown hts hE (c_X7_cellFrom l G cy sk sa s.heap.size wce wsi 1) kS_X7_cellFrom m_1049 rfl rfl ⟨(Nat.le_of_ble_eq_true rfl), (Nat.le_of_ble_eq_true rfl)⟩ hP hD hS hT [] rfl rfl rfl rfl hl.1 (Nat.le_of_ble_eq_true rfl) dX9_yardsHeldFree_20 ⟨Nat.zero_le _, Nat.zero_le _⟩ (fun r_1 hr_ => ?_)
  have h_2 := hr_
  refine grV (rest := []) hx hb hml hown hts hE (c_X9_held l G cy sk sa s.heap.size wk ye no wki wce wsi wpi wlo wev wgo wbu wcl fy fn r_1) kV_X9_held m_946 rfl rfl ⟨(Nat.le_of_ble_eq_true rfl), (Nat.le_of_ble_eq_true rfl)⟩ hP hD hS hT 0 rfl rfl rfl [0, 1, 2] rfl rfl rfl rfl hl.1 (Nat.le_of_ble_eq_true rfl) dX9_yardsHeldFree_23 ⟨Nat.zero_le _, Nat.zero_le _⟩ (fun r_3 hr_ => ?_)
  refine lv_iconst (v := 1) hx hb dX9_yardsHeldFree_26 (by decide) ?_
  refine lv_icmp_ne (tgt := 36) hx hb dX9_yardsHeldFree_27 (by decide) (fun c_4 => ?_) (fun c_4 => ?_)
  · refine lv_iload_n hx hb dX9_yardsHeldFree_36 rfl (lv_at hl 0 rfl) ?_
    exact W.iret (v := 0) hx hb hr (fun t ht hW => ⟨0, rfl, trivial, ht⟩) (fun _ h => by cases h) dX9_yardsHeldFree_37
  · refine lv_iinc (v := 1) (lv' := [(1, .int 1), (0, .ref wk)]) hx hb dX9_yardsHeldFree_30 hl (k := 0) rfl (by decide) (by decide) rfl (fun ls hl => ?_)
    refine lv_goto (tgt := 2) hx hb dX9_yardsHeldFree_33 (by decide) ?_
    refine lv_iload_n hx hb dX9_yardsHeldFree_2 rfl (lv_at hl 0 rfl) ?_
    refine lv_bipush (v := 15) hx hb dX9_yardsHeldFree_3 (by decide) ?_
    refine lv_icmp_ge (tgt := 36) hx hb dX9_yardsHeldFree_5 (by decide) (fun h9 => absurd h9 (by decide)) (fun _ => ?_)
    refine lv_aload_n hx hb dX9_yardsHeldFree_8 rfl (lv_at hl 1 rfl) ?_
    refine lv_aload_n hx hb dX9_yardsHeldFree_9 rfl (lv_at hl 1 rfl) ?_
    refine va_get (D := G) (ci := 9) (v := .int wce) (C := RX9) (T := TX9) (N := 11) hx hb hts inB9 hown hE.1 hP 0 rfl rfl 1 (by decide) (hts _ m_260) (fun _ h9 => h9) rfl dX9_yardsHeldFree_10 ?_
    refine lv_aload_n hx hb dX9_yardsHeldFree_13 rfl (lv_at hl 1 rfl) ?_
    refine va_get (D := G) (ci := 9) (v := .int wsi) (C := RX9) (T := TX9) (N := 11) hx hb hts inB9 hown hE.1 hP 0 rfl rfl 2 (by decide) (hts _ m_264) (fun _ h9 => h9) rfl dX9_yardsHeldFree_14 ?_
    refine lv_iload_n hx hb dX9_yardsHeldFree_17 rfl (lv_at hl 0 rfl) ?_
    refine lv_iconst (v := 1) hx hb dX9_yardsHeldFree_18 (by decide) ?_
    refine lv_iadd hx hb dX9_yardsHeldFree_19 ?_
    refine tp (v := 2) (by decide) ?_
    refine grS (rest := [.ref wk]) hx hb hml hown hts hE (c_X7_cellFrom l G cy sk sa s.heap.size wce wsi 2) kS_X7_cellFrom m_1049 rfl rfl ⟨(Nat.le_of_ble_eq_true rfl), (Nat.le_of_ble_eq_true rfl)⟩ hP hD hS hT [] rfl rfl rfl rfl hl.1 (Nat.le_of_ble_eq_true rfl) dX9_yardsHeldFree_20 ⟨Nat.zero_le _, Nat.zero_le _⟩ (fun r_5 hr_ => ?_)
    have h_6 := hr_
    refine grV (rest := []) hx hb hml hown hts hE (c_X9_held l G cy sk sa s.heap.size wk ye no wki wce wsi wpi wlo wev wgo wbu wcl fy fn r_5) kV_X9_held m_946 rfl rfl ⟨(Nat.le_of_ble_eq_true rfl), (Nat.le_of_ble_eq_true rfl)⟩ hP hD hS hT 0 rfl rfl rfl [0, 1, 2] rfl rfl rfl rfl hl.1 (Nat.le_of_ble_eq_true rfl) dX9_yardsHeldFree_23 ⟨Nat.zero_le _, Nat.zero_le _⟩ (fun r_7 hr_ => ?_)
    refine lv_iconst (v := 1) hx hb dX9_yardsHeldFree_26 (by decide) ?_
    refine lv_icmp_ne (tgt := 36) hx hb dX9_yardsHeldFree_27 (by decide) (fun c_8 => ?_) (fun c_8 => ?_)
    · refine lv_iload_n hx hb dX9_yardsHeldFree_36 rfl (lv_at hl 0 rfl) ?_
      exact W.iret (v := 1) hx hb hr (fun t ht hW => ⟨1, rfl, trivial, ht⟩) (fun _ h => by cases h) dX9_yardsHeldFree_37
    · refine lv_iinc (v := 2) (lv' := [(1, .int 2), (0, .ref wk)]) hx hb dX9_yardsHeldFree_30 hl (k := 0) rfl (by decide) (by decide) rfl (fun ls hl => ?_)
      refine lv_goto (tgt := 2) hx hb dX9_yardsHeldFree_33 (by decide) ?_
      refine lv_iload_n hx hb dX9_yardsHeldFree_2 rfl (lv_at hl 0 rfl) ?_
      refine lv_bipush (v := 15) hx hb dX9_yardsHeldFree_3 (by decide) ?_
      refine lv_icmp_ge (tgt := 36) hx hb dX9_yardsHeldFree_5 (by decide) (fun h9 => absurd h9 (by decide)) (fun _ => ?_)
      refine lv_aload_n hx hb dX9_yardsHeldFree_8 rfl (lv_at hl 1 rfl) ?_
      refine lv_aload_n hx hb dX9_yardsHeldFree_9 rfl (lv_at hl 1 rfl) ?_
      refine va_get (D := G) (ci := 9) (v := .int wce) (C := RX9) (T := TX9) (N := 11) hx hb hts inB9 hown hE.1 hP 0 rfl rfl 1 (by decide) (hts _ m_260) (fun _ h9 => h9) rfl dX9_yardsHeldFree_10 ?_
      refine lv_aload_n hx hb dX9_yardsHeldFree_13 rfl (lv_at hl 1 rfl) ?_
      refine va_get (D := G) (ci := 9) (v := .int wsi) (C := RX9) (T := TX9) (N := 11) hx hb hts inB9 hown hE.1 hP 0 rfl rfl 2 (by decide) (hts _ m_264) (fun _ h9 => h9) rfl dX9_yardsHeldFree_14 ?_
      refine lv_iload_n hx hb dX9_yardsHeldFree_17 rfl (lv_at hl 0 rfl) ?_
      refine lv_iconst (v := 1) hx hb dX9_yardsHeldFree_18 (by decide) ?_
      refine lv_iadd hx hb dX9_yardsHeldFree_19 ?_
      refine tp (v := 3) (by decide) ?_
      refine grS (rest := [.ref wk]) hx hb hml hown hts hE (c_X7_cellFrom l G cy sk sa s.heap.size wce wsi 3) kS_X7_cellFrom m_1049 rfl rfl ⟨(Nat.le_of_ble_eq_true rfl), (Nat.le_of_ble_eq_true rfl)⟩ hP hD hS hT [] rfl rfl rfl rfl hl.1 (Nat.le_of_ble_eq_true rfl) dX9_yardsHeldFree_20 ⟨Nat.zero_le _, Nat.zero_le _⟩ (fun r_9 hr_ => ?_)
      have h_10 := hr_
      refine grV (rest := []) hx hb hml hown hts hE (c_X9_held l G cy sk sa s.heap.size wk ye no wki wce wsi wpi wlo wev wgo wbu wcl fy fn r_9) kV_X9_held m_946 rfl rfl ⟨(Nat.le_of_ble_eq_true rfl), (Nat.le_of_ble_eq_true rfl)⟩ hP hD hS hT 0 rfl rfl rfl [0, 1, 2] rfl rfl rfl rfl hl.1 (Nat.le_of_ble_eq_true rfl) dX9_yardsHeldFree_23 ⟨Nat.zero_le _, Nat.zero_le _⟩ (fun r_11 hr_ => ?_)
      refine lv_iconst (v := 1) hx hb dX9_yardsHeldFree_26 (by decide) ?_
      refine lv_icmp_ne (tgt := 36) hx hb dX9_yardsHeldFree_27 (by decide) (fun c_12 => ?_) (fun c_12 => ?_)
      · refine lv_iload_n hx hb dX9_yardsHeldFree_36 rfl (lv_at hl 0 rfl) ?_
        exact W.iret (v := 2) hx hb hr (fun t ht hW => ⟨2, rfl, trivial, ht⟩) (fun _ h => by cases h) dX9_yardsHeldFree_37
      · refine lv_iinc (v := 3) (lv' := [(1, .int 3), (0, .ref wk)]) hx hb dX9_yardsHeldFree_30 hl (k := 0) rfl (by decide) (by decide) rfl (fun ls hl => ?_)
        refine lv_goto (tgt := 2) hx hb dX9_yardsHeldFree_33 (by decide) ?_
        refine lv_iload_n hx hb dX9_yardsHeldFree_2 rfl (lv_at hl 0 rfl) ?_
        refine lv_bipush (v := 15) hx hb dX9_yardsHeldFree_3 (by decide) ?_
        refine lv_icmp_ge (tgt := 36) hx hb dX9_yardsHeldFree_5 (by decide) (fun h9 => absurd h9 (by decide)) (fun _ => ?_)
        refine lv_aload_n hx hb dX9_yardsHeldFree_8 rfl (lv_at hl 1 rfl) ?_
        refine lv_aload_n hx hb dX9_yardsHeldFree_9 rfl (lv_at hl 1 rfl) ?_
        refine va_get (D := G) (ci := 9) (v := .int wce) (C := RX9) (T := TX9) (N := 11) hx hb hts inB9 hown hE.1 hP 0 rfl rfl 1 (by decide) (hts _ m_260) (fun _ h9 => h9) rfl dX9_yardsHeldFree_10 ?_
        refine lv_aload_n hx hb dX9_yardsHeldFree_13 rfl (lv_at hl 1 rfl) ?_
        refine va_get (D := G) (ci := 9) (v := .int wsi) (C := RX9) (T := TX9) (N := 11) hx hb hts inB9 hown hE.1 hP 0 rfl rfl 2 (by decide) (hts _ m_264) (fun _ h9 => h9) rfl dX9_yardsHeldFree_14 ?_
        refine lv_iload_n hx hb dX9_yardsHeldFree_17 rfl (lv_at hl 0 rfl) ?_
        refine lv_iconst (v := 1) hx hb dX9_yardsHeldFree_18 (by decide) ?_
        refine lv_iadd hx hb dX9_yardsHeldFree_19 ?_
        refine tp (v := 4) (by decide) ?_
        refine grS (rest := [.ref wk]) hx hb hml hown hts hE (c_X7_cellFrom l G cy sk sa s.heap.size wce wsi 4) kS_X7_cellFrom m_1049 rfl rfl ⟨(Nat.le_of_ble_eq_true rfl), (Nat.le_of_ble_eq_true rfl)⟩ hP hD hS hT [] rfl rfl rfl rfl hl.1 (Nat.le_of_ble_eq_true rfl) dX9_yardsHeldFree_20 ⟨Nat.zero_le _, Nat.zero_le _⟩ (fun r_13 hr_ => ?_)
        have h_14 := hr_
        refine grV (rest := []) hx hb hml hown hts hE (c_X9_held l G cy sk sa s.heap.size wk ye no wki wce wsi wpi wlo wev wgo wbu wcl fy fn r_13) kV_X9_held m_946 rfl rfl ⟨(Nat.le_of_ble_eq_true rfl), (Nat.le_of_ble_eq_true rfl)⟩ hP hD hS hT 0 rfl rfl rfl [0, 1, 2] rfl rfl rfl rfl hl.1 (Nat.le_of_ble_eq_true rfl) dX9_yardsHeldFree_23 ⟨Nat.zero_le _, Nat.zero_le _⟩ (fun r_15 hr_ => ?_)
        refine lv_iconst (v := 1) hx hb dX9_yardsHeldFree_26 (by decide) ?_
        refine lv_icmp_ne (tgt := 36) hx hb dX9_yardsHeldFree_27 (by decide) (fun c_16 => ?_) (fun c_16 => ?_)
        · refine lv_iload_n hx hb dX9_yardsHeldFree_36 rfl (lv_at hl 0 rfl) ?_
          exact W.iret (v := 3) hx hb hr (fun t ht hW => ⟨3, rfl, trivial, ht⟩) (fun _ h => by cases h) dX9_yardsHeldFree_37
        · refine lv_iinc (v := 4) (lv' := [(1, .int 4), (0, .ref wk)]) hx hb dX9_yardsHeldFree_30 hl (k := 0) rfl (by decide) (by decide) rfl (fun ls hl => ?_)
          refine lv_goto (tgt := 2) hx hb dX9_yardsHeldFree_33 (by decide) ?_
          refine lv_iload_n hx hb dX9_yardsHeldFree_2 rfl (lv_at hl 0 rfl) ?_
          refine lv_bipush (v := 15) hx hb dX9_yardsHeldFree_3 (by decide) ?_
          refine lv_icmp_ge (tgt := 36) hx hb dX9_yardsHeldFree_5 (by decide) (fun h9 => absurd h9 (by decide)) (fun _ => ?_)
          refine lv_aload_n hx hb dX9_yardsHeldFree_8 rfl (lv_at hl 1 rfl) ?_
          refine lv_aload_n hx hb dX9_yardsHeldFree_9 rfl (lv_at hl 1 rfl) ?_
          refine va_get (D := G) (ci := 9) (v := .int wce) (C := RX9) (T := TX9) (N := 11) hx hb hts inB9 hown hE.1 hP 0 rfl rfl 1 (by decide) (hts _ m_260) (fun _ h9 => h9) rfl dX9_yardsHeldFree_10 ?_
          refine lv_aload_n hx hb dX9_yardsHeldFree_13 rfl (lv_at hl 1 rfl) ?_
          refine va_get (D := G) (ci := 9) (v := .int wsi) (C := RX9) (T := TX9) (N := 11) hx hb hts inB9 hown hE.1 hP 0 rfl rfl 2 (by decide) (hts _ m_264) (fun _ h9 => h9) rfl dX9_yardsHeldFree_14 ?_
          refine lv_iload_n hx hb dX9_yardsHeldFree_17 rfl (lv_at hl 0 rfl) ?_
          refine lv_iconst (v := 1) hx hb dX9_yardsHeldFree_18 (by decide) ?_
          refine lv_iadd hx hb dX9_yardsHeldFree_19 ?_
          refine tp (v := 5) (by decide) ?_
          refine grS (rest := [.ref wk]) hx hb hml hown hts hE (c_X7_cellFrom l G cy sk sa s.heap.size wce wsi 5) kS_X7_cellFrom m_1049 rfl rfl ⟨(Nat.le_of_ble_eq_true rfl), (Nat.le_of_ble_eq_true rfl)⟩ hP hD hS hT [] rfl rfl rfl rfl hl.1 (Nat.le_of_ble_eq_true rfl) dX9_yardsHeldFree_20 ⟨Nat.zero_le _, Nat.zero_le _⟩ (fun r_17 hr_ => ?_)
          have h_18 := hr_
          refine grV (rest := []) hx hb hml hown hts hE (c_X9_held l G cy sk sa s.heap.size wk ye no wki wce wsi wpi wlo wev wgo wbu wcl fy fn r_17) kV_X9_held m_946 rfl rfl ⟨(Nat.le_of_ble_eq_true rfl), (Nat.le_of_ble_eq_true rfl)⟩ hP hD hS hT 0 rfl rfl rfl [0, 1, 2] rfl rfl rfl rfl hl.1 (Nat.le_of_ble_eq_true rfl) dX9_yardsHeldFree_23 ⟨Nat.zero_le _, Nat.zero_le _⟩ (fun r_19 hr_ => ?_)
          refine lv_iconst (v := 1) hx hb dX9_yardsHeldFree_26 (by decide) ?_
          refine lv_icmp_ne (tgt := 36) hx hb dX9_yardsHeldFree_27 (by decide) (fun c_20 => ?_) (fun c_20 => ?_)
          · refine lv_iload_n hx hb dX9_yardsHeldFree_36 rfl (lv_at hl 0 rfl) ?_
            exact W.iret (v := 4) hx hb hr (fun t ht hW => ⟨4, rfl, trivial, ht⟩) (fun _ h => by cases h) dX9_yardsHeldFree_37
          · refine lv_iinc (v := 5) (lv' := [(1, .int 5), (0, .ref wk)]) hx hb dX9_yardsHeldFree_30 hl (k := 0) rfl (by decide) (by decide) rfl (fun ls hl => ?_)
            refine lv_goto (tgt := 2) hx hb dX9_yardsHeldFree_33 (by decide) ?_
            refine lv_iload_n hx hb dX9_yardsHeldFree_2 rfl (lv_at hl 0 rfl) ?_
            refine lv_bipush (v := 15) hx hb dX9_yardsHeldFree_3 (by decide) ?_
            refine lv_icmp_ge (tgt := 36) hx hb dX9_yardsHeldFree_5 (by decide) (fun h9 => absurd h9 (by decide)) (fun _ => ?_)
            refine lv_aload_n hx hb dX9_yardsHeldFree_8 rfl (lv_at hl 1 rfl) ?_
            refine lv_aload_n hx hb dX9_yardsHeldFree_9 rfl (lv_at hl 1 rfl) ?_
            refine va_get (D := G) (ci := 9) (v := .int wce) (C := RX9) (T := TX9) (N := 11) hx hb hts inB9 hown hE.1 hP 0 rfl rfl 1 (by decide) (hts _ m_260) (fun _ h9 => h9) rfl dX9_yardsHeldFree_10 ?_
            refine lv_aload_n hx hb dX9_yardsHeldFree_13 rfl (lv_at hl 1 rfl) ?_
            refine va_get (D := G) (ci := 9) (v := .int wsi) (C := RX9) (T := TX9) (N := 11) hx hb hts inB9 hown hE.1 hP 0 rfl rfl 2 (by decide) (hts _ m_264) (fun _ h9 => h9) rfl dX9_yardsHeldFree_14 ?_
            refine lv_iload_n hx hb dX9_yardsHeldFree_17 rfl (lv_at hl 0 rfl) ?_
            refine lv_iconst (v := 1) hx hb dX9_yardsHeldFree_18 (by decide) ?_
            refine lv_iadd hx hb dX9_yardsHeldFree_19 ?_
            refine tp (v := 6) (by decide) ?_
            refine grS (rest := [.ref wk]) hx hb hml hown hts hE (c_X7_cellFrom l G cy sk sa s.heap.size wce wsi 6) kS_X7_cellFrom m_1049 rfl rfl ⟨(Nat.le_of_ble_eq_true rfl), (Nat.le_of_ble_eq_true rfl)⟩ hP hD hS hT [] rfl rfl rfl rfl hl.1 (Nat.le_of_ble_eq_true rfl) dX9_yardsHeldFree_20 ⟨Nat.zero_le _, Nat.zero_le _⟩ (fun r_21 hr_ => ?_)
            have h_22 := hr_
            refine grV (rest := []) hx hb hml hown hts hE (c_X9_held l G cy sk sa s.heap.size wk ye no wki wce wsi wpi wlo wev wgo wbu wcl fy fn r_21) kV_X9_held m_946 rfl rfl ⟨(Nat.le_of_ble_eq_true rfl), (Nat.le_of_ble_eq_true rfl)⟩ hP hD hS hT 0 rfl rfl rfl [0, 1, 2] rfl rfl rfl rfl hl.1 (Nat.le_of_ble_eq_true rfl) dX9_yardsHeldFree_23 ⟨Nat.zero_le _, Nat.zero_le _⟩ (fun r_23 hr_ => ?_)
            refine lv_iconst (v := 1) hx hb dX9_yardsHeldFree_26 (by decide) ?_
            refine lv_icmp_ne (tgt := 36) hx hb dX9_yardsHeldFree_27 (by decide) (fun c_24 => ?_) (fun c_24 => ?_)
            · refine lv_iload_n hx hb dX9_yardsHeldFree_36 rfl (lv_at hl 0 rfl) ?_
              exact W.iret (v := 5) hx hb hr (fun t ht hW => ⟨5, rfl, trivial, ht⟩) (fun _ h => by cases h) dX9_yardsHeldFree_37
            · refine lv_iinc (v := 6) (lv' := [(1, .int 6), (0, .ref wk)]) hx hb dX9_yardsHeldFree_30 hl (k := 0) rfl (by decide) (by decide) rfl (fun ls hl => ?_)
              refine lv_goto (tgt := 2) hx hb dX9_yardsHeldFree_33 (by decide) ?_
              refine lv_iload_n hx hb dX9_yardsHeldFree_2 rfl (lv_at hl 0 rfl) ?_
              refine lv_bipush (v := 15) hx hb dX9_yardsHeldFree_3 (by decide) ?_
              refine lv_icmp_ge (tgt := 36) hx hb dX9_yardsHeldFree_5 (by decide) (fun h9 => absurd h9 (by decide)) (fun _ => ?_)
              refine lv_aload_n hx hb dX9_yardsHeldFree_8 rfl (lv_at hl 1 rfl) ?_
              refine lv_aload_n hx hb dX9_yardsHeldFree_9 rfl (lv_at hl 1 rfl) ?_
              refine va_get (D := G) (ci := 9) (v := .int wce) (C := RX9) (T := TX9) (N := 11) hx hb hts inB9 hown hE.1 hP 0 rfl rfl 1 (by decide) (hts _ m_260) (fun _ h9 => h9) rfl dX9_yardsHeldFree_10 ?_
              refine lv_aload_n hx hb dX9_yardsHeldFree_13 rfl (lv_at hl 1 rfl) ?_
              refine va_get (D := G) (ci := 9) (v := .int wsi) (C := RX9) (T := TX9) (N := 11) hx hb hts inB9 hown hE.1 hP 0 rfl rfl 2 (by decide) (hts _ m_264) (fun _ h9 => h9) rfl dX9_yardsHeldFree_14 ?_
              refine lv_iload_n hx hb dX9_yardsHeldFree_17 rfl (lv_at hl 0 rfl) ?_
              refine lv_iconst (v := 1) hx hb dX9_yardsHeldFree_18 (by decide) ?_
              refine lv_iadd hx hb dX9_yardsHeldFree_19 ?_
              refine tp (v := 7) (by decide) ?_
              refine grS (rest := [.ref wk]) hx hb hml hown hts hE (c_X7_cellFrom l G cy sk sa s.heap.size wce wsi 7) kS_X7_cellFrom m_1049 rfl rfl ⟨(Nat.le_of_ble_eq_true rfl), (Nat.le_of_ble_eq_true rfl)⟩ hP hD hS hT [] rfl rfl rfl rfl hl.1 (Nat.le_of_ble_eq_true rfl) dX9_yardsHeldFree_20 ⟨Nat.zero_le _, Nat.zero_le _⟩ (fun r_25 hr_ => ?_)
              have h_26 := hr_
              refine grV (rest := []) hx hb hml hown hts hE (c_X9_held l G cy sk sa s.heap.size wk ye no wki wce wsi wpi wlo wev wgo wbu wcl fy fn r_25) kV_X9_held m_946 rfl rfl ⟨(Nat.le_of_ble_eq_true rfl), (Nat.le_of_ble_eq_true rfl)⟩ hP hD hS hT 0 rfl rfl rfl [0, 1, 2] rfl rfl rfl rfl hl.1 (Nat.le_of_ble_eq_true rfl) dX9_yardsHeldFree_23 ⟨Nat.zero_le _, Nat.zero_le _⟩ (fun r_27 hr_ => ?_)
              refine lv_iconst (v := 1) hx hb dX9_yardsHeldFree_26 (by decide) ?_
              refine lv_icmp_ne (tgt := 36) hx hb dX9_yardsHeldFree_27 (by decide) (fun c_28 => ?_) (fun c_28 => ?_)
              · refine lv_iload_n hx hb dX9_yardsHeldFree_36 rfl (lv_at hl 0 rfl) ?_
                exact W.iret (v := 6) hx hb hr (fun t ht hW => ⟨6, rfl, trivial, ht⟩) (fun _ h => by cases h) dX9_yardsHeldFree_37
              · refine lv_iinc (v := 7) (lv' := [(1, .int 7), (0, .ref wk)]) hx hb dX9_yardsHeldFree_30 hl (k := 0) rfl (by decide) (by decide) rfl (fun ls hl => ?_)
                refine lv_goto (tgt := 2) hx hb dX9_yardsHeldFree_33 (by decide) ?_
                refine lv_iload_n hx hb dX9_yardsHeldFree_2 rfl (lv_at hl 0 rfl) ?_
                refine lv_bipush (v := 15) hx hb dX9_yardsHeldFree_3 (by decide) ?_
                refine lv_icmp_ge (tgt := 36) hx hb dX9_yardsHeldFree_5 (by decide) (fun h9 => absurd h9 (by decide)) (fun _ => ?_)
                refine lv_aload_n hx hb dX9_yardsHeldFree_8 rfl (lv_at hl 1 rfl) ?_
                refine lv_aload_n hx hb dX9_yardsHeldFree_9 rfl (lv_at hl 1 rfl) ?_
                refine va_get (D := G) (ci := 9) (v := .int wce) (C := RX9) (T := TX9) (N := 11) hx hb hts inB9 hown hE.1 hP 0 rfl rfl 1 (by decide) (hts _ m_260) (fun _ h9 => h9) rfl dX9_yardsHeldFree_10 ?_
                refine lv_aload_n hx hb dX9_yardsHeldFree_13 rfl (lv_at hl 1 rfl) ?_
                refine va_get (D := G) (ci := 9) (v := .int wsi) (C := RX9) (T := TX9) (N := 11) hx hb hts inB9 hown hE.1 hP 0 rfl rfl 2 (by decide) (hts _ m_264) (fun _ h9 => h9) rfl dX9_yardsHeldFree_14 ?_
                refine lv_iload_n hx hb dX9_yardsHeldFree_17 rfl (lv_at hl 0 rfl) ?_
                refine lv_iconst (v := 1) hx hb dX9_yardsHeldFree_18 (by decide) ?_
                refine lv_iadd hx hb dX9_yardsHeldFree_19 ?_
                refine tp (v := 8) (by decide) ?_
                refine grS (rest := [.ref wk]) hx hb hml hown hts hE (c_X7_cellFrom l G cy sk sa s.heap.size wce wsi 8) kS_X7_cellFrom m_1049 rfl rfl ⟨(Nat.le_of_ble_eq_true rfl), (Nat.le_of_ble_eq_true rfl)⟩ hP hD hS hT [] rfl rfl rfl rfl hl.1 (Nat.le_of_ble_eq_true rfl) dX9_yardsHeldFree_20 ⟨Nat.zero_le _, Nat.zero_le _⟩ (fun r_29 hr_ => ?_)
                have h_30 := hr_
                refine grV (rest := []) hx hb hml hown hts hE (c_X9_held l G cy sk sa s.heap.size wk ye no wki wce wsi wpi wlo wev wgo wbu wcl fy fn r_29) kV_X9_held m_946 rfl rfl ⟨(Nat.le_of_ble_eq_true rfl), (Nat.le_of_ble_eq_true rfl)⟩ hP hD hS hT 0 rfl rfl rfl [0, 1, 2] rfl rfl rfl rfl hl.1 (Nat.le_of_ble_eq_true rfl) dX9_yardsHeldFree_23 ⟨Nat.zero_le _, Nat.zero_le _⟩ (fun r_31 hr_ => ?_)
                refine lv_iconst (v := 1) hx hb dX9_yardsHeldFree_26 (by decide) ?_
                refine lv_icmp_ne (tgt := 36) hx hb dX9_yardsHeldFree_27 (by decide) (fun c_32 => ?_) (fun c_32 => ?_)
                · refine lv_iload_n hx hb dX9_yardsHeldFree_36 rfl (lv_at hl 0 rfl) ?_
                  exact W.iret (v := 7) hx hb hr (fun t ht hW => ⟨7, rfl, trivial, ht⟩) (fun _ h => by cases h) dX9_yardsHeldFree_37
                · refine lv_iinc (v := 8) (lv' := [(1, .int 8), (0, .ref wk)]) hx hb dX9_yardsHeldFree_30 hl (k := 0) rfl (by decide) (by decide) rfl (fun ls hl => ?_)
                  refine lv_goto (tgt := 2) hx hb dX9_yardsHeldFree_33 (by decide) ?_
                  refine lv_iload_n hx hb dX9_yardsHeldFree_2 rfl (lv_at hl 0 rfl) ?_
                  refine lv_bipush (v := 15) hx hb dX9_yardsHeldFree_3 (by decide) ?_
                  refine lv_icmp_ge (tgt := 36) hx hb dX9_yardsHeldFree_5 (by decide) (fun h9 => absurd h9 (by decide)) (fun _ => ?_)
                  refine lv_aload_n hx hb dX9_yardsHeldFree_8 rfl (lv_at hl 1 rfl) ?_
                  refine lv_aload_n hx hb dX9_yardsHeldFree_9 rfl (lv_at hl 1 rfl) ?_
                  refine va_get (D := G) (ci := 9) (v := .int wce) (C := RX9) (T := TX9) (N := 11) hx hb hts inB9 hown hE.1 hP 0 rfl rfl 1 (by decide) (hts _ m_260) (fun _ h9 => h9) rfl dX9_yardsHeldFree_10 ?_
                  refine lv_aload_n hx hb dX9_yardsHeldFree_13 rfl (lv_at hl 1 rfl) ?_
                  refine va_get (D := G) (ci := 9) (v := .int wsi) (C := RX9) (T := TX9) (N := 11) hx hb hts inB9 hown hE.1 hP 0 rfl rfl 2 (by decide) (hts _ m_264) (fun _ h9 => h9) rfl dX9_yardsHeldFree_14 ?_
                  refine lv_iload_n hx hb dX9_yardsHeldFree_17 rfl (lv_at hl 0 rfl) ?_
                  refine lv_iconst (v := 1) hx hb dX9_yardsHeldFree_18 (by decide) ?_
                  refine lv_iadd hx hb dX9_yardsHeldFree_19 ?_
                  refine tp (v := 9) (by decide) ?_
                  refine grS (rest := [.ref wk]) hx hb hml hown hts hE (c_X7_cellFrom l G cy sk sa s.heap.size wce wsi 9) kS_X7_cellFrom m_1049 rfl rfl ⟨(Nat.le_of_ble_eq_true rfl), (Nat.le_of_ble_eq_true rfl)⟩ hP hD hS hT [] rfl rfl rfl rfl hl.1 (Nat.le_of_ble_eq_true rfl) dX9_yardsHeldFree_20 ⟨Nat.zero_le _, Nat.zero_le _⟩ (fun r_33 hr_ => ?_)
                  have h_34 := hr_
                  refine grV (rest := []) hx hb hml hown hts hE (c_X9_held l G cy sk sa s.heap.size wk ye no wki wce wsi wpi wlo wev wgo wbu wcl fy fn r_33) kV_X9_held m_946 rfl rfl ⟨(Nat.le_of_ble_eq_true rfl), (Nat.le_of_ble_eq_true rfl)⟩ hP hD hS hT 0 rfl rfl rfl [0, 1, 2] rfl rfl rfl rfl hl.1 (Nat.le_of_ble_eq_true rfl) dX9_yardsHeldFree_23 ⟨Nat.zero_le _, Nat.zero_le _⟩ (fun r_35 hr_ => ?_)
                  refine lv_iconst (v := 1) hx hb dX9_yardsHeldFree_26 (by decide) ?_
                  refine lv_icmp_ne (tgt := 36) hx hb dX9_yardsHeldFree_27 (by decide) (fun c_36 => ?_) (fun c_36 => ?_)
                  · refine lv_iload_n hx hb dX9_yardsHeldFree_36 rfl (lv_at hl 0 rfl) ?_
                    exact W.iret (v := 8) hx hb hr (fun t ht hW => ⟨8, rfl, trivial, ht⟩) (fun _ h => by cases h) dX9_yardsHeldFree_37
                  · refine lv_iinc (v := 9) (lv' := [(1, .int 9), (0, .ref wk)]) hx hb dX9_yardsHeldFree_30 hl (k := 0) rfl (by decide) (by decide) rfl (fun ls hl => ?_)
                    refine lv_goto (tgt := 2) hx hb dX9_yardsHeldFree_33 (by decide) ?_
                    refine lv_iload_n hx hb dX9_yardsHeldFree_2 rfl (lv_at hl 0 rfl) ?_
                    refine lv_bipush (v := 15) hx hb dX9_yardsHeldFree_3 (by decide) ?_
                    refine lv_icmp_ge (tgt := 36) hx hb dX9_yardsHeldFree_5 (by decide) (fun h9 => absurd h9 (by decide)) (fun _ => ?_)
                    refine lv_aload_n hx hb dX9_yardsHeldFree_8 rfl (lv_at hl 1 rfl) ?_
                    refine lv_aload_n hx hb dX9_yardsHeldFree_9 rfl (lv_at hl 1 rfl) ?_
                    refine va_get (D := G) (ci := 9) (v := .int wce) (C := RX9) (T := TX9) (N := 11) hx hb hts inB9 hown hE.1 hP 0 rfl rfl 1 (by decide) (hts _ m_260) (fun _ h9 => h9) rfl dX9_yardsHeldFree_10 ?_
                    refine lv_aload_n hx hb dX9_yardsHeldFree_13 rfl (lv_at hl 1 rfl) ?_
                    refine va_get (D := G) (ci := 9) (v := .int wsi) (C := RX9) (T := TX9) (N := 11) hx hb hts inB9 hown hE.1 hP 0 rfl rfl 2 (by decide) (hts _ m_264) (fun _ h9 => h9) rfl dX9_yardsHeldFree_14 ?_
                    refine lv_iload_n hx hb dX9_yardsHeldFree_17 rfl (lv_at hl 0 rfl) ?_
                    refine lv_iconst (v := 1) hx hb dX9_yardsHeldFree_18 (by decide) ?_
                    refine lv_iadd hx hb dX9_yardsHeldFree_19 ?_
                    refine tp (v := 10) (by decide) ?_
                    refine grS (rest := [.ref wk]) hx hb hml hown hts hE (c_X7_cellFrom l G cy sk sa s.heap.size wce wsi 10) kS_X7_cellFrom m_1049 rfl rfl ⟨(Nat.le_of_ble_eq_true rfl), (Nat.le_of_ble_eq_true rfl)⟩ hP hD hS hT [] rfl rfl rfl rfl hl.1 (Nat.le_of_ble_eq_true rfl) dX9_yardsHeldFree_20 ⟨Nat.zero_le _, Nat.zero_le _⟩ (fun r_37 hr_ => ?_)
                    have h_38 := hr_
                    refine grV (rest := []) hx hb hml hown hts hE (c_X9_held l G cy sk sa s.heap.size wk ye no wki wce wsi wpi wlo wev wgo wbu wcl fy fn r_37) kV_X9_held m_946 rfl rfl ⟨(Nat.le_of_ble_eq_true rfl), (Nat.le_of_ble_eq_true rfl)⟩ hP hD hS hT 0 rfl rfl rfl [0, 1, 2] rfl rfl rfl rfl hl.1 (Nat.le_of_ble_eq_true rfl) dX9_yardsHeldFree_23 ⟨Nat.zero_le _, Nat.zero_le _⟩ (fun r_39 hr_ => ?_)
                    refine lv_iconst (v := 1) hx hb dX9_yardsHeldFree_26 (by decide) ?_
                    refine lv_icmp_ne (tgt := 36) hx hb dX9_yardsHeldFree_27 (by decide) (fun c_40 => ?_) (fun c_40 => ?_)
                    · refine lv_iload_n hx hb dX9_yardsHeldFree_36 rfl (lv_at hl 0 rfl) ?_
                      exact W.iret (v := 9) hx hb hr (fun t ht hW => ⟨9, rfl, trivial, ht⟩) (fun _ h => by cases h) dX9_yardsHeldFree_37
                    · refine lv_iinc (v := 10) (lv' := [(1, .int 10), (0, .ref wk)]) hx hb dX9_yardsHeldFree_30 hl (k := 0) rfl (by decide) (by decide) rfl (fun ls hl => ?_)
                      refine lv_goto (tgt := 2) hx hb dX9_yardsHeldFree_33 (by decide) ?_
                      refine lv_iload_n hx hb dX9_yardsHeldFree_2 rfl (lv_at hl 0 rfl) ?_
                      refine lv_bipush (v := 15) hx hb dX9_yardsHeldFree_3 (by decide) ?_
                      refine lv_icmp_ge (tgt := 36) hx hb dX9_yardsHeldFree_5 (by decide) (fun h9 => absurd h9 (by decide)) (fun _ => ?_)
                      refine lv_aload_n hx hb dX9_yardsHeldFree_8 rfl (lv_at hl 1 rfl) ?_
                      refine lv_aload_n hx hb dX9_yardsHeldFree_9 rfl (lv_at hl 1 rfl) ?_
                      refine va_get (D := G) (ci := 9) (v := .int wce) (C := RX9) (T := TX9) (N := 11) hx hb hts inB9 hown hE.1 hP 0 rfl rfl 1 (by decide) (hts _ m_260) (fun _ h9 => h9) rfl dX9_yardsHeldFree_10 ?_
                      refine lv_aload_n hx hb dX9_yardsHeldFree_13 rfl (lv_at hl 1 rfl) ?_
                      refine va_get (D := G) (ci := 9) (v := .int wsi) (C := RX9) (T := TX9) (N := 11) hx hb hts inB9 hown hE.1 hP 0 rfl rfl 2 (by decide) (hts _ m_264) (fun _ h9 => h9) rfl dX9_yardsHeldFree_14 ?_
                      refine lv_iload_n hx hb dX9_yardsHeldFree_17 rfl (lv_at hl 0 rfl) ?_
                      refine lv_iconst (v := 1) hx hb dX9_yardsHeldFree_18 (by decide) ?_
                      refine lv_iadd hx hb dX9_yardsHeldFree_19 ?_
                      refine tp (v := 11) (by decide) ?_
                      refine grS (rest := [.ref wk]) hx hb hml hown hts hE (c_X7_cellFrom l G cy sk sa s.heap.size wce wsi 11) kS_X7_cellFrom m_1049 rfl rfl ⟨(Nat.le_of_ble_eq_true rfl), (Nat.le_of_ble_eq_true rfl)⟩ hP hD hS hT [] rfl rfl rfl rfl hl.1 (Nat.le_of_ble_eq_true rfl) dX9_yardsHeldFree_20 ⟨Nat.zero_le _, Nat.zero_le _⟩ (fun r_41 hr_ => ?_)
                      have h_42 := hr_
                      refine grV (rest := []) hx hb hml hown hts hE (c_X9_held l G cy sk sa s.heap.size wk ye no wki wce wsi wpi wlo wev wgo wbu wcl fy fn r_41) kV_X9_held m_946 rfl rfl ⟨(Nat.le_of_ble_eq_true rfl), (Nat.le_of_ble_eq_true rfl)⟩ hP hD hS hT 0 rfl rfl rfl [0, 1, 2] rfl rfl rfl rfl hl.1 (Nat.le_of_ble_eq_true rfl) dX9_yardsHeldFree_23 ⟨Nat.zero_le _, Nat.zero_le _⟩ (fun r_43 hr_ => ?_)
                      refine lv_iconst (v := 1) hx hb dX9_yardsHeldFree_26 (by decide) ?_
                      refine lv_icmp_ne (tgt := 36) hx hb dX9_yardsHeldFree_27 (by decide) (fun c_44 => ?_) (fun c_44 => ?_)
                      · refine lv_iload_n hx hb dX9_yardsHeldFree_36 rfl (lv_at hl 0 rfl) ?_
                        exact W.iret (v := 10) hx hb hr (fun t ht hW => ⟨10, rfl, trivial, ht⟩) (fun _ h => by cases h) dX9_yardsHeldFree_37
                      · refine lv_iinc (v := 11) (lv' := [(1, .int 11), (0, .ref wk)]) hx hb dX9_yardsHeldFree_30 hl (k := 0) rfl (by decide) (by decide) rfl (fun ls hl => ?_)
                        refine lv_goto (tgt := 2) hx hb dX9_yardsHeldFree_33 (by decide) ?_
                        refine lv_iload_n hx hb dX9_yardsHeldFree_2 rfl (lv_at hl 0 rfl) ?_
                        refine lv_bipush (v := 15) hx hb dX9_yardsHeldFree_3 (by decide) ?_
                        refine lv_icmp_ge (tgt := 36) hx hb dX9_yardsHeldFree_5 (by decide) (fun h9 => absurd h9 (by decide)) (fun _ => ?_)
                        refine lv_aload_n hx hb dX9_yardsHeldFree_8 rfl (lv_at hl 1 rfl) ?_
                        refine lv_aload_n hx hb dX9_yardsHeldFree_9 rfl (lv_at hl 1 rfl) ?_
                        refine va_get (D := G) (ci := 9) (v := .int wce) (C := RX9) (T := TX9) (N := 11) hx hb hts inB9 hown hE.1 hP 0 rfl rfl 1 (by decide) (hts _ m_260) (fun _ h9 => h9) rfl dX9_yardsHeldFree_10 ?_
                        refine lv_aload_n hx hb dX9_yardsHeldFree_13 rfl (lv_at hl 1 rfl) ?_
                        refine va_get (D := G) (ci := 9) (v := .int wsi) (C := RX9) (T := TX9) (N := 11) hx hb hts inB9 hown hE.1 hP 0 rfl rfl 2 (by decide) (hts _ m_264) (fun _ h9 => h9) rfl dX9_yardsHeldFree_14 ?_
                        refine lv_iload_n hx hb dX9_yardsHeldFree_17 rfl (lv_at hl 0 rfl) ?_
                        refine lv_iconst (v := 1) hx hb dX9_yardsHeldFree_18 (by decide) ?_
                        refine lv_iadd hx hb dX9_yardsHeldFree_19 ?_
                        refine tp (v := 12) (by decide) ?_
                        refine grS (rest := [.ref wk]) hx hb hml hown hts hE (c_X7_cellFrom l G cy sk sa s.heap.size wce wsi 12) kS_X7_cellFrom m_1049 rfl rfl ⟨(Nat.le_of_ble_eq_true rfl), (Nat.le_of_ble_eq_true rfl)⟩ hP hD hS hT [] rfl rfl rfl rfl hl.1 (Nat.le_of_ble_eq_true rfl) dX9_yardsHeldFree_20 ⟨Nat.zero_le _, Nat.zero_le _⟩ (fun r_45 hr_ => ?_)
                        have h_46 := hr_
                        refine grV (rest := []) hx hb hml hown hts hE (c_X9_held l G cy sk sa s.heap.size wk ye no wki wce wsi wpi wlo wev wgo wbu wcl fy fn r_45) kV_X9_held m_946 rfl rfl ⟨(Nat.le_of_ble_eq_true rfl), (Nat.le_of_ble_eq_true rfl)⟩ hP hD hS hT 0 rfl rfl rfl [0, 1, 2] rfl rfl rfl rfl hl.1 (Nat.le_of_ble_eq_true rfl) dX9_yardsHeldFree_23 ⟨Nat.zero_le _, Nat.zero_le _⟩ (fun r_47 hr_ => ?_)
                        refine lv_iconst (v := 1) hx hb dX9_yardsHeldFree_26 (by decide) ?_
                        refine lv_icmp_ne (tgt := 36) hx hb dX9_yardsHeldFree_27 (by decide) (fun c_48 => ?_) (fun c_48 => ?_)
                        · refine lv_iload_n hx hb dX9_yardsHeldFree_36 rfl (lv_at hl 0 rfl) ?_
                          exact W.iret (v := 11) hx hb hr (fun t ht hW => ⟨11, rfl, trivial, ht⟩) (fun _ h => by cases h) dX9_yardsHeldFree_37
                        · refine lv_iinc (v := 12) (lv' := [(1, .int 12), (0, .ref wk)]) hx hb dX9_yardsHeldFree_30 hl (k := 0) rfl (by decide) (by decide) rfl (fun ls hl => ?_)
                          refine lv_goto (tgt := 2) hx hb dX9_yardsHeldFree_33 (by decide) ?_
                          refine lv_iload_n hx hb dX9_yardsHeldFree_2 rfl (lv_at hl 0 rfl) ?_
                          refine lv_bipush (v := 15) hx hb dX9_yardsHeldFree_3 (by decide) ?_
                          refine lv_icmp_ge (tgt := 36) hx hb dX9_yardsHeldFree_5 (by decide) (fun h9 => absurd h9 (by decide)) (fun _ => ?_)
                          refine lv_aload_n hx hb dX9_yardsHeldFree_8 rfl (lv_at hl 1 rfl) ?_
                          refine lv_aload_n hx hb dX9_yardsHeldFree_9 rfl (lv_at hl 1 rfl) ?_
                          refine va_get (D := G) (ci := 9) (v := .int wce) (C := RX9) (T := TX9) (N := 11) hx hb hts inB9 hown hE.1 hP 0 rfl rfl 1 (by decide) (hts _ m_260) (fun _ h9 => h9) rfl dX9_yardsHeldFree_10 ?_
                          refine lv_aload_n hx hb dX9_yardsHeldFree_13 rfl (lv_at hl 1 rfl) ?_
                          refine va_get (D := G) (ci := 9) (v := .int wsi) (C := RX9) (T := TX9) (N := 11) hx hb hts inB9 hown hE.1 hP 0 rfl rfl 2 (by decide) (hts _ m_264) (fun _ h9 => h9) rfl dX9_yardsHeldFree_14 ?_
                          refine lv_iload_n hx hb dX9_yardsHeldFree_17 rfl (lv_at hl 0 rfl) ?_
                          refine lv_iconst (v := 1) hx hb dX9_yardsHeldFree_18 (by decide) ?_
                          refine lv_iadd hx hb dX9_yardsHeldFree_19 ?_
                          refine tp (v := 13) (by decide) ?_
                          refine grS (rest := [.ref wk]) hx hb hml hown hts hE (c_X7_cellFrom l G cy sk sa s.heap.size wce wsi 13) kS_X7_cellFrom m_1049 rfl rfl ⟨(Nat.le_of_ble_eq_true rfl), (Nat.le_of_ble_eq_true rfl)⟩ hP hD hS hT [] rfl rfl rfl rfl hl.1 (Nat.le_of_ble_eq_true rfl) dX9_yardsHeldFree_20 ⟨Nat.zero_le _, Nat.zero_le _⟩ (fun r_49 hr_ => ?_)
                          have h_50 := hr_
                          refine grV (rest := []) hx hb hml hown hts hE (c_X9_held l G cy sk sa s.heap.size wk ye no wki wce wsi wpi wlo wev wgo wbu wcl fy fn r_49) kV_X9_held m_946 rfl rfl ⟨(Nat.le_of_ble_eq_true rfl), (Nat.le_of_ble_eq_true rfl)⟩ hP hD hS hT 0 rfl rfl rfl [0, 1, 2] rfl rfl rfl rfl hl.1 (Nat.le_of_ble_eq_true rfl) dX9_yardsHeldFree_23 ⟨Nat.zero_le _, Nat.zero_le _⟩ (fun r_51 hr_ => ?_)
                          refine lv_iconst (v := 1) hx hb dX9_yardsHeldFree_26 (by decide) ?_
                          refine lv_icmp_ne (tgt := 36) hx hb dX9_yardsHeldFree_27 (by decide) (fun c_52 => ?_) (fun c_52 => ?_)
                          · refine lv_iload_n hx hb dX9_yardsHeldFree_36 rfl (lv_at hl 0 rfl) ?_
                            exact W.iret (v := 12) hx hb hr (fun t ht hW => ⟨12, rfl, trivial, ht⟩) (fun _ h => by cases h) dX9_yardsHeldFree_37
                          · refine lv_iinc (v := 13) (lv' := [(1, .int 13), (0, .ref wk)]) hx hb dX9_yardsHeldFree_30 hl (k := 0) rfl (by decide) (by decide) rfl (fun ls hl => ?_)
                            refine lv_goto (tgt := 2) hx hb dX9_yardsHeldFree_33 (by decide) ?_
                            refine lv_iload_n hx hb dX9_yardsHeldFree_2 rfl (lv_at hl 0 rfl) ?_
                            refine lv_bipush (v := 15) hx hb dX9_yardsHeldFree_3 (by decide) ?_
                            refine lv_icmp_ge (tgt := 36) hx hb dX9_yardsHeldFree_5 (by decide) (fun h9 => absurd h9 (by decide)) (fun _ => ?_)
                            refine lv_aload_n hx hb dX9_yardsHeldFree_8 rfl (lv_at hl 1 rfl) ?_
                            refine lv_aload_n hx hb dX9_yardsHeldFree_9 rfl (lv_at hl 1 rfl) ?_
                            refine va_get (D := G) (ci := 9) (v := .int wce) (C := RX9) (T := TX9) (N := 11) hx hb hts inB9 hown hE.1 hP 0 rfl rfl 1 (by decide) (hts _ m_260) (fun _ h9 => h9) rfl dX9_yardsHeldFree_10 ?_
                            refine lv_aload_n hx hb dX9_yardsHeldFree_13 rfl (lv_at hl 1 rfl) ?_
                            refine va_get (D := G) (ci := 9) (v := .int wsi) (C := RX9) (T := TX9) (N := 11) hx hb hts inB9 hown hE.1 hP 0 rfl rfl 2 (by decide) (hts _ m_264) (fun _ h9 => h9) rfl dX9_yardsHeldFree_14 ?_
                            refine lv_iload_n hx hb dX9_yardsHeldFree_17 rfl (lv_at hl 0 rfl) ?_
                            refine lv_iconst (v := 1) hx hb dX9_yardsHeldFree_18 (by decide) ?_
                            refine lv_iadd hx hb dX9_yardsHeldFree_19 ?_
                            refine tp (v := 14) (by decide) ?_
                            refine grS (rest := [.ref wk]) hx hb hml hown hts hE (c_X7_cellFrom l G cy sk sa s.heap.size wce wsi 14) kS_X7_cellFrom m_1049 rfl rfl ⟨(Nat.le_of_ble_eq_true rfl), (Nat.le_of_ble_eq_true rfl)⟩ hP hD hS hT [] rfl rfl rfl rfl hl.1 (Nat.le_of_ble_eq_true rfl) dX9_yardsHeldFree_20 ⟨Nat.zero_le _, Nat.zero_le _⟩ (fun r_53 hr_ => ?_)
                            have h_54 := hr_
                            refine grV (rest := []) hx hb hml hown hts hE (c_X9_held l G cy sk sa s.heap.size wk ye no wki wce wsi wpi wlo wev wgo wbu wcl fy fn r_53) kV_X9_held m_946 rfl rfl ⟨(Nat.le_of_ble_eq_true rfl), (Nat.le_of_ble_eq_true rfl)⟩ hP hD hS hT 0 rfl rfl rfl [0, 1, 2] rfl rfl rfl rfl hl.1 (Nat.le_of_ble_eq_true rfl) dX9_yardsHeldFree_23 ⟨Nat.zero_le _, Nat.zero_le _⟩ (fun r_55 hr_ => ?_)
                            refine lv_iconst (v := 1) hx hb dX9_yardsHeldFree_26 (by decide) ?_
                            refine lv_icmp_ne (tgt := 36) hx hb dX9_yardsHeldFree_27 (by decide) (fun c_56 => ?_) (fun c_56 => ?_)
                            · refine lv_iload_n hx hb dX9_yardsHeldFree_36 rfl (lv_at hl 0 rfl) ?_
                              exact W.iret (v := 13) hx hb hr (fun t ht hW => ⟨13, rfl, trivial, ht⟩) (fun _ h => by cases h) dX9_yardsHeldFree_37
                            · refine lv_iinc (v := 14) (lv' := [(1, .int 14), (0, .ref wk)]) hx hb dX9_yardsHeldFree_30 hl (k := 0) rfl (by decide) (by decide) rfl (fun ls hl => ?_)
                              refine lv_goto (tgt := 2) hx hb dX9_yardsHeldFree_33 (by decide) ?_
                              refine lv_iload_n hx hb dX9_yardsHeldFree_2 rfl (lv_at hl 0 rfl) ?_
                              refine lv_bipush (v := 15) hx hb dX9_yardsHeldFree_3 (by decide) ?_
                              refine lv_icmp_ge (tgt := 36) hx hb dX9_yardsHeldFree_5 (by decide) (fun h9 => absurd h9 (by decide)) (fun _ => ?_)
                              refine lv_aload_n hx hb dX9_yardsHeldFree_8 rfl (lv_at hl 1 rfl) ?_
                              refine lv_aload_n hx hb dX9_yardsHeldFree_9 rfl (lv_at hl 1 rfl) ?_
                              refine va_get (D := G) (ci := 9) (v := .int wce) (C := RX9) (T := TX9) (N := 11) hx hb hts inB9 hown hE.1 hP 0 rfl rfl 1 (by decide) (hts _ m_260) (fun _ h9 => h9) rfl dX9_yardsHeldFree_10 ?_
                              refine lv_aload_n hx hb dX9_yardsHeldFree_13 rfl (lv_at hl 1 rfl) ?_
                              refine va_get (D := G) (ci := 9) (v := .int wsi) (C := RX9) (T := TX9) (N := 11) hx hb hts inB9 hown hE.1 hP 0 rfl rfl 2 (by decide) (hts _ m_264) (fun _ h9 => h9) rfl dX9_yardsHeldFree_14 ?_
                              refine lv_iload_n hx hb dX9_yardsHeldFree_17 rfl (lv_at hl 0 rfl) ?_
                              refine lv_iconst (v := 1) hx hb dX9_yardsHeldFree_18 (by decide) ?_
                              refine lv_iadd hx hb dX9_yardsHeldFree_19 ?_
                              refine tp (v := 15) (by decide) ?_
                              refine grS (rest := [.ref wk]) hx hb hml hown hts hE (c_X7_cellFrom l G cy sk sa s.heap.size wce wsi 15) kS_X7_cellFrom m_1049 rfl rfl ⟨(Nat.le_of_ble_eq_true rfl), (Nat.le_of_ble_eq_true rfl)⟩ hP hD hS hT [] rfl rfl rfl rfl hl.1 (Nat.le_of_ble_eq_true rfl) dX9_yardsHeldFree_20 ⟨Nat.zero_le _, Nat.zero_le _⟩ (fun r_57 hr_ => ?_)
                              have h_58 := hr_
                              refine grV (rest := []) hx hb hml hown hts hE (c_X9_held l G cy sk sa s.heap.size wk ye no wki wce wsi wpi wlo wev wgo wbu wcl fy fn r_57) kV_X9_held m_946 rfl rfl ⟨(Nat.le_of_ble_eq_true rfl), (Nat.le_of_ble_eq_true rfl)⟩ hP hD hS hT 0 rfl rfl rfl [0, 1, 2] rfl rfl rfl rfl hl.1 (Nat.le_of_ble_eq_true rfl) dX9_yardsHeldFree_23 ⟨Nat.zero_le _, Nat.zero_le _⟩ (fun r_59 hr_ => ?_)
                              refine lv_iconst (v := 1) hx hb dX9_yardsHeldFree_26 (by decide) ?_
                              refine lv_icmp_ne (tgt := 36) hx hb dX9_yardsHeldFree_27 (by decide) (fun c_60 => ?_) (fun c_60 => ?_)
                              · refine lv_iload_n hx hb dX9_yardsHeldFree_36 rfl (lv_at hl 0 rfl) ?_
                                exact W.iret (v := 14) hx hb hr (fun t ht hW => ⟨14, rfl, trivial, ht⟩) (fun _ h => by cases h) dX9_yardsHeldFree_37
                              · refine lv_iinc (v := 15) (lv' := [(1, .int 15), (0, .ref wk)]) hx hb dX9_yardsHeldFree_30 hl (k := 0) rfl (by decide) (by decide) rfl (fun ls hl => ?_)
                                refine lv_goto (tgt := 2) hx hb dX9_yardsHeldFree_33 (by decide) ?_
                                refine lv_iload_n hx hb dX9_yardsHeldFree_2 rfl (lv_at hl 0 rfl) ?_
                                refine lv_bipush (v := 15) hx hb dX9_yardsHeldFree_3 (by decide) ?_
                                refine lv_icmp_ge (tgt := 36) hx hb dX9_yardsHeldFree_5 (by decide) (fun _ => ?_) (fun h9 => absurd h9 (by decide))
                                refine lv_iload_n hx hb dX9_yardsHeldFree_36 rfl (lv_at hl 0 rfl) ?_
                                exact W.iret (v := 15) hx hb hr (fun t ht hW => ⟨15, rfl, trivial, ht⟩) (fun _ h => by cases h) dX9_yardsHeldFree_37
set_option maxHeartbeats 4000000 in
set_option maxRecDepth 100000 in
theorem c_X9_isOf (l : Launch) (G : va_G) (cy : Nat → ClassId) (sk sa : Nat → Nat) (sz : Nat) (wk : Nat) (ye : Nat) (no : Nat) (wki : Int32) (wce : Int32) (wsi : Int32) (wpi : Int32) (wlo : Int32) (wev : Int32) (wgo : Int32) (wbu : Int32) (wcl : Int32) (v : Int32)  : Met l yX9_isOf (wsO yX9_isOf cX9_isOf 4 (some .boolean)) ({ frames := 1, cells := 0, slots := 0, locals := 20 }) (va_Pc [.ref wk, .int v] (PG G cy sk sa sz [(wk, .inr (9, [.int wki, .int wce, .int wsi, .int wpi, .int wlo, .int wev, .int wgo, .int wbu, .int wcl, .ref ye, .ref no]))])) (vp_Si (fun _ => True)) 0 0 (fun _ => False) := by
  refine mgr (by decide) (Nat.le_of_ble_eq_true rfl) ?_
  intro p e s m below meth c ls A hx hb hr hml hts hown hlocks hin hsz hP hE hD hS hT hl
  subst hsz
  have hl : lv_has ls 4 [(0, .ref wk), (1, .int v)] := hl
  refine lv_aload_n hx hb dX9_isOf_0 rfl (lv_at hl 0 rfl) ?_
  refine va_get (D := G) (ci := 9) (v := .int wki) (C := RX9) (T := TX9) (N := 11) hx hb hts inB9 hown hE.1 hP 0 rfl rfl 0 (by decide) (hts _ m_258) (fun _ h9 => h9) rfl dX9_isOf_1 ?_
  refine lv_istore_n (lv' := [(2, .int wki), (0, .ref wk), (1, .int v)]) hx hb dX9_isOf_4 rfl hl (by decide) rfl (fun ls hl => ?_)
  refine lv_iconst (v := 0) hx hb dX9_isOf_5 (by decide) ?_
  refine lv_istore_n (lv' := [(3, .int 0), (2, .int wki), (0, .ref wk), (1, .int v)]) hx hb dX9_isOf_6 rfl hl (by decide) rfl (fun ls hl => ?_)
  have lp1 : ∀ (nn i : Nat), i ≤ 8 → 8 + 1 ≤ i + nn → ∀ (kk : Int32), ∀ (ls : Array Slot), lv_has ls 4 [(3, .int (nI i)), (2, .int kk), (0, .ref wk), (1, .int v)] → W p l e (headSpec (wsO yX9_isOf cX9_isOf 4 (some .boolean)) ({ frames := 1, cells := 0, slots := 0, locals := 20 })).room s m [.ref wk, .int v].toArray below meth c s.heap [] 0 0 (MQ below (vp_Si (fun _ => True)) [.ref wk, .int v].toArray s 0 0 (fun _ => False)) (F0 m 7 ls []) := by
    intro nn
    induction nn with
    | zero => intro i h1 h2; exact absurd h2 (by omega)
    | succ nn ih =>
      intro i hi hin0 kk ls hl
      rcases Nat.lt_or_ge i 8 with hlt | hge
      · refine lv_iload_n hx hb dX9_isOf_7 rfl (lv_at hl 0 rfl) ?_
        refine lv_bipush (v := 8) hx hb dX9_isOf_8 (by decide) ?_
        refine lv_icmp_ge (tgt := 35) hx hb dX9_isOf_10 (by decide) (fun h9 => absurd h9 (nI_ge hlt (by decide))) (fun _ => ?_)
        refine lv_iload_n hx hb dX9_isOf_13 rfl (lv_at hl 1 rfl) ?_
        refine lv_if_lt (tgt := 35) hx hb dX9_isOf_14 (by decide) (fun c_2 => ?_) (fun c_2 => ?_)
        · refine lv_iconst (v := 0) hx hb dX9_isOf_35 (by decide) ?_
          exact W.zret (v := 0) hx hb hr rfl (fun t ht hW => ⟨0, rfl, trivial, ht⟩) (fun _ h => by cases h) dX9_isOf_36
        · refine lv_iload_n hx hb dX9_isOf_17 rfl (lv_at hl 1 rfl) ?_
          refine lv_iload_n hx hb dX9_isOf_18 rfl (lv_at hl 3 rfl) ?_
          refine lv_icmp_ne (tgt := 24) hx hb dX9_isOf_19 (by decide) (fun c_3 => ?_) (fun c_3 => ?_)
          · refine lv_iload_n hx hb dX9_isOf_24 rfl (lv_at hl 1 rfl) ?_
            refine grS (rest := []) hx hb hml hown hts hE (c_X9_kindAbove l G cy sk sa s.heap.size kk) kS_X9_kindAbove m_643 rfl rfl ⟨(Nat.le_of_ble_eq_true rfl), (Nat.le_of_ble_eq_true rfl)⟩ hP hD hS hT [] rfl rfl rfl rfl hl.1 (Nat.le_of_ble_eq_true rfl) dX9_isOf_25 ⟨Nat.zero_le _, Nat.zero_le _⟩ (fun r_4 hr_ => ?_)
            refine lv_istore_n (lv' := [(2, .int r_4), (3, .int (nI i)), (0, .ref wk), (1, .int v)]) hx hb dX9_isOf_28 rfl hl (by decide) rfl (fun ls hl => ?_)
            refine lv_iinc (v := (nI (i + 1))) (lv' := [(3, .int (nI (i + 1))), (2, .int r_4), (0, .ref wk), (1, .int v)]) hx hb dX9_isOf_29 hl (k := 1) rfl (nI_1 (i)) (by decide) rfl (fun ls hl => ?_)
            refine lv_goto (tgt := 7) hx hb dX9_isOf_32 (by decide) ?_
            exact ih (i + 1) hlt (by omega) r_4 ls (lv_sub hl [0, 1, 2, 3] rfl)
          · refine lv_iconst (v := 1) hx hb dX9_isOf_22 (by decide) ?_
            exact W.zret (v := 1) hx hb hr rfl (fun t ht hW => ⟨1, rfl, trivial, ht⟩) (fun _ h => by cases h) dX9_isOf_23
      · have hie : i = 8 := Nat.le_antisymm hi hge
        subst hie
        refine lv_iload_n hx hb dX9_isOf_7 rfl (lv_at hl 0 rfl) ?_
        refine lv_bipush (v := 8) hx hb dX9_isOf_8 (by decide) ?_
        refine lv_icmp_ge (tgt := 35) hx hb dX9_isOf_10 (by decide) (fun _ => ?_) (fun h9 => absurd (Int32.le_refl _) h9)
        refine lv_iconst (v := 0) hx hb dX9_isOf_35 (by decide) ?_
        exact W.zret (v := 0) hx hb hr rfl (fun t ht hW => ⟨0, rfl, trivial, ht⟩) (fun _ h => by cases h) dX9_isOf_36
  exact lp1 (8 + 1) 0 (Nat.zero_le _) (by omega) wki ls (lv_sub hl [0, 1, 2, 3] rfl)
theorem sw_c_X9_factOf_0 (v : Int32) : v = 0 ∨ v = 1 ∨ v = 2 ∨ v = 3 ∨ v = 4 ∨ v = 5 ∨ v = 6 ∨ v = 7 ∨ v = 8 ∨ v = 9 ∨ v = 10 ∨ (v.toInt < 0 ∨ 10 < v.toInt) := by
  have e : v.toInt = 0 ∨ v.toInt = 1 ∨ v.toInt = 2 ∨ v.toInt = 3 ∨ v.toInt = 4 ∨ v.toInt = 5 ∨ v.toInt = 6 ∨ v.toInt = 7 ∨ v.toInt = 8 ∨ v.toInt = 9 ∨ v.toInt = 10 ∨ (v.toInt < 0 ∨ 10 < v.toInt) := by omega
  rcases e with e | e | e | e | e | e | e | e | e | e | e | e
  · exact Or.inl (Int32.toInt_inj.mp e)
  · exact Or.inr (Or.inl (Int32.toInt_inj.mp e))
  · exact Or.inr (Or.inr (Or.inl (Int32.toInt_inj.mp e)))
  · exact Or.inr (Or.inr (Or.inr (Or.inl (Int32.toInt_inj.mp e))))
  · exact Or.inr (Or.inr (Or.inr (Or.inr (Or.inl (Int32.toInt_inj.mp e)))))
  · exact Or.inr (Or.inr (Or.inr (Or.inr (Or.inr (Or.inl (Int32.toInt_inj.mp e))))))
  · exact Or.inr (Or.inr (Or.inr (Or.inr (Or.inr (Or.inr (Or.inl (Int32.toInt_inj.mp e)))))))
  · exact Or.inr (Or.inr (Or.inr (Or.inr (Or.inr (Or.inr (Or.inr (Or.inl (Int32.toInt_inj.mp e))))))))
  · exact Or.inr (Or.inr (Or.inr (Or.inr (Or.inr (Or.inr (Or.inr (Or.inr (Or.inl (Int32.toInt_inj.mp e)))))))))
  · exact Or.inr (Or.inr (Or.inr (Or.inr (Or.inr (Or.inr (Or.inr (Or.inr (Or.inr (Or.inl (Int32.toInt_inj.mp e))))))))))
  · exact Or.inr (Or.inr (Or.inr (Or.inr (Or.inr (Or.inr (Or.inr (Or.inr (Or.inr (Or.inr (Or.inl (Int32.toInt_inj.mp e)))))))))))
  · exact Or.inr (Or.inr (Or.inr (Or.inr (Or.inr (Or.inr (Or.inr (Or.inr (Or.inr (Or.inr (Or.inr (e)))))))))))
set_option maxHeartbeats 4000000 in
set_option maxRecDepth 100000 in
theorem c_X9_factOf (l : Launch) (G : va_G) (cy : Nat → ClassId) (sk sa : Nat → Nat) (sz : Nat) (wk : Nat) (ye : Nat) (no : Nat) (wki : Int32) (wce : Int32) (wsi : Int32) (wpi : Int32) (wlo : Int32) (wev : Int32) (wgo : Int32) (wbu : Int32) (wcl : Int32) (fy : Nat → Int32) (fn : Nat → Int32) (v : Int32)  : Met l yX9_factOf (wsO yX9_factOf cX9_factOf 2 (some .int)) ({ frames := 1, cells := 0, slots := 0, locals := 20 }) (va_Pc [.ref wk, .int v] (PG G cy sk sa sz [(wk, .inr (9, [.int wki, .int wce, .int wsi, .int wpi, .int wlo, .int wev, .int wgo, .int wbu, .int wcl, .ref ye, .ref no])), (ye, .inl (cy 0, 192, .inl fy)), (no, .inl (cy 0, 192, .inl fn))])) (vp_Si (fun _ => True)) 0 0 (fun _ => False) := by
  refine mgr (by decide) (Nat.le_of_ble_eq_true rfl) ?_
  intro p e s m below meth c ls A hx hb hr hml hts hown hlocks hin hsz hP hE hD hS hT hl
  subst hsz
  have hl : lv_has ls 2 [(0, .ref wk), (1, .int v)] := hl
  refine lv_iload_n hx hb dX9_factOf_0 rfl (lv_at hl 1 rfl) ?_
  rcases sw_c_X9_factOf_0 v with e_1 | e_1 | e_1 | e_1 | e_1 | e_1 | e_1 | e_1 | e_1 | e_1 | e_1 | e_1
  · refine lv_tableIn (tgt := 60) (off := 59) hx hb dX9_factOf_1 (by rw [e_1]; decide) (by rw [e_1]; decide) (by rw [e_1]; decide) (by decide) ?_
    refine lv_aload_n hx hb dX9_factOf_60 rfl (lv_at hl 0 rfl) ?_
    refine va_get (D := G) (ci := 9) (v := .int wki) (C := RX9) (T := TX9) (N := 11) hx hb hts inB9 hown hE.1 hP 0 rfl rfl 0 (by decide) (hts _ m_258) (fun _ h9 => h9) rfl dX9_factOf_61 ?_
    exact W.iret (v := wki) hx hb hr (fun t ht hW => ⟨wki, rfl, trivial, ht⟩) (fun _ h => by cases h) dX9_factOf_64
  · refine lv_tableIn (tgt := 65) (off := 64) hx hb dX9_factOf_1 (by rw [e_1]; decide) (by rw [e_1]; decide) (by rw [e_1]; decide) (by decide) ?_
    refine lv_aload_n hx hb dX9_factOf_65 rfl (lv_at hl 0 rfl) ?_
    refine va_get (D := G) (ci := 9) (v := .int wce) (C := RX9) (T := TX9) (N := 11) hx hb hts inB9 hown hE.1 hP 0 rfl rfl 1 (by decide) (hts _ m_260) (fun _ h9 => h9) rfl dX9_factOf_66 ?_
    exact W.iret (v := wce) hx hb hr (fun t ht hW => ⟨wce, rfl, trivial, ht⟩) (fun _ h => by cases h) dX9_factOf_69
  · refine lv_tableIn (tgt := 70) (off := 69) hx hb dX9_factOf_1 (by rw [e_1]; decide) (by rw [e_1]; decide) (by rw [e_1]; decide) (by decide) ?_
    refine lv_aload_n hx hb dX9_factOf_70 rfl (lv_at hl 0 rfl) ?_
    refine va_get (D := G) (ci := 9) (v := .int wsi) (C := RX9) (T := TX9) (N := 11) hx hb hts inB9 hown hE.1 hP 0 rfl rfl 2 (by decide) (hts _ m_264) (fun _ h9 => h9) rfl dX9_factOf_71 ?_
    exact W.iret (v := wsi) hx hb hr (fun t ht hW => ⟨wsi, rfl, trivial, ht⟩) (fun _ h => by cases h) dX9_factOf_74
  · refine lv_tableIn (tgt := 75) (off := 74) hx hb dX9_factOf_1 (by rw [e_1]; decide) (by rw [e_1]; decide) (by rw [e_1]; decide) (by decide) ?_
    refine lv_aload_n hx hb dX9_factOf_75 rfl (lv_at hl 0 rfl) ?_
    refine va_get (D := G) (ci := 9) (v := .int wpi) (C := RX9) (T := TX9) (N := 11) hx hb hts inB9 hown hE.1 hP 0 rfl rfl 3 (by decide) (hts _ m_267) (fun _ h9 => h9) rfl dX9_factOf_76 ?_
    exact W.iret (v := wpi) hx hb hr (fun t ht hW => ⟨wpi, rfl, trivial, ht⟩) (fun _ h => by cases h) dX9_factOf_79
  · refine lv_tableIn (tgt := 80) (off := 79) hx hb dX9_factOf_1 (by rw [e_1]; decide) (by rw [e_1]; decide) (by rw [e_1]; decide) (by decide) ?_
    refine lv_aload_n hx hb dX9_factOf_80 rfl (lv_at hl 0 rfl) ?_
    refine va_get (D := G) (ci := 9) (v := .int wlo) (C := RX9) (T := TX9) (N := 11) hx hb hts inB9 hown hE.1 hP 0 rfl rfl 4 (by decide) (hts _ m_270) (fun _ h9 => h9) rfl dX9_factOf_81 ?_
    exact W.iret (v := wlo) hx hb hr (fun t ht hW => ⟨wlo, rfl, trivial, ht⟩) (fun _ h => by cases h) dX9_factOf_84
  · refine lv_tableIn (tgt := 85) (off := 84) hx hb dX9_factOf_1 (by rw [e_1]; decide) (by rw [e_1]; decide) (by rw [e_1]; decide) (by decide) ?_
    refine lv_aload_n hx hb dX9_factOf_85 rfl (lv_at hl 0 rfl) ?_
    refine va_get (D := G) (ci := 9) (v := .int wev) (C := RX9) (T := TX9) (N := 11) hx hb hts inB9 hown hE.1 hP 0 rfl rfl 5 (by decide) (hts _ m_272) (fun _ h9 => h9) rfl dX9_factOf_86 ?_
    exact W.iret (v := wev) hx hb hr (fun t ht hW => ⟨wev, rfl, trivial, ht⟩) (fun _ h => by cases h) dX9_factOf_89
  · refine lv_tableIn (tgt := 90) (off := 89) hx hb dX9_factOf_1 (by rw [e_1]; decide) (by rw [e_1]; decide) (by rw [e_1]; decide) (by decide) ?_
    refine lv_aload_n hx hb dX9_factOf_90 rfl (lv_at hl 0 rfl) ?_
    refine va_get (D := G) (ci := 9) (v := .int wgo) (C := RX9) (T := TX9) (N := 11) hx hb hts inB9 hown hE.1 hP 0 rfl rfl 6 (by decide) (hts _ m_275) (fun _ h9 => h9) rfl dX9_factOf_91 ?_
    refine lv_if_eq (tgt := 101) hx hb dX9_factOf_94 (by decide) (fun c_2 => ?_) (fun c_2 => ?_)
    · refine lv_iconst (v := 0) hx hb dX9_factOf_101 (by decide) ?_
      exact W.iret (v := 0) hx hb hr (fun t ht hW => ⟨0, rfl, trivial, ht⟩) (fun _ h => by cases h) dX9_factOf_102
    · refine lv_iconst (v := 1) hx hb dX9_factOf_97 (by decide) ?_
      refine lv_goto (tgt := 102) hx hb dX9_factOf_98 (by decide) ?_
      exact W.iret (v := 1) hx hb hr (fun t ht hW => ⟨1, rfl, trivial, ht⟩) (fun _ h => by cases h) dX9_factOf_102
  · refine lv_tableIn (tgt := 103) (off := 102) hx hb dX9_factOf_1 (by rw [e_1]; decide) (by rw [e_1]; decide) (by rw [e_1]; decide) (by decide) ?_
    refine lv_aload_n hx hb dX9_factOf_103 rfl (lv_at hl 0 rfl) ?_
    refine va_get (D := G) (ci := 9) (v := .int wbu) (C := RX9) (T := TX9) (N := 11) hx hb hts inB9 hown hE.1 hP 0 rfl rfl 7 (by decide) (hts _ m_278) (fun _ h9 => h9) rfl dX9_factOf_104 ?_
    exact W.iret (v := wbu) hx hb hr (fun t ht hW => ⟨wbu, rfl, trivial, ht⟩) (fun _ h => by cases h) dX9_factOf_107
  · refine lv_tableIn (tgt := 108) (off := 107) hx hb dX9_factOf_1 (by rw [e_1]; decide) (by rw [e_1]; decide) (by rw [e_1]; decide) (by decide) ?_
    refine lv_aload_n hx hb dX9_factOf_108 rfl (lv_at hl 0 rfl) ?_
    refine va_get (D := G) (ci := 9) (v := .int wcl) (C := RX9) (T := TX9) (N := 11) hx hb hts inB9 hown hE.1 hP 0 rfl rfl 8 (by decide) (hts _ m_280) (fun _ h9 => h9) rfl dX9_factOf_109 ?_
    exact W.iret (v := wcl) hx hb hr (fun t ht hW => ⟨wcl, rfl, trivial, ht⟩) (fun _ h => by cases h) dX9_factOf_112
  · refine lv_tableIn (tgt := 113) (off := 112) hx hb dX9_factOf_1 (by rw [e_1]; decide) (by rw [e_1]; decide) (by rw [e_1]; decide) (by decide) ?_
    refine lv_aload_n hx hb dX9_factOf_113 rfl (lv_at hl 0 rfl) ?_
    refine grV (rest := []) hx hb hml hown hts hE (c_X9_reach l G cy sk sa s.heap.size wk ye no wki wce wsi wpi wlo wev wgo wbu wcl) kV_X9_reach m_617 rfl rfl ⟨(Nat.le_of_ble_eq_true rfl), (Nat.le_of_ble_eq_true rfl)⟩ hP hD hS hT 0 rfl rfl rfl [0] rfl rfl rfl rfl hl.1 (Nat.le_of_ble_eq_true rfl) dX9_factOf_114 ⟨Nat.zero_le _, Nat.zero_le _⟩ (fun r_3 hr_ => ?_)
    exact W.iret (v := r_3) hx hb hr (fun t ht hW => ⟨r_3, rfl, trivial, ht⟩) (fun _ h => by cases h) dX9_factOf_117
  · refine lv_tableIn (tgt := 118) (off := 117) hx hb dX9_factOf_1 (by rw [e_1]; decide) (by rw [e_1]; decide) (by rw [e_1]; decide) (by decide) ?_
    refine lv_aload_n hx hb dX9_factOf_118 rfl (lv_at hl 0 rfl) ?_
    refine grV (rest := []) hx hb hml hown hts hE (c_X9_speed l G cy sk sa s.heap.size wk ye no wki wce wsi wpi wlo wev wgo wbu wcl) kV_X9_speed m_623 rfl rfl ⟨(Nat.le_of_ble_eq_true rfl), (Nat.le_of_ble_eq_true rfl)⟩ hP hD hS hT 0 rfl rfl rfl [0] rfl rfl rfl rfl hl.1 (Nat.le_of_ble_eq_true rfl) dX9_factOf_119 ⟨Nat.zero_le _, Nat.zero_le _⟩ (fun r_4 hr_ => ?_)
    exact W.iret (v := r_4) hx hb hr (fun t ht hW => ⟨r_4, rfl, trivial, ht⟩) (fun _ h => by cases h) dX9_factOf_122
  · refine lv_tableOut (tgt := 123) hx hb dX9_factOf_1 e_1 (by decide) ?_
    refine lv_aload_n hx hb dX9_factOf_123 rfl (lv_at hl 0 rfl) ?_
    refine grV (rest := []) hx hb hml hown hts hE (c_X9_ears l G cy sk sa s.heap.size wk ye no wki wce wsi wpi wlo wev wgo wbu wcl) kV_X9_ears m_629 rfl rfl ⟨(Nat.le_of_ble_eq_true rfl), (Nat.le_of_ble_eq_true rfl)⟩ hP hD hS hT 0 rfl rfl rfl [0] rfl rfl rfl rfl hl.1 (Nat.le_of_ble_eq_true rfl) dX9_factOf_124 ⟨Nat.zero_le _, Nat.zero_le _⟩ (fun r_5 hr_ => ?_)
    exact W.iret (v := r_5) hx hb hr (fun t ht hW => ⟨r_5, rfl, trivial, ht⟩) (fun _ h => by cases h) dX9_factOf_127
theorem lf_c_X6_isMissing_0 (bi : Int32) (c_1 : ¬ bi = 0) : ¬ bi = 0 := by first | rfl | assumption | simp_all
theorem lf_c_X6_isMissing_1 (bi : Int32) (c_1 : bi = 0) : bi = 0 := by first | rfl | assumption | simp_all
set_option maxHeartbeats 4000000 in
set_option maxRecDepth 100000 in
theorem c_X6_isMissing (l : Launch) (G : va_G) (cy : Nat → ClassId) (sk sa : Nat → Nat) (sz : Nat) (sh : Nat) (nu : Nat) (bi : Int32) (sz_ : Int32)  : Met l yX6_isMissing (wsO yX6_isMissing cX6_isMissing 1 (some .boolean)) ({ frames := 0, cells := 0, slots := 0, locals := 0 }) (va_Pc [.ref sh] (PG G cy sk sa sz [(sh, .inr (6, [.int bi, .int sz_, .ref nu]))])) (vp_Si (fun r => (r = 1 ∧ bi = 0) ∨ (r = 0 ∧ ¬ bi = 0))) 0 0 (fun _ => False) := by
  refine mgr (by decide) (Nat.le_of_ble_eq_true rfl) ?_
  intro p e s m below meth c ls A hx hb hr hml hts hown hlocks hin hsz hP hE hD hS hT hl
  subst hsz
  have hl : lv_has ls 1 [(0, .ref sh)] := hl
  refine lv_aload_n hx hb dX6_isMissing_0 rfl (lv_at hl 0 rfl) ?_
  refine va_get (D := G) (ci := 6) (v := .int bi) (C := RX6) (T := TX6) (N := 3) hx hb hts inB6 hown hE.1 hP 0 rfl rfl 0 (by decide) (hts _ m_445) (fun _ h9 => h9) rfl dX6_isMissing_1 ?_
  refine lv_if_ne (tgt := 11) hx hb dX6_isMissing_4 (by decide) (fun c_1 => ?_) (fun c_1 => ?_)
  · refine lv_iconst (v := 0) hx hb dX6_isMissing_11 (by decide) ?_
    exact W.zret (v := 0) hx hb hr rfl (fun t ht hW => ⟨0, rfl, (Or.inr ⟨rfl, (lf_c_X6_isMissing_0 bi c_1)⟩), ht⟩) (fun _ h => by cases h) dX6_isMissing_12
  · refine lv_iconst (v := 1) hx hb dX6_isMissing_7 (by decide) ?_
    refine lv_goto (tgt := 12) hx hb dX6_isMissing_8 (by decide) ?_
    exact W.zret (v := 1) hx hb hr rfl (fun t ht hW => ⟨1, rfl, (Or.inl ⟨rfl, (lf_c_X6_isMissing_1 bi c_1)⟩), ht⟩) (fun _ h => by cases h) dX6_isMissing_12
def B_c_X6_drop (G : va_G) (cy : Nat → ClassId) (A : Nat → Prop) (sh : Nat) (nu : Nat) (bi : Int32) (sz_ : Int32) (H : Heap) : Prop := va_P G classes [(sh, .inr (6, [.int 0, .int 0, .ref nu]))] H ∧ va_D A [(sh, .inr (6, [.int 0, .int 0, .ref nu]))]
set_option maxHeartbeats 4000000 in
set_option maxRecDepth 100000 in
theorem c_X6_drop (l : Launch) (G : va_G) (cy : Nat → ClassId) (sk sa : Nat → Nat) (sz : Nat) (sh : Nat) (nu : Nat) (bi : Int32) (sz_ : Int32)  : Met l yX6_drop (wsO yX6_drop cX6_drop 1 none) ({ frames := 0, cells := 0, slots := 0, locals := 0 }) (va_Pc [.ref sh] (PG G cy sk sa sz [(sh, .inr (6, [.int bi, .int sz_, .ref nu]))])) (va_Qv (fun (_ : Unit) => True) (fun _ t => B_c_X6_drop G cy (va_A [(sh, .inr (6, [.int bi, .int sz_, .ref nu]))] sz) sh nu bi sz_ t.heap) (va_A [(sh, .inr (6, [.int bi, .int sz_, .ref nu]))] sz)) 0 0 (va_A [(sh, .inr (6, [.int bi, .int sz_, .ref nu]))] sz) := by
  refine mgw (Qc := fun A => (va_Qv (fun (_ : Unit) => True) (fun _ t => B_c_X6_drop G cy A sh nu bi sz_ t.heap) A)) (by decide) (Nat.le_of_ble_eq_true rfl) ?_
  intro p e s m below meth c ls A hx hb hr hml hts hown hlocks hin hP hE hD hS hA hT hl
  have hl : lv_has ls 1 [(0, .ref sh)] := hl
  refine lv_aload_n hx hb dX6_drop_0 rfl (lv_at hl 0 rfl) ?_
  refine lv_iconst (v := 0) hx hb dX6_drop_1 (by decide) ?_
  refine va_put (D := G) (ci := 6) (v := .int 0) (ty := .int) (C := RX6) (T := TX6) (N := 3) hx hb hts inB6 tyX6 tyX6_ok nmX6 hown hE.1 hP hD hS 0 rfl rfl 0 (by decide) (hts _ m_445) (fun _ h9 => h9) rfl (by decide +kernel) rfl rfl (Nat.le_of_ble_eq_true rfl) dX6_drop_2 (fun H locs hP hD hS => ?_)
  have hP : va_P G classes [(sh, .inr (6, [.int 0, .int sz_, .ref nu]))] H := hP
  have hD : va_D A [(sh, .inr (6, [.int 0, .int sz_, .ref nu]))] := hD
  refine lv_aload_n hx hb dX6_drop_5 rfl (lv_at hl 0 rfl) ?_
  refine lv_iconst (v := 0) hx hb dX6_drop_6 (by decide) ?_
  refine va_put (D := G) (ci := 6) (v := .int 0) (ty := .int) (C := RX6) (T := TX6) (N := 3) hx hb hts inB6 tyX6 tyX6_ok nmX6 hown hE.1 hP hD hS 0 rfl rfl 1 (by decide) (hts _ m_447) (fun _ h9 => h9) rfl (by decide +kernel) rfl rfl (Nat.le_of_ble_eq_true rfl) dX6_drop_7 (fun H locs hP hD hS => ?_)
  have hP : va_P G classes [(sh, .inr (6, [.int 0, .int 0, .ref nu]))] H := hP
  have hD : va_D A [(sh, .inr (6, [.int 0, .int 0, .ref nu]))] := hD
  have hP9 := P_cut (wc := [(sh, .inr (6, [.int 0, .int 0, .ref nu]))]) hP [0] rfl
  have hD9 := hD.sub (ws' := [(sh, .inr (6, [.int 0, .int 0, .ref nu]))]) [0] (by decide) rfl
  refine W.widen (k := 0) (n := 0) (by first | exact Nat.le_of_ble_eq_true rfl | omega) (by first | exact Nat.le_of_ble_eq_true rfl | omega) ?_
  exact W.vret hx hb hr (fun t ht hW => ⟨⟨(), rfl, trivial, by dsimp only; rw [ht]; exact ⟨hP9, hD9⟩⟩, hS.F ht⟩) hS.2.2 dX6_drop_10
set_option maxHeartbeats 4000000 in
set_option maxRecDepth 100000 in
theorem c_X6_hasRun (l : Launch) (G : va_G) (cy : Nat → ClassId) (sk sa : Nat → Nat) (sz : Nat) (sh : Nat) (nu : Nat) (bi : Int32) (sz_ : Int32) (v : Int32) (n : Int32)  : Met l yX6_hasRun (wsO yX6_hasRun cX6_hasRun 3 (some .boolean)) ({ frames := 0, cells := 0, slots := 0, locals := 0 }) (va_Pc [.ref sh, .int v, .int n] (PG G cy sk sa sz [(sh, .inr (6, [.int bi, .int sz_, .ref nu]))])) (vp_Si (fun _ => True)) 0 0 (fun _ => False) := by
  refine mgr (by decide) (Nat.le_of_ble_eq_true rfl) ?_
  intro p e s m below meth c ls A hx hb hr hml hts hown hlocks hin hsz hP hE hD hS hT hl
  subst hsz
  have hl : lv_has ls 3 [(0, .ref sh), (1, .int v), (2, .int n)] := hl
  refine lv_iload_n hx hb dX6_hasRun_0 rfl (lv_at hl 1 rfl) ?_
  refine lv_if_lt (tgt := 30) hx hb dX6_hasRun_1 (by decide) (fun c_1 => ?_) (fun c_1 => ?_)
  · refine lv_iconst (v := 0) hx hb dX6_hasRun_30 (by decide) ?_
    exact W.zret (v := 0) hx hb hr rfl (fun t ht hW => ⟨0, rfl, trivial, ht⟩) (fun _ h => by cases h) dX6_hasRun_31
  · refine lv_iload_n hx hb dX6_hasRun_4 rfl (lv_at hl 2 rfl) ?_
    refine lv_if_lt (tgt := 30) hx hb dX6_hasRun_5 (by decide) (fun c_2 => ?_) (fun c_2 => ?_)
    · refine lv_iconst (v := 0) hx hb dX6_hasRun_30 (by decide) ?_
      exact W.zret (v := 0) hx hb hr rfl (fun t ht hW => ⟨0, rfl, trivial, ht⟩) (fun _ h => by cases h) dX6_hasRun_31
    · refine lv_iload_n hx hb dX6_hasRun_8 rfl (lv_at hl 1 rfl) ?_
      refine lv_aload_n hx hb dX6_hasRun_9 rfl (lv_at hl 0 rfl) ?_
      refine va_get (D := G) (ci := 6) (v := .int sz_) (C := RX6) (T := TX6) (N := 3) hx hb hts inB6 hown hE.1 hP 0 rfl rfl 1 (by decide) (hts _ m_447) (fun _ h9 => h9) rfl dX6_hasRun_10 ?_
      refine lv_icmp_gt (tgt := 30) hx hb dX6_hasRun_13 (by decide) (fun c_3 => ?_) (fun c_3 => ?_)
      · refine lv_iconst (v := 0) hx hb dX6_hasRun_30 (by decide) ?_
        exact W.zret (v := 0) hx hb hr rfl (fun t ht hW => ⟨0, rfl, trivial, ht⟩) (fun _ h => by cases h) dX6_hasRun_31
      · refine lv_iload_n hx hb dX6_hasRun_16 rfl (lv_at hl 2 rfl) ?_
        refine lv_aload_n hx hb dX6_hasRun_17 rfl (lv_at hl 0 rfl) ?_
        refine va_get (D := G) (ci := 6) (v := .int sz_) (C := RX6) (T := TX6) (N := 3) hx hb hts inB6 hown hE.1 hP 0 rfl rfl 1 (by decide) (hts _ m_447) (fun _ h9 => h9) rfl dX6_hasRun_18 ?_
        refine lv_iload_n hx hb dX6_hasRun_21 rfl (lv_at hl 1 rfl) ?_
        refine lv_isub hx hb dX6_hasRun_22 ?_
        refine lv_icmp_gt (tgt := 30) hx hb dX6_hasRun_23 (by decide) (fun c_4 => ?_) (fun c_4 => ?_)
        · refine lv_iconst (v := 0) hx hb dX6_hasRun_30 (by decide) ?_
          exact W.zret (v := 0) hx hb hr rfl (fun t ht hW => ⟨0, rfl, trivial, ht⟩) (fun _ h => by cases h) dX6_hasRun_31
        · refine lv_iconst (v := 1) hx hb dX6_hasRun_26 (by decide) ?_
          refine lv_goto (tgt := 31) hx hb dX6_hasRun_27 (by decide) ?_
          exact W.zret (v := 1) hx hb hr rfl (fun t ht hW => ⟨1, rfl, trivial, ht⟩) (fun _ h => by cases h) dX6_hasRun_31
