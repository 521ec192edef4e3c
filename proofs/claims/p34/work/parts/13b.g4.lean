set_option maxHeartbeats 4000000 in
set_option maxRecDepth 100000 in
theorem c_X9_countHeld (l : Launch) (G : va_G) (cy : Nat → ClassId) (sk sa : Nat → Nat) (sz : Nat) (wk : Nat) (ye : Nat) (no : Nat) (wki : Int32) (wce : Int32) (wsi : Int32) (wpi : Int32) (wlo : Int32) (wev : Int32) (wgo : Int32) (wbu : Int32) (wcl : Int32) (fy : Nat → Int32) (fn : Nat → Int32) (v : Int32)  : Met l yX9_countHeld (wsO yX9_countHeld cX9_countHeld 4 (some .int)) ({ frames := 2, cells := 0, slots := 0, locals := 41 }) (va_Pc [.ref wk, .int v] (PG G cy sk sa sz [(wk, .inr (9, [.int wki, .int wce, .int wsi, .int wpi, .int wlo, .int wev, .int wgo, .int wbu, .int wcl, .ref ye, .ref no])), (ye, .inl (cy 0, 192, .inl fy)), (no, .inl (cy 0, 192, .inl fn))])) (vp_Si (fun _ => True)) 0 0 (fun _ => False) := by
  refine mgr (by decide) (Nat.le_of_ble_eq_true rfl) ?_
  intro p e s m below meth c ls A hx hb hr hml hts hown hlocks hin hsz hP hE hD hS hT hl
  subst hsz
  have hl : lv_has ls 4 [(0, .ref wk), (1, .int v)] := hl
  refine lv_iconst (v := 0) hx hb dX9_countHeld_0 (by decide) ?_
  refine lv_istore_n (lv' := [(2, .int 0), (0, .ref wk), (1, .int v)]) hx hb dX9_countHeld_1 rfl hl (by decide) rfl (fun ls hl => ?_)
  refine lv_iconst (v := 0) hx hb dX9_countHeld_2 (by decide) ?_
  refine lv_istore_n (lv' := [(3, .int 0), (2, .int 0), (0, .ref wk), (1, .int v)]) hx hb dX9_countHeld_3 rfl hl (by decide) rfl (fun ls hl => ?_)
  have lp1 : ∀ (nn i : Nat), i ≤ 192 → 192 + 1 ≤ i + nn → ∀ (cn : Int32), ∀ (ls : Array Slot), lv_has ls 4 [(3, .int (nI i)), (2, .int cn), (0, .ref wk), (1, .int v)] → W p l e (headSpec (wsO yX9_countHeld cX9_countHeld 4 (some .int)) ({ frames := 2, cells := 0, slots := 0, locals := 41 })).room s m [.ref wk, .int v].toArray below meth c s.heap [] 0 0 (MQ below (vp_Si (fun _ => True)) [.ref wk, .int v].toArray s 0 0 (fun _ => False)) (F0 m 4 ls []) := by
    intro nn
    induction nn with
    | zero => intro i h1 h2; exact absurd h2 (by omega)
    | succ nn ih =>
      intro i hi hin0 cn ls hl
      rcases Nat.lt_or_ge i 192 with hlt | hge
      · refine lv_iload_n hx hb dX9_countHeld_4 rfl (lv_at hl 0 rfl) ?_
        refine lv_sipush (v := 192) hx hb dX9_countHeld_5 (by decide) ?_
        refine lv_icmp_ge (tgt := 29) hx hb dX9_countHeld_8 (by decide) (fun h9 => absurd h9 (nI_ge hlt (by decide))) (fun _ => ?_)
        refine lv_aload_n hx hb dX9_countHeld_11 rfl (lv_at hl 2 rfl) ?_
        refine lv_iload_n hx hb dX9_countHeld_12 rfl (lv_at hl 0 rfl) ?_
        refine grV (rest := []) hx hb hml hown hts hE (c_X9_held l G cy sk sa s.heap.size wk ye no wki wce wsi wpi wlo wev wgo wbu wcl fy fn (nI i)) kV_X9_held m_946 rfl rfl ⟨(Nat.le_of_ble_eq_true rfl), (Nat.le_of_ble_eq_true rfl)⟩ hP hD hS hT 0 rfl rfl rfl [0, 1, 2] rfl rfl rfl rfl hl.1 (Nat.le_of_ble_eq_true rfl) dX9_countHeld_13 ⟨Nat.zero_le _, Nat.zero_le _⟩ (fun r_2 hr_ => ?_)
        refine lv_iload_n hx hb dX9_countHeld_16 rfl (lv_at hl 3 rfl) ?_
        refine lv_icmp_ne (tgt := 23) hx hb dX9_countHeld_17 (by decide) (fun c_3 => ?_) (fun c_3 => ?_)
        · refine lv_iinc (v := (nI (i + 1))) (lv' := [(3, .int (nI (i + 1))), (2, .int cn), (0, .ref wk), (1, .int v)]) hx hb dX9_countHeld_23 hl (k := 0) rfl (nI_1 (i)) (by decide) rfl (fun ls hl => ?_)
          refine lv_goto (tgt := 4) hx hb dX9_countHeld_26 (by decide) ?_
          exact ih (i + 1) hlt (by omega) cn ls (lv_sub hl [0, 1, 2, 3] rfl)
        · refine lv_iinc (v := (cn + 1)) (lv' := [(2, .int (cn + 1)), (3, .int (nI i)), (0, .ref wk), (1, .int v)]) hx hb dX9_countHeld_20 hl (k := 1) rfl rfl (by decide) rfl (fun ls hl => ?_)
          refine lv_iinc (v := (nI (i + 1))) (lv' := [(3, .int (nI (i + 1))), (2, .int (cn + 1)), (0, .ref wk), (1, .int v)]) hx hb dX9_countHeld_23 hl (k := 1) rfl (nI_1 (i)) (by decide) rfl (fun ls hl => ?_)
          refine lv_goto (tgt := 4) hx hb dX9_countHeld_26 (by decide) ?_
          exact ih (i + 1) hlt (by omega) (cn + 1) ls (lv_sub hl [0, 1, 2, 3] rfl)
      · have hie : i = 192 := Nat.le_antisymm hi hge
        subst hie
        refine lv_iload_n hx hb dX9_countHeld_4 rfl (lv_at hl 0 rfl) ?_
        refine lv_sipush (v := 192) hx hb dX9_countHeld_5 (by decide) ?_
        refine lv_icmp_ge (tgt := 29) hx hb dX9_countHeld_8 (by decide) (fun _ => ?_) (fun h9 => absurd (Int32.le_refl _) h9)
        refine lv_iload_n hx hb dX9_countHeld_29 rfl (lv_at hl 1 rfl) ?_
        exact W.iret (v := cn) hx hb hr (fun t ht hW => ⟨cn, rfl, trivial, ht⟩) (fun _ h => by cases h) dX9_countHeld_30
  exact lp1 (192 + 1) 0 (Nat.zero_le _) (by omega) 0 ls (lv_sub hl [0, 1, 2, 3] rfl)
theorem vi_c_X7_countThings_0 (th : Int32) (i : Nat) (hi : i ≤ 40) (hlt : i < 40) (c_2 : ¬ th ≤ (nI i)) : vp_in (nI i) 40 := by exact vp_in_nI (by omega) (by decide)
set_option maxHeartbeats 4000000 in
set_option maxRecDepth 100000 in
theorem c_X7_countThings (l : Launch) (G : va_G) (cy : Nat → ClassId) (sk sa : Nat → Nat) (sz : Nat) (st : Nat) (oc : Nat) (ki : Nat) (ce : Nat) (si : Nat) (sp : Nat) (th : Int32) (foc : Nat → Int32) (fki : Nat → Int32) (fce : Nat → Int32) (fsi : Nat → Int32) (fsp : Nat → Int32)  : Met l yX7_countThings (wsO yX7_countThings cX7_countThings 3 (some .int)) ({ frames := 0, cells := 0, slots := 0, locals := 0 }) (va_Pc [.ref st] (PG G cy sk sa sz [(st, .inr (7, [.ref oc, .ref ki, .ref ce, .ref si, .ref sp, .int th])), (oc, .inl (cy 0, 192, .inl foc)), (ki, .inl (cy 0, 40, .inl fki)), (ce, .inl (cy 0, 40, .inl fce)), (si, .inl (cy 0, 40, .inl fsi)), (sp, .inl (cy 0, 40, .inl fsp))])) (vp_Si (fun _ => True)) 0 0 (fun _ => False) := by
  refine mgr (by decide) (Nat.le_of_ble_eq_true rfl) ?_
  intro p e s m below meth c ls A hx hb hr hml hts hown hlocks hin hsz hP hE hD hS hT hl
  subst hsz
  have hl : lv_has ls 3 [(0, .ref st)] := hl
  refine lv_iconst (v := 0) hx hb dX7_countThings_0 (by decide) ?_
  refine lv_istore_n (lv' := [(1, .int 0), (0, .ref st)]) hx hb dX7_countThings_1 rfl hl (by decide) rfl (fun ls hl => ?_)
  refine lv_iconst (v := 0) hx hb dX7_countThings_2 (by decide) ?_
  refine lv_istore_n (lv' := [(2, .int 0), (1, .int 0), (0, .ref st)]) hx hb dX7_countThings_3 rfl hl (by decide) rfl (fun ls hl => ?_)
  have lp1 : ∀ (nn i : Nat), i ≤ 40 → 40 + 1 ≤ i + nn → ∀ (cn : Int32), ∀ (ls : Array Slot), lv_has ls 3 [(2, .int (nI i)), (1, .int cn), (0, .ref st)] → W p l e (headSpec (wsO yX7_countThings cX7_countThings 3 (some .int)) ({ frames := 0, cells := 0, slots := 0, locals := 0 })).room s m [.ref st].toArray below meth c s.heap [] 0 0 (MQ below (vp_Si (fun _ => True)) [.ref st].toArray s 0 0 (fun _ => False)) (F0 m 4 ls []) := by
    intro nn
    induction nn with
    | zero => intro i h1 h2; exact absurd h2 (by omega)
    | succ nn ih =>
      intro i hi hin0 cn ls hl
      rcases Nat.lt_or_ge i 40 with hlt | hge
      · refine lv_iload_n hx hb dX7_countThings_4 rfl (lv_at hl 0 rfl) ?_
        refine lv_aload_n hx hb dX7_countThings_5 rfl (lv_at hl 2 rfl) ?_
        refine va_get (D := G) (ci := 7) (v := .int th) (C := RX7) (T := TX7) (N := 6) hx hb hts inB7 hown hE.1 hP 0 rfl rfl 5 (by decide) (hts _ m_132) (fun _ h9 => h9) rfl dX7_countThings_6 ?_
        refine lv_icmp_ge (tgt := 36) hx hb dX7_countThings_9 (by decide) (fun c_2 => ?_) (fun c_2 => ?_)
        · refine lv_iload_n hx hb dX7_countThings_36 rfl (lv_at hl 1 rfl) ?_
          exact W.iret (v := cn) hx hb hr (fun t ht hW => ⟨cn, rfl, trivial, ht⟩) (fun _ h => by cases h) dX7_countThings_37
        · refine lv_iload_n hx hb dX7_countThings_12 rfl (lv_at hl 0 rfl) ?_
          refine lv_bipush (v := 40) hx hb dX7_countThings_13 (by decide) ?_
          refine lv_icmp_ge (tgt := 36) hx hb dX7_countThings_15 (by decide) (fun h9 => absurd h9 (nI_ge hlt (by decide))) (fun _ => ?_)
          refine lv_aload_n hx hb dX7_countThings_18 rfl (lv_at hl 2 rfl) ?_
          refine va_get (D := G) (ci := 7) (v := .ref ce) (C := RX7) (T := TX7) (N := 6) hx hb hts inB7 hown hE.1 hP 0 rfl rfl 2 (by decide) (hts _ m_126) (fun _ h9 => h9) rfl dX7_countThings_19 ?_
          refine lv_iload_n hx hb dX7_countThings_22 rfl (lv_at hl 0 rfl) ?_
          refine va_iald hx hb hE.1 hP 3 0 rfl rfl (vi_c_X7_countThings_0 th i hi hlt c_2) dX7_countThings_23 ?_
          refine lv_topi (fun y3 ey3 => ?_)
          refine lv_if_lt (tgt := 30) hx hb dX7_countThings_24 (by decide) (fun c_4 => ?_) (fun c_4 => ?_)
          · refine lv_iinc (v := (nI (i + 1))) (lv' := [(2, .int (nI (i + 1))), (1, .int cn), (0, .ref st)]) hx hb dX7_countThings_30 hl (k := 0) rfl (nI_1 (i)) (by decide) rfl (fun ls hl => ?_)
            refine lv_goto (tgt := 4) hx hb dX7_countThings_33 (by decide) ?_
            exact ih (i + 1) hlt (by omega) cn ls (lv_sub hl [0, 1, 2] rfl)
          · refine lv_iinc (v := (cn + 1)) (lv' := [(1, .int (cn + 1)), (2, .int (nI i)), (0, .ref st)]) hx hb dX7_countThings_27 hl (k := 1) rfl rfl (by decide) rfl (fun ls hl => ?_)
            refine lv_iinc (v := (nI (i + 1))) (lv' := [(2, .int (nI (i + 1))), (1, .int (cn + 1)), (0, .ref st)]) hx hb dX7_countThings_30 hl (k := 1) rfl (nI_1 (i)) (by decide) rfl (fun ls hl => ?_)
            refine lv_goto (tgt := 4) hx hb dX7_countThings_33 (by decide) ?_
            exact ih (i + 1) hlt (by omega) (cn + 1) ls (lv_sub hl [0, 1, 2] rfl)
      · have hie : i = 40 := Nat.le_antisymm hi hge
        subst hie
        refine lv_iload_n hx hb dX7_countThings_4 rfl (lv_at hl 0 rfl) ?_
        refine lv_aload_n hx hb dX7_countThings_5 rfl (lv_at hl 2 rfl) ?_
        refine va_get (D := G) (ci := 7) (v := .int th) (C := RX7) (T := TX7) (N := 6) hx hb hts inB7 hown hE.1 hP 0 rfl rfl 5 (by decide) (hts _ m_132) (fun _ h9 => h9) rfl dX7_countThings_6 ?_
        refine lv_icmp_ge (tgt := 36) hx hb dX7_countThings_9 (by decide) (fun c_5 => ?_) (fun c_5 => ?_)
        · refine lv_iload_n hx hb dX7_countThings_36 rfl (lv_at hl 1 rfl) ?_
          exact W.iret (v := cn) hx hb hr (fun t ht hW => ⟨cn, rfl, trivial, ht⟩) (fun _ h => by cases h) dX7_countThings_37
        · refine lv_iload_n hx hb dX7_countThings_12 rfl (lv_at hl 0 rfl) ?_
          refine lv_bipush (v := 40) hx hb dX7_countThings_13 (by decide) ?_
          refine lv_icmp_ge (tgt := 36) hx hb dX7_countThings_15 (by decide) (fun _ => ?_) (fun h9 => absurd (Int32.le_refl _) h9)
          refine lv_iload_n hx hb dX7_countThings_36 rfl (lv_at hl 1 rfl) ?_
          exact W.iret (v := cn) hx hb hr (fun t ht hW => ⟨cn, rfl, trivial, ht⟩) (fun _ h => by cases h) dX7_countThings_37
  exact lp1 (40 + 1) 0 (Nat.zero_le _) (by omega) 0 ls (lv_sub hl [0, 1, 2] rfl)
def B_c_X7_letThingsGo (G : va_G) (cy : Nat → ClassId) (A : Nat → Prop) (st : Nat) (oc : Nat) (ki : Nat) (ce : Nat) (si : Nat) (sp : Nat) (th : Int32) (foc : Nat → Int32) (fki : Nat → Int32) (fce : Nat → Int32) (fsi : Nat → Int32) (fsp : Nat → Int32) (v : Int32) (H : Heap) : Prop := ∃ (th2 : Int32) (goc : Nat → Int32) (gki : Nat → Int32) (gce : Nat → Int32) (gsi : Nat → Int32) (gsp : Nat → Int32), va_P G classes [(st, .inr (7, [.ref oc, .ref ki, .ref ce, .ref si, .ref sp, .int th2])), (oc, .inl (cy 0, 192, .inl goc)), (ki, .inl (cy 0, 40, .inl gki)), (ce, .inl (cy 0, 40, .inl gce)), (si, .inl (cy 0, 40, .inl gsi)), (sp, .inl (cy 0, 40, .inl gsp))] H ∧ va_D A [(st, .inr (7, [.ref oc, .ref ki, .ref ce, .ref si, .ref sp, .int th2])), (oc, .inl (cy 0, 192, .inl goc)), (ki, .inl (cy 0, 40, .inl gki)), (ce, .inl (cy 0, 40, .inl gce)), (si, .inl (cy 0, 40, .inl gsi)), (sp, .inl (cy 0, 40, .inl gsp))]
theorem vi_c_X7_letThingsGo_0 (i : Nat) (lth : Int32) (hi : i ≤ 40) (hlt : i < 40) (c_2 : ¬ lth ≤ (nI i)) : vp_in (nI i) 40 := by exact vp_in_nI (by omega) (by decide)
theorem vi_c_X7_letThingsGo_1 (i : Nat) (lth : Int32) (hi : i ≤ 40) (hlt : i < 40) (c_2 : ¬ lth ≤ (nI i)) : vp_in (nI i) 40 := by exact vp_in_nI (by omega) (by decide)
theorem vi_c_X7_letThingsGo_2 (y3 : Int32) (c_6 : ¬ y3 ≤ 0) : ¬ y3 = 0 := by intro h; subst h; simp at *
set_option maxHeartbeats 4000000 in
set_option maxRecDepth 100000 in
theorem c_X7_letThingsGo (l : Launch) (G : va_G) (cy : Nat → ClassId) (sk sa : Nat → Nat) (sz : Nat) (st : Nat) (oc : Nat) (ki : Nat) (ce : Nat) (si : Nat) (sp : Nat) (th : Int32) (foc : Nat → Int32) (fki : Nat → Int32) (fce : Nat → Int32) (fsi : Nat → Int32) (fsp : Nat → Int32) (v : Int32)  : Met l yX7_letThingsGo (wsO yX7_letThingsGo cX7_letThingsGo 4 none) ({ frames := 3, cells := 0, slots := 0, locals := 66 }) (va_Pc [.ref st, .int v] (PG G cy sk sa sz [(st, .inr (7, [.ref oc, .ref ki, .ref ce, .ref si, .ref sp, .int th])), (oc, .inl (cy 0, 192, .inl foc)), (ki, .inl (cy 0, 40, .inl fki)), (ce, .inl (cy 0, 40, .inl fce)), (si, .inl (cy 0, 40, .inl fsi)), (sp, .inl (cy 0, 40, .inl fsp))])) (va_Qv (fun (_ : Unit) => True) (fun _ t => B_c_X7_letThingsGo G cy (va_A [(st, .inr (7, [.ref oc, .ref ki, .ref ce, .ref si, .ref sp, .int th])), (oc, .inl (cy 0, 192, .inl foc)), (ki, .inl (cy 0, 40, .inl fki)), (ce, .inl (cy 0, 40, .inl fce)), (si, .inl (cy 0, 40, .inl fsi)), (sp, .inl (cy 0, 40, .inl fsp))] sz) st oc ki ce si sp th foc fki fce fsi fsp v t.heap) (va_A [(st, .inr (7, [.ref oc, .ref ki, .ref ce, .ref si, .ref sp, .int th])), (oc, .inl (cy 0, 192, .inl foc)), (ki, .inl (cy 0, 40, .inl fki)), (ce, .inl (cy 0, 40, .inl fce)), (si, .inl (cy 0, 40, .inl fsi)), (sp, .inl (cy 0, 40, .inl fsp))] sz)) 0 0 (va_A [(st, .inr (7, [.ref oc, .ref ki, .ref ce, .ref si, .ref sp, .int th])), (oc, .inl (cy 0, 192, .inl foc)), (ki, .inl (cy 0, 40, .inl fki)), (ce, .inl (cy 0, 40, .inl fce)), (si, .inl (cy 0, 40, .inl fsi)), (sp, .inl (cy 0, 40, .inl fsp))] sz) := by
  refine mgw (Qc := fun A => (va_Qv (fun (_ : Unit) => True) (fun _ t => B_c_X7_letThingsGo G cy A st oc ki ce si sp th foc fki fce fsi fsp v t.heap) A)) (by decide) (Nat.le_of_ble_eq_true rfl) ?_
  intro p e s m below meth c ls A hx hb hr hml hts hown hlocks hin hP hE hD hS hA hT hl
  have hl : lv_has ls 4 [(0, .ref st), (1, .int v)] := hl
  refine lv_iconst (v := 0) hx hb dX7_letThingsGo_0 (by decide) ?_
  refine lv_istore_n (lv' := [(2, .int 0), (0, .ref st), (1, .int v)]) hx hb dX7_letThingsGo_1 rfl hl (by decide) rfl (fun ls hl => ?_)
  have lp1 : ∀ (nn i : Nat), i ≤ 40 → 40 + 1 ≤ i + nn → ∀ (loc_ : Nat → Int32), ∀ (lki : Nat → Int32), ∀ (lce : Nat → Int32), ∀ (lsi : Nat → Int32), ∀ (lsp : Nat → Int32), ∀ (lth : Int32), ∀ (H : Heap) (locs : List Loc), va_P G classes [(st, .inr (7, [.ref oc, .ref ki, .ref ce, .ref si, .ref sp, .int lth])), (oc, .inl (cy 0, 192, .inl loc_)), (ki, .inl (cy 0, 40, .inl lki)), (ce, .inl (cy 0, 40, .inl lce)), (si, .inl (cy 0, 40, .inl lsi)), (sp, .inl (cy 0, 40, .inl lsp))] H → va_D A [(st, .inr (7, [.ref oc, .ref ki, .ref ce, .ref si, .ref sp, .int lth])), (oc, .inl (cy 0, 192, .inl loc_)), (ki, .inl (cy 0, 40, .inl lki)), (ce, .inl (cy 0, 40, .inl lce)), (si, .inl (cy 0, 40, .inl lsi)), (sp, .inl (cy 0, 40, .inl lsp))] → va_S A s.heap H locs → ∀ (ls : Array Slot), lv_has ls 4 [(2, .int (nI i)), (0, .ref st), (1, .int v)] → W p l e (headSpec (wsO yX7_letThingsGo cX7_letThingsGo 4 none) ({ frames := 3, cells := 0, slots := 0, locals := 66 })).room s m [.ref st, .int v].toArray below meth c H locs 0 0 (MQ below (va_Qv (fun (_ : Unit) => True) (fun _ t => B_c_X7_letThingsGo G cy A st oc ki ce si sp th foc fki fce fsi fsp v t.heap) A) [.ref st, .int v].toArray s 0 0 A) (F0 m 2 ls []) := by
    intro nn
    induction nn with
    | zero => intro i h1 h2; exact absurd h2 (by omega)
    | succ nn ih =>
      intro i hi hin0 loc_ lki lce lsi lsp lth H locs hP hD hS ls hl
      rcases Nat.lt_or_ge i 40 with hlt | hge
      · refine lv_iload_n hx hb dX7_letThingsGo_2 rfl (lv_at hl 0 rfl) ?_
        refine lv_aload_n hx hb dX7_letThingsGo_3 rfl (lv_at hl 1 rfl) ?_
        refine va_get (D := G) (ci := 7) (v := .int lth) (C := RX7) (T := TX7) (N := 6) hx hb hts inB7 hown hE.1 hP 0 rfl rfl 5 (by decide) (hts _ m_132) (fun _ h9 => h9) rfl dX7_letThingsGo_4 ?_
        refine lv_icmp_ge (tgt := 53) hx hb dX7_letThingsGo_7 (by decide) (fun c_2 => ?_) (fun c_2 => ?_)
        · have hP9 := P_cut (wc := [(st, .inr (7, [.ref oc, .ref ki, .ref ce, .ref si, .ref sp, .int lth])), (oc, .inl (cy 0, 192, .inl loc_)), (ki, .inl (cy 0, 40, .inl lki)), (ce, .inl (cy 0, 40, .inl lce)), (si, .inl (cy 0, 40, .inl lsi)), (sp, .inl (cy 0, 40, .inl lsp))]) hP [0, 1, 2, 3, 4, 5] rfl
          have hD9 := hD.sub (ws' := [(st, .inr (7, [.ref oc, .ref ki, .ref ce, .ref si, .ref sp, .int lth])), (oc, .inl (cy 0, 192, .inl loc_)), (ki, .inl (cy 0, 40, .inl lki)), (ce, .inl (cy 0, 40, .inl lce)), (si, .inl (cy 0, 40, .inl lsi)), (sp, .inl (cy 0, 40, .inl lsp))]) [0, 1, 2, 3, 4, 5] (by decide) rfl
          refine W.widen (k := 0) (n := 0) (by first | exact Nat.le_of_ble_eq_true rfl | omega) (by first | exact Nat.le_of_ble_eq_true rfl | omega) ?_
          exact W.vret hx hb hr (fun t ht hW => ⟨⟨(), rfl, trivial, by dsimp only; rw [ht]; exact ⟨lth, loc_, lki, lce, lsi, lsp, hP9, hD9⟩⟩, hS.F ht⟩) hS.2.2 dX7_letThingsGo_53
        · refine lv_iload_n hx hb dX7_letThingsGo_10 rfl (lv_at hl 0 rfl) ?_
          refine lv_bipush (v := 40) hx hb dX7_letThingsGo_11 (by decide) ?_
          refine lv_icmp_ge (tgt := 53) hx hb dX7_letThingsGo_13 (by decide) (fun h9 => absurd h9 (nI_ge hlt (by decide))) (fun _ => ?_)
          refine lv_aload_n hx hb dX7_letThingsGo_16 rfl (lv_at hl 1 rfl) ?_
          refine va_get (D := G) (ci := 7) (v := .ref sp) (C := RX7) (T := TX7) (N := 6) hx hb hts inB7 hown hE.1 hP 0 rfl rfl 4 (by decide) (hts _ m_130) (fun _ h9 => h9) rfl dX7_letThingsGo_17 ?_
          refine lv_iload_n hx hb dX7_letThingsGo_20 rfl (lv_at hl 0 rfl) ?_
          refine va_iald hx hb hE.1 hP 5 0 rfl rfl (vi_c_X7_letThingsGo_0 i lth hi hlt c_2) dX7_letThingsGo_21 ?_
          refine lv_topi (fun y3 ey3 => ?_)
          refine lv_istore_n (lv' := [(3, .int y3), (2, .int (nI i)), (0, .ref st), (1, .int v)]) hx hb dX7_letThingsGo_22 rfl hl (by decide) rfl (fun ls hl => ?_)
          refine lv_aload_n hx hb dX7_letThingsGo_23 rfl (lv_at hl 2 rfl) ?_
          refine va_get (D := G) (ci := 7) (v := .ref ce) (C := RX7) (T := TX7) (N := 6) hx hb hts inB7 hown hE.1 hP 0 rfl rfl 2 (by decide) (hts _ m_126) (fun _ h9 => h9) rfl dX7_letThingsGo_24 ?_
          refine lv_iload_n hx hb dX7_letThingsGo_27 rfl (lv_at hl 1 rfl) ?_
          refine va_iald hx hb hE.1 hP 3 0 rfl rfl (vi_c_X7_letThingsGo_1 i lth hi hlt c_2) dX7_letThingsGo_28 ?_
          refine lv_topi (fun y4 ey4 => ?_)
          refine lv_if_lt (tgt := 47) hx hb dX7_letThingsGo_29 (by decide) (fun c_5 => ?_) (fun c_5 => ?_)
          · refine lv_iinc (v := (nI (i + 1))) (lv' := [(2, .int (nI (i + 1))), (3, .int y3), (0, .ref st), (1, .int v)]) hx hb dX7_letThingsGo_47 hl (k := 1) rfl (nI_1 (i)) (by decide) rfl (fun ls hl => ?_)
            refine lv_goto (tgt := 2) hx hb dX7_letThingsGo_50 (by decide) ?_
            exact ih (i + 1) hlt (by omega) loc_ lki lce lsi lsp lth _ _ hP hD hS ls (lv_sub hl [0, 2, 3] rfl)
          · refine lv_iload_n hx hb dX7_letThingsGo_32 rfl (lv_at hl 0 rfl) ?_
            refine lv_if_le (tgt := 47) hx hb dX7_letThingsGo_33 (by decide) (fun c_6 => ?_) (fun c_6 => ?_)
            · refine lv_iinc (v := (nI (i + 1))) (lv' := [(2, .int (nI (i + 1))), (3, .int y3), (0, .ref st), (1, .int v)]) hx hb dX7_letThingsGo_47 hl (k := 1) rfl (nI_1 (i)) (by decide) rfl (fun ls hl => ?_)
              refine lv_goto (tgt := 2) hx hb dX7_letThingsGo_50 (by decide) ?_
              exact ih (i + 1) hlt (by omega) loc_ lki lce lsi lsp lth _ _ hP hD hS ls (lv_sub hl [0, 2, 3] rfl)
            · refine lv_iload_n hx hb dX7_letThingsGo_36 rfl (lv_at hl 3 rfl) ?_
              refine lv_iload_n hx hb dX7_letThingsGo_37 rfl (lv_at hl 0 rfl) ?_
              refine lv_irem hx hb dX7_letThingsGo_38 (vi_c_X7_letThingsGo_2 y3 c_6) ?_
              refine lv_if_ne (tgt := 47) hx hb dX7_letThingsGo_39 (by decide) (fun c_7 => ?_) (fun c_7 => ?_)
              · refine lv_iinc (v := (nI (i + 1))) (lv' := [(2, .int (nI (i + 1))), (3, .int y3), (0, .ref st), (1, .int v)]) hx hb dX7_letThingsGo_47 hl (k := 1) rfl (nI_1 (i)) (by decide) rfl (fun ls hl => ?_)
                refine lv_goto (tgt := 2) hx hb dX7_letThingsGo_50 (by decide) ?_
                exact ih (i + 1) hlt (by omega) loc_ lki lce lsi lsp lth _ _ hP hD hS ls (lv_sub hl [0, 2, 3] rfl)
              · refine lv_aload_n hx hb dX7_letThingsGo_42 rfl (lv_at hl 2 rfl) ?_
                refine lv_iload_n hx hb dX7_letThingsGo_43 rfl (lv_at hl 1 rfl) ?_
                refine gwVv (B := (B_c_X7_letThingGo G cy (va_A [(st, .inr (7, [.ref oc, .ref ki, .ref ce, .ref si, .ref sp, .int lth])), (oc, .inl (cy 0, 192, .inl loc_)), (ki, .inl (cy 0, 40, .inl lki)), (ce, .inl (cy 0, 40, .inl lce)), (si, .inl (cy 0, 40, .inl lsi)), (sp, .inl (cy 0, 40, .inl lsp))] H.size) st oc ki ce si sp lth loc_ lki lce lsi lsp (nI i))) (wr := []) (rest := []) hx hb hml hown hts hE (c_X7_letThingGo l G cy sk sa H.size st oc ki ce si sp lth loc_ lki lce lsi lsp (nI i)) kV_X7_letThingGo m_1033 rfl rfl ⟨(Nat.le_of_ble_eq_true rfl), (Nat.le_of_ble_eq_true rfl)⟩ hP hD hS hT hA 0 rfl rfl rfl [0, 1, 2, 3, 4, 5] [] rfl rfl rfl rfl (by decide) rfl rfl hl.1 (Nat.le_of_ble_eq_true rfl) dX7_letThingsGo_44 ⟨(Nat.le_of_ble_eq_true rfl), (Nat.le_of_ble_eq_true rfl)⟩ (fun H locs haf hS => ?_)
                obtain ⟨xv9, xf10, xf11, xf12, xf13, xf14, hP1, hD1⟩ := haf.1
                obtain ⟨hP, hD⟩ := haf.2.1 _ hP1 hD1
                have hP : va_P G classes [(st, .inr (7, [.ref oc, .ref ki, .ref ce, .ref si, .ref sp, .int xv9])), (oc, .inl (cy 0, 192, .inl xf10)), (ki, .inl (cy 0, 40, .inl xf11)), (ce, .inl (cy 0, 40, .inl xf12)), (si, .inl (cy 0, 40, .inl xf13)), (sp, .inl (cy 0, 40, .inl xf14))] H := hP
                have hD : va_D A [(st, .inr (7, [.ref oc, .ref ki, .ref ce, .ref si, .ref sp, .int xv9])), (oc, .inl (cy 0, 192, .inl xf10)), (ki, .inl (cy 0, 40, .inl xf11)), (ce, .inl (cy 0, 40, .inl xf12)), (si, .inl (cy 0, 40, .inl xf13)), (sp, .inl (cy 0, 40, .inl xf14))] := hD
                refine lv_iinc (v := (nI (i + 1))) (lv' := [(2, .int (nI (i + 1))), (3, .int y3), (0, .ref st), (1, .int v)]) hx hb dX7_letThingsGo_47 hl (k := 1) rfl (nI_1 (i)) (by decide) rfl (fun ls hl => ?_)
                refine lv_goto (tgt := 2) hx hb dX7_letThingsGo_50 (by decide) ?_
                exact ih (i + 1) hlt (by omega) xf10 xf11 xf12 xf13 xf14 xv9 _ _ hP hD hS ls (lv_sub hl [0, 2, 3] rfl)
      · have hie : i = 40 := Nat.le_antisymm hi hge
        subst hie
        refine lv_iload_n hx hb dX7_letThingsGo_2 rfl (lv_at hl 0 rfl) ?_
        refine lv_aload_n hx hb dX7_letThingsGo_3 rfl (lv_at hl 1 rfl) ?_
        refine va_get (D := G) (ci := 7) (v := .int lth) (C := RX7) (T := TX7) (N := 6) hx hb hts inB7 hown hE.1 hP 0 rfl rfl 5 (by decide) (hts _ m_132) (fun _ h9 => h9) rfl dX7_letThingsGo_4 ?_
        refine lv_icmp_ge (tgt := 53) hx hb dX7_letThingsGo_7 (by decide) (fun c_15 => ?_) (fun c_15 => ?_)
        · have hP9 := P_cut (wc := [(st, .inr (7, [.ref oc, .ref ki, .ref ce, .ref si, .ref sp, .int lth])), (oc, .inl (cy 0, 192, .inl loc_)), (ki, .inl (cy 0, 40, .inl lki)), (ce, .inl (cy 0, 40, .inl lce)), (si, .inl (cy 0, 40, .inl lsi)), (sp, .inl (cy 0, 40, .inl lsp))]) hP [0, 1, 2, 3, 4, 5] rfl
          have hD9 := hD.sub (ws' := [(st, .inr (7, [.ref oc, .ref ki, .ref ce, .ref si, .ref sp, .int lth])), (oc, .inl (cy 0, 192, .inl loc_)), (ki, .inl (cy 0, 40, .inl lki)), (ce, .inl (cy 0, 40, .inl lce)), (si, .inl (cy 0, 40, .inl lsi)), (sp, .inl (cy 0, 40, .inl lsp))]) [0, 1, 2, 3, 4, 5] (by decide) rfl
          refine W.widen (k := 0) (n := 0) (by first | exact Nat.le_of_ble_eq_true rfl | omega) (by first | exact Nat.le_of_ble_eq_true rfl | omega) ?_
          exact W.vret hx hb hr (fun t ht hW => ⟨⟨(), rfl, trivial, by dsimp only; rw [ht]; exact ⟨lth, loc_, lki, lce, lsi, lsp, hP9, hD9⟩⟩, hS.F ht⟩) hS.2.2 dX7_letThingsGo_53
        · refine lv_iload_n hx hb dX7_letThingsGo_10 rfl (lv_at hl 0 rfl) ?_
          refine lv_bipush (v := 40) hx hb dX7_letThingsGo_11 (by decide) ?_
          refine lv_icmp_ge (tgt := 53) hx hb dX7_letThingsGo_13 (by decide) (fun _ => ?_) (fun h9 => absurd (Int32.le_refl _) h9)
          have hP9 := P_cut (wc := [(st, .inr (7, [.ref oc, .ref ki, .ref ce, .ref si, .ref sp, .int lth])), (oc, .inl (cy 0, 192, .inl loc_)), (ki, .inl (cy 0, 40, .inl lki)), (ce, .inl (cy 0, 40, .inl lce)), (si, .inl (cy 0, 40, .inl lsi)), (sp, .inl (cy 0, 40, .inl lsp))]) hP [0, 1, 2, 3, 4, 5] rfl
          have hD9 := hD.sub (ws' := [(st, .inr (7, [.ref oc, .ref ki, .ref ce, .ref si, .ref sp, .int lth])), (oc, .inl (cy 0, 192, .inl loc_)), (ki, .inl (cy 0, 40, .inl lki)), (ce, .inl (cy 0, 40, .inl lce)), (si, .inl (cy 0, 40, .inl lsi)), (sp, .inl (cy 0, 40, .inl lsp))]) [0, 1, 2, 3, 4, 5] (by decide) rfl
          refine W.widen (k := 0) (n := 0) (by first | exact Nat.le_of_ble_eq_true rfl | omega) (by first | exact Nat.le_of_ble_eq_true rfl | omega) ?_
          exact W.vret hx hb hr (fun t ht hW => ⟨⟨(), rfl, trivial, by dsimp only; rw [ht]; exact ⟨lth, loc_, lki, lce, lsi, lsp, hP9, hD9⟩⟩, hS.F ht⟩) hS.2.2 dX7_letThingsGo_53
  exact lp1 (40 + 1) 0 (Nat.zero_le _) (by omega) foc fki fce fsi fsp th _ _ hP hD hS ls (lv_sub hl [0, 1, 2] rfl)
