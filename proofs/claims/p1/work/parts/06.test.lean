theorem lf_c_X11_within_0 (v : Int32) (lo : Int32) (hi : Int32) (c_1 : v < lo) : ¬ inR v lo hi := by simp only [inR, Int32.le_iff_toInt_le, Int32.lt_iff_toInt_lt] at *; omega
theorem lf_c_X11_within_1 (v : Int32) (lo : Int32) (hi : Int32) (c_1 : ¬ v < lo) (c_2 : hi < v) : ¬ inR v lo hi := by simp only [inR, Int32.le_iff_toInt_le, Int32.lt_iff_toInt_lt] at *; omega
theorem lf_c_X11_within_2 (v : Int32) (lo : Int32) (hi : Int32) (c_1 : ¬ v < lo) (c_2 : ¬ hi < v) : inR v lo hi := by simp only [inR, Int32.le_iff_toInt_le, Int32.lt_iff_toInt_lt] at *; omega
set_option maxHeartbeats 4000000 in
set_option maxRecDepth 100000 in
theorem c_X11_within (l : Launch) (G : va_G) (cy : Nat → ClassId) (sk : Nat → Nat) (sz : Nat) (v : Int32) (lo : Int32) (hi : Int32)  : Met l yX11_within (wsO yX11_within cX11_within 3 (some .boolean)) ({ frames := 0, cells := 0, slots := 0, locals := 0 }) (va_Pc [.int v, .int lo, .int hi] (PR G cy sk sz [])) (vp_Si (fun r => (r = 1 ∧ inR v lo hi) ∨ (r = 0 ∧ ¬ inR v lo hi))) 0 0 (fun _ => False) := by
  refine mt (by decide) (Nat.le_of_ble_eq_true rfl) ?_
  intro p e s m below meth c ls hx hb hr hml hts hown hlocks hin hsz hP hE hD hl
  subst hsz
  have hl : lv_has ls 3 [(0, .int v), (1, .int lo), (2, .int hi)] := hl
  refine lv_iload_n hx hb dX11_within_0 rfl (lv_at hl 0 rfl) ?_
  refine lv_iload_n hx hb dX11_within_1 rfl (lv_at hl 1 rfl) ?_
  refine lv_icmp_lt (tgt := 14) hx hb dX11_within_2 (by decide) (fun c_1 => ?_) (fun c_1 => ?_)
  · refine lv_iconst (v := 0) hx hb dX11_within_14 (by decide) ?_
    exact W.zret (v := 0) hx hb hr rfl (fun t ht hW => ⟨0, rfl, (Or.inr ⟨rfl, (lf_c_X11_within_0 v lo hi c_1)⟩), ht⟩) (fun _ h => by cases h) dX11_within_15
  · refine lv_iload_n hx hb dX11_within_5 rfl (lv_at hl 0 rfl) ?_
    refine lv_iload_n hx hb dX11_within_6 rfl (lv_at hl 2 rfl) ?_
    refine lv_icmp_gt (tgt := 14) hx hb dX11_within_7 (by decide) (fun c_2 => ?_) (fun c_2 => ?_)
    · refine lv_iconst (v := 0) hx hb dX11_within_14 (by decide) ?_
      exact W.zret (v := 0) hx hb hr rfl (fun t ht hW => ⟨0, rfl, (Or.inr ⟨rfl, (lf_c_X11_within_1 v lo hi c_1 c_2)⟩), ht⟩) (fun _ h => by cases h) dX11_within_15
    · refine lv_iconst (v := 1) hx hb dX11_within_10 (by decide) ?_
      refine lv_goto (tgt := 15) hx hb dX11_within_11 (by decide) ?_
      exact W.zret (v := 1) hx hb hr rfl (fun t ht hW => ⟨1, rfl, (Or.inl ⟨rfl, (lf_c_X11_within_2 v lo hi c_1 c_2)⟩), ht⟩) (fun _ h => by cases h) dX11_within_15
theorem lf_c_X11_isThingKind_0 (v : Int32) (h_2 : inR v 0 4) : inR v 0 4 := by first | rfl | simp_all
theorem lf_c_X11_isThingKind_1 (v : Int32) (h_2 : ¬ inR v 0 4) : ¬ inR v 0 4 := by first | rfl | simp_all
set_option maxHeartbeats 4000000 in
set_option maxRecDepth 100000 in
theorem c_X11_isThingKind (l : Launch) (G : va_G) (cy : Nat → ClassId) (sk : Nat → Nat) (sz : Nat) (v : Int32)  : Met l yX11_isThingKind (wsO yX11_isThingKind cX11_isThingKind 1 (some .boolean)) ({ frames := 1, cells := 0, slots := 0, locals := 22 }) (va_Pc [.int v] (PR G cy sk sz [])) (vp_Si (fun r => (r = 1 ∧ inR v 0 4) ∨ (r = 0 ∧ ¬ inR v 0 4))) 0 0 (fun _ => False) := by
  refine mt (by decide) (Nat.le_of_ble_eq_true rfl) ?_
  intro p e s m below meth c ls hx hb hr hml hts hown hlocks hin hsz hP hE hD hl
  subst hsz
  have hl : lv_has ls 1 [(0, .int v)] := hl
  refine lv_iload_n hx hb dX11_isThingKind_0 rfl (lv_at hl 0 rfl) ?_
  refine lv_iconst (v := 0) hx hb dX11_isThingKind_1 (by decide) ?_
  refine lv_iconst (v := 4) hx hb dX11_isThingKind_2 (by decide) ?_
  refine rS (rest := []) hx hb hml hown hts hE (c_X11_within l G cy sk s.heap.size v 0 4) kS_X11_within m_494 rfl rfl ⟨(Nat.le_of_ble_eq_true rfl), (Nat.le_of_ble_eq_true rfl)⟩ hP hD [] rfl rfl rfl rfl hl.1 (Nat.le_of_ble_eq_true rfl) dX11_isThingKind_3 ⟨Nat.zero_le _, Nat.zero_le _⟩ (fun r_1 hr_ => ?_)
  rcases hr_ with ⟨rfl, h_2⟩ | ⟨rfl, h_2⟩
  · exact W.zret (v := 1) hx hb hr rfl (fun t ht hW => ⟨1, rfl, (Or.inl ⟨rfl, (lf_c_X11_isThingKind_0 v h_2)⟩), ht⟩) (fun _ h => by cases h) dX11_isThingKind_6
  · exact W.zret (v := 0) hx hb hr rfl (fun t ht hW => ⟨0, rfl, (Or.inr ⟨rfl, (lf_c_X11_isThingKind_1 v h_2)⟩), ht⟩) (fun _ h => by cases h) dX11_isThingKind_6
theorem lf_c_X7_isCell_0 (v : Int32) (c_1 : v < 0) : ¬ inR v 0 191 := by simp only [inR, Int32.le_iff_toInt_le, Int32.lt_iff_toInt_lt] at *; simp at *; omega
theorem lf_c_X7_isCell_1 (v : Int32) (c_1 : ¬ v < 0) (c_2 : 192 ≤ v) : ¬ inR v 0 191 := by simp only [inR, Int32.le_iff_toInt_le, Int32.lt_iff_toInt_lt] at *; simp at *; omega
theorem lf_c_X7_isCell_2 (v : Int32) (c_1 : ¬ v < 0) (c_2 : ¬ 192 ≤ v) : inR v 0 191 := by simp only [inR, Int32.le_iff_toInt_le, Int32.lt_iff_toInt_lt] at *; simp at *; omega
set_option maxHeartbeats 4000000 in
set_option maxRecDepth 100000 in
theorem c_X7_isCell (l : Launch) (G : va_G) (cy : Nat → ClassId) (sk : Nat → Nat) (sz : Nat) (v : Int32)  : Met l yX7_isCell (wsO yX7_isCell cX7_isCell 1 (some .boolean)) ({ frames := 0, cells := 0, slots := 0, locals := 0 }) (va_Pc [.int v] (PR G cy sk sz [])) (vp_Si (fun r => (r = 1 ∧ inR v 0 191) ∨ (r = 0 ∧ ¬ inR v 0 191))) 0 0 (fun _ => False) := by
  refine mt (by decide) (Nat.le_of_ble_eq_true rfl) ?_
  intro p e s m below meth c ls hx hb hr hml hts hown hlocks hin hsz hP hE hD hl
  subst hsz
  have hl : lv_has ls 1 [(0, .int v)] := hl
  refine lv_iload_n hx hb dX7_isCell_0 rfl (lv_at hl 0 rfl) ?_
  refine lv_if_lt (tgt := 15) hx hb dX7_isCell_1 (by decide) (fun c_1 => ?_) (fun c_1 => ?_)
  · refine lv_iconst (v := 0) hx hb dX7_isCell_15 (by decide) ?_
    exact W.zret (v := 0) hx hb hr rfl (fun t ht hW => ⟨0, rfl, (Or.inr ⟨rfl, (lf_c_X7_isCell_0 v c_1)⟩), ht⟩) (fun _ h => by cases h) dX7_isCell_16
  · refine lv_iload_n hx hb dX7_isCell_4 rfl (lv_at hl 0 rfl) ?_
    refine lv_sipush (v := 192) hx hb dX7_isCell_5 (by decide) ?_
    refine lv_icmp_ge (tgt := 15) hx hb dX7_isCell_8 (by decide) (fun c_2 => ?_) (fun c_2 => ?_)
    · refine lv_iconst (v := 0) hx hb dX7_isCell_15 (by decide) ?_
      exact W.zret (v := 0) hx hb hr rfl (fun t ht hW => ⟨0, rfl, (Or.inr ⟨rfl, (lf_c_X7_isCell_1 v c_1 c_2)⟩), ht⟩) (fun _ h => by cases h) dX7_isCell_16
    · refine lv_iconst (v := 1) hx hb dX7_isCell_11 (by decide) ?_
      refine lv_goto (tgt := 16) hx hb dX7_isCell_12 (by decide) ?_
      exact W.zret (v := 1) hx hb hr rfl (fun t ht hW => ⟨1, rfl, (Or.inl ⟨rfl, (lf_c_X7_isCell_2 v c_1 c_2)⟩), ht⟩) (fun _ h => by cases h) dX7_isCell_16
