theorem lf_c_X11_within_0 (v : Int32) (lo : Int32) (hi : Int32) (c_1 : v < lo) : ¬ inR v lo hi := by simp only [inR, Int32.le_iff_toInt_le, Int32.lt_iff_toInt_lt] at *; omega
theorem lf_c_X11_within_1 (v : Int32) (lo : Int32) (hi : Int32) (c_1 : ¬ v < lo) (c_2 : hi < v) : ¬ inR v lo hi := by simp only [inR, Int32.le_iff_toInt_le, Int32.lt_iff_toInt_lt] at *; omega
theorem lf_c_X11_within_2 (v : Int32) (lo : Int32) (hi : Int32) (c_1 : ¬ v < lo) (c_2 : ¬ hi < v) : inR v lo hi := by simp only [inR, Int32.le_iff_toInt_le, Int32.lt_iff_toInt_lt] at *; omega
set_option maxHeartbeats 4000000 in
set_option maxRecDepth 100000 in
theorem c_X11_within (l : Launch) (G : va_G) (cy : Nat → ClassId) (sk sa : Nat → Nat) (sz : Nat) (v : Int32) (lo : Int32) (hi : Int32)  : Met l yX11_within (wsO yX11_within cX11_within 3 (some .boolean)) ({ frames := 0, cells := 0, slots := 0, locals := 0 }) (va_Pc [.int v, .int lo, .int hi] (PG G cy sk sa sz [])) (vp_Si (fun r => (r = 1 ∧ inR v lo hi) ∨ (r = 0 ∧ ¬ inR v lo hi))) 0 0 (fun _ => False) := by
  refine mgr (by decide) (Nat.le_of_ble_eq_true rfl) ?_
  intro p e s m below meth c ls A hx hb hr hml hts hown hlocks hin hsz hP hE hD hS hT hl
  subst hsz
  have hl : lv_has ls 3 [(0, .int v), (1, .int lo), (2, .int hi)] := hl
  refine lv_iload_n hx hb dX11_within_0 rfl (lv_at hl 0 rfl) ?_
  refine lv_iload_n hx hb dX11_within_1 rfl (lv_at hl 1 rfl) ?_
  refine lv_icmp_lt (tgt := 14) hx hb dX11_within_2 (by decide) (fun c_1 => ?_) (fun c_1 => ?_)
  · refine lv_iconst (v := 0) hx hb dX11_within_14 (by decide) ?_
    exact W.zret (v := 0) hx hb hr rfl (fun t ht hW => ⟨0, rfl, (Or.inr ⟨rfl, (lf_c_X11_within_0 v lo hi c_1)⟩), ht⟩) (fun _ h => by cases h) dX11_within_15
  · refine lv_iload_n hx hb dX11_within_5 rfl (lv_at hl 0 rfl) ?_
    refine lv_iload_n hx hb dX11_within_6 rfl (lv_at hl 2 rfl) ?_
    refine lv_icmp_gt (tgt := 14) hx hb dX11_within_7 (by decide) (fun c_2 => ?_) (fun c_2 => ?_)
    · refine lv_iconst (v := 0) hx hb dX11_within_14 (by decide) ?_
      exact W.zret (v := 0) hx hb hr rfl (fun t ht hW => ⟨0, rfl, (Or.inr ⟨rfl, (lf_c_X11_within_1 v lo hi c_1 c_2)⟩), ht⟩) (fun _ h => by cases h) dX11_within_15
    · refine lv_iconst (v := 1) hx hb dX11_within_10 (by decide) ?_
      refine lv_goto (tgt := 15) hx hb dX11_within_11 (by decide) ?_
      exact W.zret (v := 1) hx hb hr rfl (fun t ht hW => ⟨1, rfl, (Or.inl ⟨rfl, (lf_c_X11_within_2 v lo hi c_1 c_2)⟩), ht⟩) (fun _ h => by cases h) dX11_within_15
theorem lf_c_X11_isThingKind_0 (v : Int32) (h_2 : inR v 0 4) : inR v 0 4 := by first | rfl | simp_all
theorem lf_c_X11_isThingKind_1 (v : Int32) (h_2 : ¬ inR v 0 4) : ¬ inR v 0 4 := by first | rfl | simp_all
set_option maxHeartbeats 4000000 in
set_option maxRecDepth 100000 in
theorem c_X11_isThingKind (l : Launch) (G : va_G) (cy : Nat → ClassId) (sk sa : Nat → Nat) (sz : Nat) (v : Int32)  : Met l yX11_isThingKind (wsO yX11_isThingKind cX11_isThingKind 1 (some .boolean)) ({ frames := 1, cells := 0, slots := 0, locals := 22 }) (va_Pc [.int v] (PG G cy sk sa sz [])) (vp_Si (fun r => (r = 1 ∧ inR v 0 4) ∨ (r = 0 ∧ ¬ inR v 0 4))) 0 0 (fun _ => False) := by
  refine mgr (by decide) (Nat.le_of_ble_eq_true rfl) ?_
  intro p e s m below meth c ls A hx hb hr hml hts hown hlocks hin hsz hP hE hD hS hT hl
  subst hsz
  have hl : lv_has ls 1 [(0, .int v)] := hl
  refine lv_iload_n hx hb dX11_isThingKind_0 rfl (lv_at hl 0 rfl) ?_
  refine lv_iconst (v := 0) hx hb dX11_isThingKind_1 (by decide) ?_
  refine lv_iconst (v := 4) hx hb dX11_isThingKind_2 (by decide) ?_
  refine grS (rest := []) hx hb hml hown hts hE (c_X11_within l G cy sk sa s.heap.size v 0 4) kS_X11_within m_494 rfl rfl ⟨(Nat.le_of_ble_eq_true rfl), (Nat.le_of_ble_eq_true rfl)⟩ hP hD hS hT [] rfl rfl rfl rfl hl.1 (Nat.le_of_ble_eq_true rfl) dX11_isThingKind_3 ⟨Nat.zero_le _, Nat.zero_le _⟩ (fun r_1 hr_ => ?_)
  rcases hr_ with ⟨rfl, h_2⟩ | ⟨rfl, h_2⟩
  · exact W.zret (v := 1) hx hb hr rfl (fun t ht hW => ⟨1, rfl, (Or.inl ⟨rfl, (lf_c_X11_isThingKind_0 v h_2)⟩), ht⟩) (fun _ h => by cases h) dX11_isThingKind_6
  · exact W.zret (v := 0) hx hb hr rfl (fun t ht hW => ⟨0, rfl, (Or.inr ⟨rfl, (lf_c_X11_isThingKind_1 v h_2)⟩), ht⟩) (fun _ h => by cases h) dX11_isThingKind_6
theorem lf_c_X11_isWalkerKind_0 (v : Int32) (h_2 : inR v 0 7) : inR v 0 7 := by first | rfl | simp_all
theorem lf_c_X11_isWalkerKind_1 (v : Int32) (h_2 : ¬ inR v 0 7) : ¬ inR v 0 7 := by first | rfl | simp_all
set_option maxHeartbeats 4000000 in
set_option maxRecDepth 100000 in
theorem c_X11_isWalkerKind (l : Launch) (G : va_G) (cy : Nat → ClassId) (sk sa : Nat → Nat) (sz : Nat) (v : Int32)  : Met l yX11_isWalkerKind (wsO yX11_isWalkerKind cX11_isWalkerKind 1 (some .boolean)) ({ frames := 1, cells := 0, slots := 0, locals := 22 }) (va_Pc [.int v] (PG G cy sk sa sz [])) (vp_Si (fun r => (r = 1 ∧ inR v 0 7) ∨ (r = 0 ∧ ¬ inR v 0 7))) 0 0 (fun _ => False) := by
  refine mgr (by decide) (Nat.le_of_ble_eq_true rfl) ?_
  intro p e s m below meth c ls A hx hb hr hml hts hown hlocks hin hsz hP hE hD hS hT hl
  subst hsz
  have hl : lv_has ls 1 [(0, .int v)] := hl
  refine lv_iload_n hx hb dX11_isWalkerKind_0 rfl (lv_at hl 0 rfl) ?_
  refine lv_iconst (v := 0) hx hb dX11_isWalkerKind_1 (by decide) ?_
  refine lv_bipush (v := 7) hx hb dX11_isWalkerKind_2 (by decide) ?_
  refine grS (rest := []) hx hb hml hown hts hE (c_X11_within l G cy sk sa s.heap.size v 0 7) kS_X11_within m_494 rfl rfl ⟨(Nat.le_of_ble_eq_true rfl), (Nat.le_of_ble_eq_true rfl)⟩ hP hD hS hT [] rfl rfl rfl rfl hl.1 (Nat.le_of_ble_eq_true rfl) dX11_isWalkerKind_4 ⟨Nat.zero_le _, Nat.zero_le _⟩ (fun r_1 hr_ => ?_)
  rcases hr_ with ⟨rfl, h_2⟩ | ⟨rfl, h_2⟩
  · exact W.zret (v := 1) hx hb hr rfl (fun t ht hW => ⟨1, rfl, (Or.inl ⟨rfl, (lf_c_X11_isWalkerKind_0 v h_2)⟩), ht⟩) (fun _ h => by cases h) dX11_isWalkerKind_7
  · exact W.zret (v := 0) hx hb hr rfl (fun t ht hW => ⟨0, rfl, (Or.inr ⟨rfl, (lf_c_X11_isWalkerKind_1 v h_2)⟩), ht⟩) (fun _ h => by cases h) dX11_isWalkerKind_7
theorem lf_c_X11_isSheet_0 (v : Int32) (h_2 : inR v 0 3) : inR v 0 3 := by first | rfl | simp_all
theorem lf_c_X11_isSheet_1 (v : Int32) (h_2 : ¬ inR v 0 3) : ¬ inR v 0 3 := by first | rfl | simp_all
set_option maxHeartbeats 4000000 in
set_option maxRecDepth 100000 in
theorem c_X11_isSheet (l : Launch) (G : va_G) (cy : Nat → ClassId) (sk sa : Nat → Nat) (sz : Nat) (v : Int32)  : Met l yX11_isSheet (wsO yX11_isSheet cX11_isSheet 1 (some .boolean)) ({ frames := 1, cells := 0, slots := 0, locals := 22 }) (va_Pc [.int v] (PG G cy sk sa sz [])) (vp_Si (fun r => (r = 1 ∧ inR v 0 3) ∨ (r = 0 ∧ ¬ inR v 0 3))) 0 0 (fun _ => False) := by
  refine mgr (by decide) (Nat.le_of_ble_eq_true rfl) ?_
  intro p e s m below meth c ls A hx hb hr hml hts hown hlocks hin hsz hP hE hD hS hT hl
  subst hsz
  have hl : lv_has ls 1 [(0, .int v)] := hl
  refine lv_iload_n hx hb dX11_isSheet_0 rfl (lv_at hl 0 rfl) ?_
  refine lv_iconst (v := 0) hx hb dX11_isSheet_1 (by decide) ?_
  refine lv_iconst (v := 3) hx hb dX11_isSheet_2 (by decide) ?_
  refine grS (rest := []) hx hb hml hown hts hE (c_X11_within l G cy sk sa s.heap.size v 0 3) kS_X11_within m_494 rfl rfl ⟨(Nat.le_of_ble_eq_true rfl), (Nat.le_of_ble_eq_true rfl)⟩ hP hD hS hT [] rfl rfl rfl rfl hl.1 (Nat.le_of_ble_eq_true rfl) dX11_isSheet_3 ⟨Nat.zero_le _, Nat.zero_le _⟩ (fun r_1 hr_ => ?_)
  rcases hr_ with ⟨rfl, h_2⟩ | ⟨rfl, h_2⟩
  · exact W.zret (v := 1) hx hb hr rfl (fun t ht hW => ⟨1, rfl, (Or.inl ⟨rfl, (lf_c_X11_isSheet_0 v h_2)⟩), ht⟩) (fun _ h => by cases h) dX11_isSheet_6
  · exact W.zret (v := 0) hx hb hr rfl (fun t ht hW => ⟨0, rfl, (Or.inr ⟨rfl, (lf_c_X11_isSheet_1 v h_2)⟩), ht⟩) (fun _ h => by cases h) dX11_isSheet_6
theorem lf_c_X11_isBits_0 (v : Int32) (h_2 : inR v 0 31) : inR v 0 31 := by first | rfl | simp_all
theorem lf_c_X11_isBits_1 (v : Int32) (h_2 : ¬ inR v 0 31) : ¬ inR v 0 31 := by first | rfl | simp_all
set_option maxHeartbeats 4000000 in
set_option maxRecDepth 100000 in
theorem c_X11_isBits (l : Launch) (G : va_G) (cy : Nat → ClassId) (sk sa : Nat → Nat) (sz : Nat) (v : Int32)  : Met l yX11_isBits (wsO yX11_isBits cX11_isBits 1 (some .boolean)) ({ frames := 1, cells := 0, slots := 0, locals := 22 }) (va_Pc [.int v] (PG G cy sk sa sz [])) (vp_Si (fun r => (r = 1 ∧ inR v 0 31) ∨ (r = 0 ∧ ¬ inR v 0 31))) 0 0 (fun _ => False) := by
  refine mgr (by decide) (Nat.le_of_ble_eq_true rfl) ?_
  intro p e s m below meth c ls A hx hb hr hml hts hown hlocks hin hsz hP hE hD hS hT hl
  subst hsz
  have hl : lv_has ls 1 [(0, .int v)] := hl
  refine lv_iload_n hx hb dX11_isBits_0 rfl (lv_at hl 0 rfl) ?_
  refine lv_iconst (v := 0) hx hb dX11_isBits_1 (by decide) ?_
  refine lv_bipush (v := 31) hx hb dX11_isBits_2 (by decide) ?_
  refine grS (rest := []) hx hb hml hown hts hE (c_X11_within l G cy sk sa s.heap.size v 0 31) kS_X11_within m_494 rfl rfl ⟨(Nat.le_of_ble_eq_true rfl), (Nat.le_of_ble_eq_true rfl)⟩ hP hD hS hT [] rfl rfl rfl rfl hl.1 (Nat.le_of_ble_eq_true rfl) dX11_isBits_4 ⟨Nat.zero_le _, Nat.zero_le _⟩ (fun r_1 hr_ => ?_)
  rcases hr_ with ⟨rfl, h_2⟩ | ⟨rfl, h_2⟩
  · exact W.zret (v := 1) hx hb hr rfl (fun t ht hW => ⟨1, rfl, (Or.inl ⟨rfl, (lf_c_X11_isBits_0 v h_2)⟩), ht⟩) (fun _ h => by cases h) dX11_isBits_7
  · exact W.zret (v := 0) hx hb hr rfl (fun t ht hW => ⟨0, rfl, (Or.inr ⟨rfl, (lf_c_X11_isBits_1 v h_2)⟩), ht⟩) (fun _ h => by cases h) dX11_isBits_7
theorem lf_c_X7_isCell_0 (v : Int32) (c_1 : v < 0) : ¬ inR v 0 191 := by simp only [inR, Int32.le_iff_toInt_le, Int32.lt_iff_toInt_lt] at *; simp at *; omega
theorem lf_c_X7_isCell_1 (v : Int32) (c_1 : ¬ v < 0) (c_2 : 192 ≤ v) : ¬ inR v 0 191 := by simp only [inR, Int32.le_iff_toInt_le, Int32.lt_iff_toInt_lt] at *; simp at *; omega
theorem lf_c_X7_isCell_2 (v : Int32) (c_1 : ¬ v < 0) (c_2 : ¬ 192 ≤ v) : inR v 0 191 := by simp only [inR, Int32.le_iff_toInt_le, Int32.lt_iff_toInt_lt] at *; simp at *; omega
set_option maxHeartbeats 4000000 in
set_option maxRecDepth 100000 in
theorem c_X7_isCell (l : Launch) (G : va_G) (cy : Nat → ClassId) (sk sa : Nat → Nat) (sz : Nat) (v : Int32)  : Met l yX7_isCell (wsO yX7_isCell cX7_isCell 1 (some .boolean)) ({ frames := 0, cells := 0, slots := 0, locals := 0 }) (va_Pc [.int v] (PG G cy sk sa sz [])) (vp_Si (fun r => (r = 1 ∧ inR v 0 191) ∨ (r = 0 ∧ ¬ inR v 0 191))) 0 0 (fun _ => False) := by
  refine mgr (by decide) (Nat.le_of_ble_eq_true rfl) ?_
  intro p e s m below meth c ls A hx hb hr hml hts hown hlocks hin hsz hP hE hD hS hT hl
  subst hsz
  have hl : lv_has ls 1 [(0, .int v)] := hl
  refine lv_iload_n hx hb dX7_isCell_0 rfl (lv_at hl 0 rfl) ?_
  refine lv_if_lt (tgt := 15) hx hb dX7_isCell_1 (by decide) (fun c_1 => ?_) (fun c_1 => ?_)
  · refine lv_iconst (v := 0) hx hb dX7_isCell_15 (by decide) ?_
    exact W.zret (v := 0) hx hb hr rfl (fun t ht hW => ⟨0, rfl, (Or.inr ⟨rfl, (lf_c_X7_isCell_0 v c_1)⟩), ht⟩) (fun _ h => by cases h) dX7_isCell_16
  · refine lv_iload_n hx hb dX7_isCell_4 rfl (lv_at hl 0 rfl) ?_
    refine lv_sipush (v := 192) hx hb dX7_isCell_5 (by decide) ?_
    refine lv_icmp_ge (tgt := 15) hx hb dX7_isCell_8 (by decide) (fun c_2 => ?_) (fun c_2 => ?_)
    · refine lv_iconst (v := 0) hx hb dX7_isCell_15 (by decide) ?_
      exact W.zret (v := 0) hx hb hr rfl (fun t ht hW => ⟨0, rfl, (Or.inr ⟨rfl, (lf_c_X7_isCell_1 v c_1 c_2)⟩), ht⟩) (fun _ h => by cases h) dX7_isCell_16
    · refine lv_iconst (v := 1) hx hb dX7_isCell_11 (by decide) ?_
      refine lv_goto (tgt := 16) hx hb dX7_isCell_12 (by decide) ?_
      exact W.zret (v := 1) hx hb hr rfl (fun t ht hW => ⟨1, rfl, (Or.inl ⟨rfl, (lf_c_X7_isCell_2 v c_1 c_2)⟩), ht⟩) (fun _ h => by cases h) dX7_isCell_16
theorem lf_c_X7_isSide_0 (v : Int32) (c_1 : v < 0) : ¬ inR v 0 7 := by simp only [inR, Int32.le_iff_toInt_le, Int32.lt_iff_toInt_lt] at *; simp at *; omega
theorem lf_c_X7_isSide_1 (v : Int32) (c_1 : ¬ v < 0) (c_2 : 8 ≤ v) : ¬ inR v 0 7 := by simp only [inR, Int32.le_iff_toInt_le, Int32.lt_iff_toInt_lt] at *; simp at *; omega
theorem lf_c_X7_isSide_2 (v : Int32) (c_1 : ¬ v < 0) (c_2 : ¬ 8 ≤ v) : inR v 0 7 := by simp only [inR, Int32.le_iff_toInt_le, Int32.lt_iff_toInt_lt] at *; simp at *; omega
set_option maxHeartbeats 4000000 in
set_option maxRecDepth 100000 in
theorem c_X7_isSide (l : Launch) (G : va_G) (cy : Nat → ClassId) (sk sa : Nat → Nat) (sz : Nat) (v : Int32)  : Met l yX7_isSide (wsO yX7_isSide cX7_isSide 1 (some .boolean)) ({ frames := 0, cells := 0, slots := 0, locals := 0 }) (va_Pc [.int v] (PG G cy sk sa sz [])) (vp_Si (fun r => (r = 1 ∧ inR v 0 7) ∨ (r = 0 ∧ ¬ inR v 0 7))) 0 0 (fun _ => False) := by
  refine mgr (by decide) (Nat.le_of_ble_eq_true rfl) ?_
  intro p e s m below meth c ls A hx hb hr hml hts hown hlocks hin hsz hP hE hD hS hT hl
  subst hsz
  have hl : lv_has ls 1 [(0, .int v)] := hl
  refine lv_iload_n hx hb dX7_isSide_0 rfl (lv_at hl 0 rfl) ?_
  refine lv_if_lt (tgt := 14) hx hb dX7_isSide_1 (by decide) (fun c_1 => ?_) (fun c_1 => ?_)
  · refine lv_iconst (v := 0) hx hb dX7_isSide_14 (by decide) ?_
    exact W.zret (v := 0) hx hb hr rfl (fun t ht hW => ⟨0, rfl, (Or.inr ⟨rfl, (lf_c_X7_isSide_0 v c_1)⟩), ht⟩) (fun _ h => by cases h) dX7_isSide_15
  · refine lv_iload_n hx hb dX7_isSide_4 rfl (lv_at hl 0 rfl) ?_
    refine lv_bipush (v := 8) hx hb dX7_isSide_5 (by decide) ?_
    refine lv_icmp_ge (tgt := 14) hx hb dX7_isSide_7 (by decide) (fun c_2 => ?_) (fun c_2 => ?_)
    · refine lv_iconst (v := 0) hx hb dX7_isSide_14 (by decide) ?_
      exact W.zret (v := 0) hx hb hr rfl (fun t ht hW => ⟨0, rfl, (Or.inr ⟨rfl, (lf_c_X7_isSide_1 v c_1 c_2)⟩), ht⟩) (fun _ h => by cases h) dX7_isSide_15
    · refine lv_iconst (v := 1) hx hb dX7_isSide_10 (by decide) ?_
      refine lv_goto (tgt := 15) hx hb dX7_isSide_11 (by decide) ?_
      exact W.zret (v := 1) hx hb hr rfl (fun t ht hW => ⟨1, rfl, (Or.inl ⟨rfl, (lf_c_X7_isSide_2 v c_1 c_2)⟩), ht⟩) (fun _ h => by cases h) dX7_isSide_15
theorem lf_c_X7_cellFrom_0 (ac : Int32) (ad : Int32) (ay : Int32) (h_2 : inR ac 0 191) (h_4 : inR ad 0 7) (c_5 : ay < 0) : ((-1) : Int32) = (-1) ∨ inR ((-1) : Int32) 0 191 := by first | exact Or.inl rfl | exact Or.inr (cellr (by assumption) (by assumption) (by assumption) (by first | assumption | exact Int32.not_le.mpr (by assumption)))
theorem lf_c_X7_cellFrom_1 (ac : Int32) (ad : Int32) (ay : Int32) (y7 : Int32) (h_2 : inR ac 0 191) (h_4 : inR ad 0 7) (c_5 : ¬ ay < 0) (c_6 : ay ≤ 16) (c_9 : ((ac - ac / 16 * 16) + (ay * y7)) < 0) : ((-1) : Int32) = (-1) ∨ inR ((-1) : Int32) 0 191 := by first | exact Or.inl rfl | exact Or.inr (cellr (by assumption) (by assumption) (by assumption) (by first | assumption | exact Int32.not_le.mpr (by assumption)))
theorem lf_c_X7_cellFrom_2 (ac : Int32) (ad : Int32) (ay : Int32) (y7 : Int32) (h_2 : inR ac 0 191) (h_4 : inR ad 0 7) (c_5 : ¬ ay < 0) (c_6 : ay ≤ 16) (c_9 : ¬ ((ac - ac / 16 * 16) + (ay * y7)) < 0) (c_10 : 16 ≤ ((ac - ac / 16 * 16) + (ay * y7))) : ((-1) : Int32) = (-1) ∨ inR ((-1) : Int32) 0 191 := by first | exact Or.inl rfl | exact Or.inr (cellr (by assumption) (by assumption) (by assumption) (by first | assumption | exact Int32.not_le.mpr (by assumption)))
theorem lf_c_X7_cellFrom_3 (ac : Int32) (ad : Int32) (ay : Int32) (y7 : Int32) (y8 : Int32) (h_2 : inR ac 0 191) (h_4 : inR ad 0 7) (c_5 : ¬ ay < 0) (c_6 : ay ≤ 16) (c_9 : ¬ ((ac - ac / 16 * 16) + (ay * y7)) < 0) (c_10 : ¬ 16 ≤ ((ac - ac / 16 * 16) + (ay * y7))) (c_11 : ((ac / 16) + (ay * y8)) < 0) : ((-1) : Int32) = (-1) ∨ inR ((-1) : Int32) 0 191 := by first | exact Or.inl rfl | exact Or.inr (cellr (by assumption) (by assumption) (by assumption) (by first | assumption | exact Int32.not_le.mpr (by assumption)))
theorem lf_c_X7_cellFrom_4 (ac : Int32) (ad : Int32) (ay : Int32) (y7 : Int32) (y8 : Int32) (h_2 : inR ac 0 191) (h_4 : inR ad 0 7) (c_5 : ¬ ay < 0) (c_6 : ay ≤ 16) (c_9 : ¬ ((ac - ac / 16 * 16) + (ay * y7)) < 0) (c_10 : ¬ 16 ≤ ((ac - ac / 16 * 16) + (ay * y7))) (c_11 : ¬ ((ac / 16) + (ay * y8)) < 0) (c_12 : ((ac / 16) + (ay * y8)) < 12) : ((16 * ((ac / 16) + (ay * y8))) + ((ac - ac / 16 * 16) + (ay * y7))) = (-1) ∨ inR ((16 * ((ac / 16) + (ay * y8))) + ((ac - ac / 16 * 16) + (ay * y7))) 0 191 := by first | exact Or.inl rfl | exact Or.inr (cellr (by assumption) (by assumption) (by assumption) (by first | assumption | exact Int32.not_le.mpr (by assumption)))
theorem lf_c_X7_cellFrom_5 (ac : Int32) (ad : Int32) (ay : Int32) (y7 : Int32) (y8 : Int32) (h_2 : inR ac 0 191) (h_4 : inR ad 0 7) (c_5 : ¬ ay < 0) (c_6 : ay ≤ 16) (c_9 : ¬ ((ac - ac / 16 * 16) + (ay * y7)) < 0) (c_10 : ¬ 16 ≤ ((ac - ac / 16 * 16) + (ay * y7))) (c_11 : ¬ ((ac / 16) + (ay * y8)) < 0) (c_12 : ¬ ((ac / 16) + (ay * y8)) < 12) : ((-1) : Int32) = (-1) ∨ inR ((-1) : Int32) 0 191 := by first | exact Or.inl rfl | exact Or.inr (cellr (by assumption) (by assumption) (by assumption) (by first | assumption | exact Int32.not_le.mpr (by assumption)))
theorem lf_c_X7_cellFrom_6 (ac : Int32) (ad : Int32) (ay : Int32) (h_2 : inR ac 0 191) (h_4 : inR ad 0 7) (c_5 : ¬ ay < 0) (c_6 : ¬ ay ≤ 16) : ((-1) : Int32) = (-1) ∨ inR ((-1) : Int32) 0 191 := by first | exact Or.inl rfl | exact Or.inr (cellr (by assumption) (by assumption) (by assumption) (by first | assumption | exact Int32.not_le.mpr (by assumption)))
theorem lf_c_X7_cellFrom_7 (ac : Int32) (ad : Int32) (h_2 : inR ac 0 191) (h_4 : ¬ inR ad 0 7) : ((-1) : Int32) = (-1) ∨ inR ((-1) : Int32) 0 191 := by first | exact Or.inl rfl | exact Or.inr (cellr (by assumption) (by assumption) (by assumption) (by first | assumption | exact Int32.not_le.mpr (by assumption)))
theorem lf_c_X7_cellFrom_8 (ac : Int32) (h_2 : ¬ inR ac 0 191) : ((-1) : Int32) = (-1) ∨ inR ((-1) : Int32) 0 191 := by first | exact Or.inl rfl | exact Or.inr (cellr (by assumption) (by assumption) (by assumption) (by first | assumption | exact Int32.not_le.mpr (by assumption)))
set_option maxHeartbeats 4000000 in
set_option maxRecDepth 100000 in
theorem c_X7_cellFrom (l : Launch) (G : va_G) (cy : Nat → ClassId) (sk sa : Nat → Nat) (sz : Nat) (ac : Int32) (ad : Int32) (ay : Int32)  : Met l yX7_cellFrom (wsO yX7_cellFrom cX7_cellFrom 5 (some .int)) ({ frames := 1, cells := 0, slots := 0, locals := 20 }) (va_Pc [.int ac, .int ad, .int ay] (PG G cy sk sa sz [])) (vp_Si (fun r => r = (-1) ∨ inR r 0 191)) 0 0 (fun _ => False) := by
  refine mgr (by decide) (Nat.le_of_ble_eq_true rfl) ?_
  intro p e s m below meth c ls A hx hb hr hml hts hown hlocks hin hsz hP hE hD hS hT hl
  subst hsz
  have hl : lv_has ls 5 [(0, .int ac), (1, .int ad), (2, .int ay)] := hl
  refine lv_iload_n hx hb dX7_cellFrom_0 rfl (lv_at hl 0 rfl) ?_
  refine grS (rest := []) hx hb hml hown hts hE (c_X7_isCell l G cy sk sa s.heap.size ac) kS_X7_isCell m_509 rfl rfl ⟨(Nat.le_of_ble_eq_true rfl), (Nat.le_of_ble_eq_true rfl)⟩ hP hD hS hT [] rfl rfl rfl rfl hl.1 (Nat.le_of_ble_eq_true rfl) dX7_cellFrom_1 ⟨Nat.zero_le _, Nat.zero_le _⟩ (fun r_1 hr_ => ?_)
  rcases hr_ with ⟨rfl, h_2⟩ | ⟨rfl, h_2⟩
  · refine lv_if_eq (tgt := 24) hx hb dX7_cellFrom_4 (by decide) (fun h9 => absurd h9 (by decide)) (fun _ => ?_)
    refine lv_iload_n hx hb dX7_cellFrom_7 rfl (lv_at hl 1 rfl) ?_
    refine grS (rest := []) hx hb hml hown hts hE (c_X7_isSide l G cy sk sa s.heap.size ad) kS_X7_isSide m_852 rfl rfl ⟨(Nat.le_of_ble_eq_true rfl), (Nat.le_of_ble_eq_true rfl)⟩ hP hD hS hT [] rfl rfl rfl rfl hl.1 (Nat.le_of_ble_eq_true rfl) dX7_cellFrom_8 ⟨Nat.zero_le _, Nat.zero_le _⟩ (fun r_3 hr_ => ?_)
    rcases hr_ with ⟨rfl, h_4⟩ | ⟨rfl, h_4⟩
    · refine lv_if_eq (tgt := 24) hx hb dX7_cellFrom_11 (by decide) (fun h9 => absurd h9 (by decide)) (fun _ => ?_)
      refine lv_iload_n hx hb dX7_cellFrom_14 rfl (lv_at hl 2 rfl) ?_
      refine lv_if_lt (tgt := 24) hx hb dX7_cellFrom_15 (by decide) (fun c_5 => ?_) (fun c_5 => ?_)
      · refine lv_iconst (v := (-1)) hx hb dX7_cellFrom_24 (by decide) ?_
        exact W.iret (v := (-1)) hx hb hr (fun t ht hW => ⟨(-1), rfl, (lf_c_X7_cellFrom_0 ac ad ay h_2 h_4 c_5), ht⟩) (fun _ h => by cases h) dX7_cellFrom_25
      · refine lv_iload_n hx hb dX7_cellFrom_18 rfl (lv_at hl 2 rfl) ?_
        refine lv_bipush (v := 16) hx hb dX7_cellFrom_19 (by decide) ?_
        refine lv_icmp_le (tgt := 26) hx hb dX7_cellFrom_21 (by decide) (fun c_6 => ?_) (fun c_6 => ?_)
        · refine lv_iload_n hx hb dX7_cellFrom_26 rfl (lv_at hl 0 rfl) ?_
          refine lv_bipush (v := 16) hx hb dX7_cellFrom_27 (by decide) ?_
          refine lv_irem hx hb dX7_cellFrom_29 (by decide) ?_
          refine lv_iload_n hx hb dX7_cellFrom_30 rfl (lv_at hl 2 rfl) ?_
          refine va_gets hx hb (hT.1 4 _ rfl).1 hS hown (hts _ m_853) (fun _ h9 => h9) dX7_cellFrom_31 ?_
          refine lv_iload_n hx hb dX7_cellFrom_34 rfl (lv_at hl 1 rfl) ?_
          refine va_ti hx hb (hT.1 4 _ rfl).2 hS (vinB h_4 (by decide) (by decide)) rfl dX7_cellFrom_35 ?_
          refine lv_topi (fun y7 ey7 => ?_)
          refine lv_imul hx hb dX7_cellFrom_36 ?_
          refine lv_iadd hx hb dX7_cellFrom_37 ?_
          refine lv_istore_n (lv' := [(3, .int ((ac - ac / 16 * 16) + (ay * y7))), (0, .int ac), (1, .int ad), (2, .int ay)]) hx hb dX7_cellFrom_38 rfl hl (by decide) rfl (fun ls hl => ?_)
          refine lv_iload_n hx hb dX7_cellFrom_39 rfl (lv_at hl 1 rfl) ?_
          refine lv_bipush (v := 16) hx hb dX7_cellFrom_40 (by decide) ?_
          refine lv_idiv hx hb dX7_cellFrom_42 (by decide) ?_
          refine lv_iload_n hx hb dX7_cellFrom_43 rfl (lv_at hl 3 rfl) ?_
          refine va_gets hx hb (hT.1 5 _ rfl).1 hS hown (hts _ m_855) (fun _ h9 => h9) dX7_cellFrom_44 ?_
          refine lv_iload_n hx hb dX7_cellFrom_47 rfl (lv_at hl 2 rfl) ?_
          refine va_ti hx hb (hT.1 5 _ rfl).2 hS (vinB h_4 (by decide) (by decide)) rfl dX7_cellFrom_48 ?_
          refine lv_topi (fun y8 ey8 => ?_)
          refine lv_imul hx hb dX7_cellFrom_49 ?_
          refine lv_iadd hx hb dX7_cellFrom_50 ?_
          refine lv_istore (lv' := [(4, .int ((ac / 16) + (ay * y8))), (3, .int ((ac - ac / 16 * 16) + (ay * y7))), (0, .int ac), (1, .int ad), (2, .int ay)]) hx hb dX7_cellFrom_51 hl (by decide) rfl (fun ls hl => ?_)
          refine lv_iload_n hx hb dX7_cellFrom_53 rfl (lv_at hl 1 rfl) ?_
          refine lv_if_lt (tgt := 75) hx hb dX7_cellFrom_54 (by decide) (fun c_9 => ?_) (fun c_9 => ?_)
          · refine lv_iconst (v := (-1)) hx hb dX7_cellFrom_75 (by decide) ?_
            refine lv_goto (tgt := 86) hx hb dX7_cellFrom_76 (by decide) ?_
            exact W.iret (v := (-1)) hx hb hr (fun t ht hW => ⟨(-1), rfl, (lf_c_X7_cellFrom_1 ac ad ay y7 h_2 h_4 c_5 c_6 c_9), ht⟩) (fun _ h => by cases h) dX7_cellFrom_86
          · refine lv_iload_n hx hb dX7_cellFrom_57 rfl (lv_at hl 1 rfl) ?_
            refine lv_bipush (v := 16) hx hb dX7_cellFrom_58 (by decide) ?_
            refine lv_icmp_ge (tgt := 75) hx hb dX7_cellFrom_60 (by decide) (fun c_10 => ?_) (fun c_10 => ?_)
            · refine lv_iconst (v := (-1)) hx hb dX7_cellFrom_75 (by decide) ?_
              refine lv_goto (tgt := 86) hx hb dX7_cellFrom_76 (by decide) ?_
              exact W.iret (v := (-1)) hx hb hr (fun t ht hW => ⟨(-1), rfl, (lf_c_X7_cellFrom_2 ac ad ay y7 h_2 h_4 c_5 c_6 c_9 c_10), ht⟩) (fun _ h => by cases h) dX7_cellFrom_86
            · refine lv_iload hx hb dX7_cellFrom_63 (lv_at hl 0 rfl) ?_
              refine lv_if_lt (tgt := 75) hx hb dX7_cellFrom_65 (by decide) (fun c_11 => ?_) (fun c_11 => ?_)
              · refine lv_iconst (v := (-1)) hx hb dX7_cellFrom_75 (by decide) ?_
                refine lv_goto (tgt := 86) hx hb dX7_cellFrom_76 (by decide) ?_
                exact W.iret (v := (-1)) hx hb hr (fun t ht hW => ⟨(-1), rfl, (lf_c_X7_cellFrom_3 ac ad ay y7 y8 h_2 h_4 c_5 c_6 c_9 c_10 c_11), ht⟩) (fun _ h => by cases h) dX7_cellFrom_86
              · refine lv_iload hx hb dX7_cellFrom_68 (lv_at hl 0 rfl) ?_
                refine lv_bipush (v := 12) hx hb dX7_cellFrom_70 (by decide) ?_
                refine lv_icmp_lt (tgt := 79) hx hb dX7_cellFrom_72 (by decide) (fun c_12 => ?_) (fun c_12 => ?_)
                · refine lv_bipush (v := 16) hx hb dX7_cellFrom_79 (by decide) ?_
                  refine lv_iload hx hb dX7_cellFrom_81 (lv_at hl 0 rfl) ?_
                  refine lv_imul hx hb dX7_cellFrom_83 ?_
                  refine lv_iload_n hx hb dX7_cellFrom_84 rfl (lv_at hl 1 rfl) ?_
                  refine lv_iadd hx hb dX7_cellFrom_85 ?_
                  exact W.iret (v := ((16 * ((ac / 16) + (ay * y8))) + ((ac - ac / 16 * 16) + (ay * y7)))) hx hb hr (fun t ht hW => ⟨((16 * ((ac / 16) + (ay * y8))) + ((ac - ac / 16 * 16) + (ay * y7))), rfl, (lf_c_X7_cellFrom_4 ac ad ay y7 y8 h_2 h_4 c_5 c_6 c_9 c_10 c_11 c_12), ht⟩) (fun _ h => by cases h) dX7_cellFrom_86
                · refine lv_iconst (v := (-1)) hx hb dX7_cellFrom_75 (by decide) ?_
                  refine lv_goto (tgt := 86) hx hb dX7_cellFrom_76 (by decide) ?_
                  exact W.iret (v := (-1)) hx hb hr (fun t ht hW => ⟨(-1), rfl, (lf_c_X7_cellFrom_5 ac ad ay y7 y8 h_2 h_4 c_5 c_6 c_9 c_10 c_11 c_12), ht⟩) (fun _ h => by cases h) dX7_cellFrom_86
        · refine lv_iconst (v := (-1)) hx hb dX7_cellFrom_24 (by decide) ?_
          exact W.iret (v := (-1)) hx hb hr (fun t ht hW => ⟨(-1), rfl, (lf_c_X7_cellFrom_6 ac ad ay h_2 h_4 c_5 c_6), ht⟩) (fun _ h => by cases h) dX7_cellFrom_25
    · refine lv_if_eq (tgt := 24) hx hb dX7_cellFrom_11 (by decide) (fun _ => ?_) (fun h9 => absurd h9 (by decide))
      refine lv_iconst (v := (-1)) hx hb dX7_cellFrom_24 (by decide) ?_
      exact W.iret (v := (-1)) hx hb hr (fun t ht hW => ⟨(-1), rfl, (lf_c_X7_cellFrom_7 ac ad h_2 h_4), ht⟩) (fun _ h => by cases h) dX7_cellFrom_25
  · refine lv_if_eq (tgt := 24) hx hb dX7_cellFrom_4 (by decide) (fun _ => ?_) (fun h9 => absurd h9 (by decide))
    refine lv_iconst (v := (-1)) hx hb dX7_cellFrom_24 (by decide) ?_
    exact W.iret (v := (-1)) hx hb hr (fun t ht hW => ⟨(-1), rfl, (lf_c_X7_cellFrom_8 ac h_2), ht⟩) (fun _ h => by cases h) dX7_cellFrom_25
theorem vi_c_X9_kindAbove_0 (ak : Int32) (c_1 : ¬ ak < 0) (c_2 : ¬ 8 ≤ ak) : vp_in ak 8 := by first | exact vin_len (by assumption) (by assumption) (by omega) | exact vin_len2 (by assumption) (by assumption) (by omega) | exact vin_len3 (by assumption) (by assumption) (by omega) | (rw [vp_in_iff]; simp only [inR, hasT, Int32.le_iff_toInt_le, Int32.lt_iff_toInt_lt] at *; simp at *; omega)
set_option maxHeartbeats 4000000 in
set_option maxRecDepth 100000 in
theorem c_X9_kindAbove (l : Launch) (G : va_G) (cy : Nat → ClassId) (sk sa : Nat → Nat) (sz : Nat) (ak : Int32)  : Met l yX9_kindAbove (wsO yX9_kindAbove cX9_kindAbove 1 (some .int)) ({ frames := 0, cells := 0, slots := 0, locals := 0 }) (va_Pc [.int ak] (PG G cy sk sa sz [])) (vp_Si (fun _ => True)) 0 0 (fun _ => False) := by
  refine mgr (by decide) (Nat.le_of_ble_eq_true rfl) ?_
  intro p e s m below meth c ls A hx hb hr hml hts hown hlocks hin hsz hP hE hD hS hT hl
  subst hsz
  have hl : lv_has ls 1 [(0, .int ak)] := hl
  refine lv_iload_n hx hb dX9_kindAbove_0 rfl (lv_at hl 0 rfl) ?_
  refine lv_if_lt (tgt := 18) hx hb dX9_kindAbove_1 (by decide) (fun c_1 => ?_) (fun c_1 => ?_)
  · refine lv_iconst (v := (-1)) hx hb dX9_kindAbove_18 (by decide) ?_
    exact W.iret (v := (-1)) hx hb hr (fun t ht hW => ⟨(-1), rfl, trivial, ht⟩) (fun _ h => by cases h) dX9_kindAbove_19
  · refine lv_iload_n hx hb dX9_kindAbove_4 rfl (lv_at hl 0 rfl) ?_
    refine lv_bipush (v := 8) hx hb dX9_kindAbove_5 (by decide) ?_
    refine lv_icmp_ge (tgt := 18) hx hb dX9_kindAbove_7 (by decide) (fun c_2 => ?_) (fun c_2 => ?_)
    · refine lv_iconst (v := (-1)) hx hb dX9_kindAbove_18 (by decide) ?_
      exact W.iret (v := (-1)) hx hb hr (fun t ht hW => ⟨(-1), rfl, trivial, ht⟩) (fun _ h => by cases h) dX9_kindAbove_19
    · refine va_gets hx hb (hT.1 3 _ rfl).1 hS hown (hts _ m_646) (fun _ h9 => h9) dX9_kindAbove_10 ?_
      refine lv_iload_n hx hb dX9_kindAbove_13 rfl (lv_at hl 0 rfl) ?_
      refine va_ti hx hb (hT.1 3 _ rfl).2 hS (vi_c_X9_kindAbove_0 ak c_1 c_2) rfl dX9_kindAbove_14 ?_
      refine lv_topi (fun y3 ey3 => ?_)
      refine lv_goto (tgt := 19) hx hb dX9_kindAbove_15 (by decide) ?_
      exact W.iret (v := y3) hx hb hr (fun t ht hW => ⟨y3, rfl, trivial, ht⟩) (fun _ h => by cases h) dX9_kindAbove_19
theorem lf_c_X5_room_0 (n : Nat) (z : Int32)  : ((Int32.ofNat n) - z) = Int32.ofNat n - z := by rfl
set_option maxHeartbeats 4000000 in
set_option maxRecDepth 100000 in
theorem c_X5_room (l : Launch) (G : va_G) (cy : Nat → ClassId) (sk sa : Nat → Nat) (sz : Nat) (ro : Nat) (ra : Nat) (n : Nat) (fr : Nat → Int32) (z : Int32)  : Met l yX5_room (wsO yX5_room cX5_room 1 (some .int)) ({ frames := 0, cells := 0, slots := 0, locals := 0 }) (va_Pc [.ref ro] (PG G cy sk sa sz [(ro, .inr (5, [.ref ra, .int z])), (ra, .inl (cy 0, n, .inl fr))])) (vp_Si (fun r => r = Int32.ofNat n - z)) 0 0 (fun _ => False) := by
  refine mgr (by decide) (Nat.le_of_ble_eq_true rfl) ?_
  intro p e s m below meth c ls A hx hb hr hml hts hown hlocks hin hsz hP hE hD hS hT hl
  subst hsz
  have hl : lv_has ls 1 [(0, .ref ro)] := hl
  refine lv_aload_n hx hb dX5_room_0 rfl (lv_at hl 0 rfl) ?_
  refine va_get (D := G) (ci := 5) (v := .ref ra) (C := RX5) (T := TX5) (N := 2) hx hb hts inB5 hown hE.1 hP 0 rfl rfl 0 (by decide) (hts _ m_208) (fun _ h9 => h9) rfl dX5_room_1 ?_
  refine va_alen (v := (Int32.ofNat n)) hx hb hE.1 hP 1 0 rfl rfl rfl dX5_room_4 ?_
  refine lv_aload_n hx hb dX5_room_5 rfl (lv_at hl 0 rfl) ?_
  refine va_get (D := G) (ci := 5) (v := .int z) (C := RX5) (T := TX5) (N := 2) hx hb hts inB5 hown hE.1 hP 0 rfl rfl 1 (by decide) (hts _ m_209) (fun _ h9 => h9) rfl dX5_room_6 ?_
  refine lv_isub hx hb dX5_room_9 ?_
  exact W.iret (v := ((Int32.ofNat n) - z)) hx hb hr (fun t ht hW => ⟨((Int32.ofNat n) - z), rfl, (lf_c_X5_room_0 n z ), ht⟩) (fun _ h => by cases h) dX5_room_10
theorem lf_c_X5_has_0 (z : Int32) (v : Int32) (c_1 : v < 0) : ¬ (0 ≤ v ∧ v < z) := by simp only [Int32.le_iff_toInt_le, Int32.lt_iff_toInt_lt] at *; simp at *; omega
theorem lf_c_X5_has_1 (z : Int32) (v : Int32) (c_1 : ¬ v < 0) (c_2 : z ≤ v) : ¬ (0 ≤ v ∧ v < z) := by simp only [Int32.le_iff_toInt_le, Int32.lt_iff_toInt_lt] at *; simp at *; omega
theorem lf_c_X5_has_2 (z : Int32) (v : Int32) (c_1 : ¬ v < 0) (c_2 : ¬ z ≤ v) : (0 ≤ v ∧ v < z) := by simp only [Int32.le_iff_toInt_le, Int32.lt_iff_toInt_lt] at *; simp at *; omega
set_option maxHeartbeats 4000000 in
set_option maxRecDepth 100000 in
theorem c_X5_has (l : Launch) (G : va_G) (cy : Nat → ClassId) (sk sa : Nat → Nat) (sz : Nat) (ro : Nat) (ra : Nat) (n : Nat) (fr : Nat → Int32) (z : Int32) (v : Int32)  : Met l yX5_has (wsO yX5_has cX5_has 2 (some .boolean)) ({ frames := 0, cells := 0, slots := 0, locals := 0 }) (va_Pc [.ref ro, .int v] (PG G cy sk sa sz [(ro, .inr (5, [.ref ra, .int z]))])) (vp_Si (fun r => (r = 1 ∧ (0 ≤ v ∧ v < z)) ∨ (r = 0 ∧ ¬ (0 ≤ v ∧ v < z)))) 0 0 (fun _ => False) := by
  refine mgr (by decide) (Nat.le_of_ble_eq_true rfl) ?_
  intro p e s m below meth c ls A hx hb hr hml hts hown hlocks hin hsz hP hE hD hS hT hl
  subst hsz
  have hl : lv_has ls 2 [(0, .ref ro), (1, .int v)] := hl
  refine lv_iload_n hx hb dX5_has_0 rfl (lv_at hl 1 rfl) ?_
  refine lv_if_lt (tgt := 16) hx hb dX5_has_1 (by decide) (fun c_1 => ?_) (fun c_1 => ?_)
  · refine lv_iconst (v := 0) hx hb dX5_has_16 (by decide) ?_
    exact W.zret (v := 0) hx hb hr rfl (fun t ht hW => ⟨0, rfl, (Or.inr ⟨rfl, (lf_c_X5_has_0 z v c_1)⟩), ht⟩) (fun _ h => by cases h) dX5_has_17
  · refine lv_iload_n hx hb dX5_has_4 rfl (lv_at hl 1 rfl) ?_
    refine lv_aload_n hx hb dX5_has_5 rfl (lv_at hl 0 rfl) ?_
    refine va_get (D := G) (ci := 5) (v := .int z) (C := RX5) (T := TX5) (N := 2) hx hb hts inB5 hown hE.1 hP 0 rfl rfl 1 (by decide) (hts _ m_209) (fun _ h9 => h9) rfl dX5_has_6 ?_
    refine lv_icmp_ge (tgt := 16) hx hb dX5_has_9 (by decide) (fun c_2 => ?_) (fun c_2 => ?_)
    · refine lv_iconst (v := 0) hx hb dX5_has_16 (by decide) ?_
      exact W.zret (v := 0) hx hb hr rfl (fun t ht hW => ⟨0, rfl, (Or.inr ⟨rfl, (lf_c_X5_has_1 z v c_1 c_2)⟩), ht⟩) (fun _ h => by cases h) dX5_has_17
    · refine lv_iconst (v := 1) hx hb dX5_has_12 (by decide) ?_
      refine lv_goto (tgt := 17) hx hb dX5_has_13 (by decide) ?_
      exact W.zret (v := 1) hx hb hr rfl (fun t ht hW => ⟨1, rfl, (Or.inl ⟨rfl, (lf_c_X5_has_2 z v c_1 c_2)⟩), ht⟩) (fun _ h => by cases h) dX5_has_17
def B_c_X5_clear (G : va_G) (cy : Nat → ClassId) (A : Nat → Prop) (ro : Nat) (ra : Nat) (z : Int32) (H : Heap) : Prop := va_P G classes [(ro, .inr (5, [.ref ra, .int 0]))] H ∧ va_D A [(ro, .inr (5, [.ref ra, .int 0]))]
set_option maxHeartbeats 4000000 in
set_option maxRecDepth 100000 in
theorem c_X5_clear (l : Launch) (G : va_G) (cy : Nat → ClassId) (sk sa : Nat → Nat) (sz : Nat) (ro : Nat) (ra : Nat) (z : Int32)  : Met l yX5_clear (wsO yX5_clear cX5_clear 1 none) ({ frames := 0, cells := 0, slots := 0, locals := 0 }) (va_Pc [.ref ro] (PG G cy sk sa sz [(ro, .inr (5, [.ref ra, .int z]))])) (va_Qv (fun (_ : Unit) => True) (fun _ t => B_c_X5_clear G cy (va_A [(ro, .inr (5, [.ref ra, .int z]))] sz) ro ra z t.heap) (va_A [(ro, .inr (5, [.ref ra, .int z]))] sz)) 0 0 (va_A [(ro, .inr (5, [.ref ra, .int z]))] sz) := by
  refine mgw (Qc := fun A => (va_Qv (fun (_ : Unit) => True) (fun _ t => B_c_X5_clear G cy A ro ra z t.heap) A)) (by decide) (Nat.le_of_ble_eq_true rfl) ?_
  intro p e s m below meth c ls A hx hb hr hml hts hown hlocks hin hP hE hD hS hA hT hl
  have hl : lv_has ls 1 [(0, .ref ro)] := hl
  refine lv_aload_n hx hb dX5_clear_0 rfl (lv_at hl 0 rfl) ?_
  refine lv_iconst (v := 0) hx hb dX5_clear_1 (by decide) ?_
  refine va_put (D := G) (ci := 5) (v := .int 0) (ty := .int) (C := RX5) (T := TX5) (N := 2) hx hb hts inB5 tyX5 tyX5_ok nmX5 hown hE.1 hP hD hS 0 rfl rfl 1 (by decide) (hts _ m_209) (fun _ h9 => h9) rfl (by decide +kernel) rfl rfl (Nat.le_of_ble_eq_true rfl) dX5_clear_2 (fun H locs hP hD hS => ?_)
  have hP : va_P G classes [(ro, .inr (5, [.ref ra, .int 0]))] H := hP
  have hD : va_D A [(ro, .inr (5, [.ref ra, .int 0]))] := hD
  have hP9 := P_cut (wc := [(ro, .inr (5, [.ref ra, .int 0]))]) hP [0] rfl
  have hD9 := hD.sub (ws' := [(ro, .inr (5, [.ref ra, .int 0]))]) [0] (by decide) rfl
  refine W.widen (k := 0) (n := 0) (by first | exact Nat.le_of_ble_eq_true rfl | omega) (by first | exact Nat.le_of_ble_eq_true rfl | omega) ?_
  exact W.vret hx hb hr (fun t ht hW => ⟨⟨(), rfl, trivial, by dsimp only; rw [ht]; exact ⟨hP9, hD9⟩⟩, hS.F ht⟩) hS.2.2 dX5_clear_5
def B_c_X5_dropLast (G : va_G) (cy : Nat → ClassId) (A : Nat → Prop) (ro : Nat) (ra : Nat) (z : Int32) (H : Heap) : Prop := ∃ (z2 : Int32), va_P G classes [(ro, .inr (5, [.ref ra, .int z2]))] H ∧ va_D A [(ro, .inr (5, [.ref ra, .int z2]))]
set_option maxHeartbeats 4000000 in
set_option maxRecDepth 100000 in
theorem c_X5_dropLast (l : Launch) (G : va_G) (cy : Nat → ClassId) (sk sa : Nat → Nat) (sz : Nat) (ro : Nat) (ra : Nat) (z : Int32)  : Met l yX5_dropLast (wsO yX5_dropLast cX5_dropLast 1 none) ({ frames := 0, cells := 0, slots := 0, locals := 0 }) (va_Pc [.ref ro] (PG G cy sk sa sz [(ro, .inr (5, [.ref ra, .int z]))])) (va_Qv (fun (_ : Unit) => True) (fun _ t => B_c_X5_dropLast G cy (va_A [(ro, .inr (5, [.ref ra, .int z]))] sz) ro ra z t.heap) (va_A [(ro, .inr (5, [.ref ra, .int z]))] sz)) 0 0 (va_A [(ro, .inr (5, [.ref ra, .int z]))] sz) := by
  refine mgw (Qc := fun A => (va_Qv (fun (_ : Unit) => True) (fun _ t => B_c_X5_dropLast G cy A ro ra z t.heap) A)) (by decide) (Nat.le_of_ble_eq_true rfl) ?_
  intro p e s m below meth c ls A hx hb hr hml hts hown hlocks hin hP hE hD hS hA hT hl
  have hl : lv_has ls 1 [(0, .ref ro)] := hl
  refine lv_aload_n hx hb dX5_dropLast_0 rfl (lv_at hl 0 rfl) ?_
  refine va_get (D := G) (ci := 5) (v := .int z) (C := RX5) (T := TX5) (N := 2) hx hb hts inB5 hown hE.1 hP 0 rfl rfl 1 (by decide) (hts _ m_209) (fun _ h9 => h9) rfl dX5_dropLast_1 ?_
  refine lv_if_le (tgt := 17) hx hb dX5_dropLast_4 (by decide) (fun c_1 => ?_) (fun c_1 => ?_)
  · have hP9 := P_cut (wc := [(ro, .inr (5, [.ref ra, .int z]))]) hP [0] rfl
    have hD9 := hD.sub (ws' := [(ro, .inr (5, [.ref ra, .int z]))]) [0] (by decide) rfl
    refine W.widen (k := 0) (n := 0) (by first | exact Nat.le_of_ble_eq_true rfl | omega) (by first | exact Nat.le_of_ble_eq_true rfl | omega) ?_
    exact W.vret hx hb hr (fun t ht hW => ⟨⟨(), rfl, trivial, by dsimp only; rw [ht]; exact ⟨z, hP9, hD9⟩⟩, hS.F ht⟩) hS.2.2 dX5_dropLast_17
  · refine lv_aload_n hx hb dX5_dropLast_7 rfl (lv_at hl 0 rfl) ?_
    refine lv_dup hx hb dX5_dropLast_8 rfl ?_
    refine va_get (D := G) (ci := 5) (v := .int z) (C := RX5) (T := TX5) (N := 2) hx hb hts inB5 hown hE.1 hP 0 rfl rfl 1 (by decide) (hts _ m_209) (fun _ h9 => h9) rfl dX5_dropLast_9 ?_
    refine lv_iconst (v := 1) hx hb dX5_dropLast_12 (by decide) ?_
    refine lv_isub hx hb dX5_dropLast_13 ?_
    refine va_put (D := G) (ci := 5) (v := .int (z - 1)) (ty := .int) (C := RX5) (T := TX5) (N := 2) hx hb hts inB5 tyX5 tyX5_ok nmX5 hown hE.1 hP hD hS 0 rfl rfl 1 (by decide) (hts _ m_209) (fun _ h9 => h9) rfl (by decide +kernel) rfl rfl (Nat.le_of_ble_eq_true rfl) dX5_dropLast_14 (fun H locs hP hD hS => ?_)
    have hP : va_P G classes [(ro, .inr (5, [.ref ra, .int (z - 1)]))] H := hP
    have hD : va_D A [(ro, .inr (5, [.ref ra, .int (z - 1)]))] := hD
    have hP9 := P_cut (wc := [(ro, .inr (5, [.ref ra, .int (z - 1)]))]) hP [0] rfl
    have hD9 := hD.sub (ws' := [(ro, .inr (5, [.ref ra, .int (z - 1)]))]) [0] (by decide) rfl
    refine W.widen (k := 0) (n := 0) (by first | exact Nat.le_of_ble_eq_true rfl | omega) (by first | exact Nat.le_of_ble_eq_true rfl | omega) ?_
    exact W.vret hx hb hr (fun t ht hW => ⟨⟨(), rfl, trivial, by dsimp only; rw [ht]; exact ⟨(z - 1), hP9, hD9⟩⟩, hS.F ht⟩) hS.2.2 dX5_dropLast_17
theorem vi_c_X5_get_0 (n : Nat) (z : Int32) (v : Int32) (hn : n ≤ 100) (c_1 : ¬ v < 0) (c_2 : ¬ z ≤ v) (c_3 : ¬ (nI n) ≤ v) : vp_in v n := by first | exact vin_len (by assumption) (by assumption) (by omega) | exact vin_len2 (by assumption) (by assumption) (by omega) | exact vin_len3 (by assumption) (by assumption) (by omega) | (rw [vp_in_iff]; simp only [inR, hasT, Int32.le_iff_toInt_le, Int32.lt_iff_toInt_lt] at *; simp at *; omega)
set_option maxHeartbeats 4000000 in
set_option maxRecDepth 100000 in
theorem c_X5_get (l : Launch) (G : va_G) (cy : Nat → ClassId) (sk sa : Nat → Nat) (sz : Nat) (ro : Nat) (ra : Nat) (n : Nat) (fr : Nat → Int32) (z : Int32) (v : Int32) (hn : n ≤ 100) : Met l yX5_get (wsO yX5_get cX5_get 2 (some .int)) ({ frames := 0, cells := 0, slots := 0, locals := 0 }) (va_Pc [.ref ro, .int v] (PG G cy sk sa sz [(ro, .inr (5, [.ref ra, .int z])), (ra, .inl (cy 0, n, .inl fr))])) (vp_Si (fun _ => True)) 0 0 (fun _ => False) := by
  refine mgr (by decide) (Nat.le_of_ble_eq_true rfl) ?_
  intro p e s m below meth c ls A hx hb hr hml hts hown hlocks hin hsz hP hE hD hS hT hl
  subst hsz
  have hl : lv_has ls 2 [(0, .ref ro), (1, .int v)] := hl
  refine lv_iload_n hx hb dX5_get_0 rfl (lv_at hl 1 rfl) ?_
  refine lv_if_lt (tgt := 30) hx hb dX5_get_1 (by decide) (fun c_1 => ?_) (fun c_1 => ?_)
  · refine lv_iconst (v := 0) hx hb dX5_get_30 (by decide) ?_
    exact W.iret (v := 0) hx hb hr (fun t ht hW => ⟨0, rfl, trivial, ht⟩) (fun _ h => by cases h) dX5_get_31
  · refine lv_iload_n hx hb dX5_get_4 rfl (lv_at hl 1 rfl) ?_
    refine lv_aload_n hx hb dX5_get_5 rfl (lv_at hl 0 rfl) ?_
    refine va_get (D := G) (ci := 5) (v := .int z) (C := RX5) (T := TX5) (N := 2) hx hb hts inB5 hown hE.1 hP 0 rfl rfl 1 (by decide) (hts _ m_209) (fun _ h9 => h9) rfl dX5_get_6 ?_
    refine lv_icmp_ge (tgt := 30) hx hb dX5_get_9 (by decide) (fun c_2 => ?_) (fun c_2 => ?_)
    · refine lv_iconst (v := 0) hx hb dX5_get_30 (by decide) ?_
      exact W.iret (v := 0) hx hb hr (fun t ht hW => ⟨0, rfl, trivial, ht⟩) (fun _ h => by cases h) dX5_get_31
    · refine lv_iload_n hx hb dX5_get_12 rfl (lv_at hl 1 rfl) ?_
      refine lv_aload_n hx hb dX5_get_13 rfl (lv_at hl 0 rfl) ?_
      refine va_get (D := G) (ci := 5) (v := .ref ra) (C := RX5) (T := TX5) (N := 2) hx hb hts inB5 hown hE.1 hP 0 rfl rfl 0 (by decide) (hts _ m_208) (fun _ h9 => h9) rfl dX5_get_14 ?_
      refine va_alen (v := (nI n)) hx hb hE.1 hP 1 0 rfl rfl rfl dX5_get_17 ?_
      refine lv_icmp_ge (tgt := 30) hx hb dX5_get_18 (by decide) (fun c_3 => ?_) (fun c_3 => ?_)
      · refine lv_iconst (v := 0) hx hb dX5_get_30 (by decide) ?_
        exact W.iret (v := 0) hx hb hr (fun t ht hW => ⟨0, rfl, trivial, ht⟩) (fun _ h => by cases h) dX5_get_31
      · refine lv_aload_n hx hb dX5_get_21 rfl (lv_at hl 0 rfl) ?_
        refine va_get (D := G) (ci := 5) (v := .ref ra) (C := RX5) (T := TX5) (N := 2) hx hb hts inB5 hown hE.1 hP 0 rfl rfl 0 (by decide) (hts _ m_208) (fun _ h9 => h9) rfl dX5_get_22 ?_
        refine lv_iload_n hx hb dX5_get_25 rfl (lv_at hl 1 rfl) ?_
        refine va_iald hx hb hE.1 hP 1 0 rfl rfl (vi_c_X5_get_0 n z v hn c_1 c_2 c_3) dX5_get_26 ?_
        refine lv_topi (fun y4 ey4 => ?_)
        refine lv_goto (tgt := 31) hx hb dX5_get_27 (by decide) ?_
        exact W.iret (v := y4) hx hb hr (fun t ht hW => ⟨y4, rfl, trivial, ht⟩) (fun _ h => by cases h) dX5_get_31
def B_c_X5_add (G : va_G) (cy : Nat → ClassId) (A : Nat → Prop) (ro : Nat) (ra : Nat) (n : Nat) (fr : Nat → Int32) (z : Int32) (v : Int32) (H : Heap) : Prop := ∃ (z2 : Int32) (fr2 : Nat → Int32), va_P G classes [(ro, .inr (5, [.ref ra, .int z2])), (ra, .inl (cy 0, n, .inl fr2))] H ∧ va_D A [(ro, .inr (5, [.ref ra, .int z2])), (ra, .inl (cy 0, n, .inl fr2))]
theorem vi_c_X5_add_0 (n : Nat) (z : Int32) (hn : n ≤ 100) (c_1 : ¬ z < 0) (c_2 : ¬ (nI n) ≤ z) : vp_in z n := by first | exact vin_len (by assumption) (by assumption) (by omega) | exact vin_len2 (by assumption) (by assumption) (by omega) | exact vin_len3 (by assumption) (by assumption) (by omega) | (rw [vp_in_iff]; simp only [inR, hasT, Int32.le_iff_toInt_le, Int32.lt_iff_toInt_lt] at *; simp at *; omega)
set_option maxHeartbeats 4000000 in
set_option maxRecDepth 100000 in
theorem c_X5_add (l : Launch) (G : va_G) (cy : Nat → ClassId) (sk sa : Nat → Nat) (sz : Nat) (ro : Nat) (ra : Nat) (n : Nat) (fr : Nat → Int32) (z : Int32) (v : Int32) (hn : n ≤ 100) : Met l yX5_add (wsO yX5_add cX5_add 2 none) ({ frames := 0, cells := 0, slots := 0, locals := 0 }) (va_Pc [.ref ro, .int v] (PG G cy sk sa sz [(ro, .inr (5, [.ref ra, .int z])), (ra, .inl (cy 0, n, .inl fr))])) (va_Qv (fun (_ : Unit) => True) (fun _ t => B_c_X5_add G cy (va_A [(ro, .inr (5, [.ref ra, .int z])), (ra, .inl (cy 0, n, .inl fr))] sz) ro ra n fr z v t.heap) (va_A [(ro, .inr (5, [.ref ra, .int z])), (ra, .inl (cy 0, n, .inl fr))] sz)) 0 0 (va_A [(ro, .inr (5, [.ref ra, .int z])), (ra, .inl (cy 0, n, .inl fr))] sz) := by
  refine mgw (Qc := fun A => (va_Qv (fun (_ : Unit) => True) (fun _ t => B_c_X5_add G cy A ro ra n fr z v t.heap) A)) (by decide) (Nat.le_of_ble_eq_true rfl) ?_
  intro p e s m below meth c ls A hx hb hr hml hts hown hlocks hin hP hE hD hS hA hT hl
  have hl : lv_has ls 2 [(0, .ref ro), (1, .int v)] := hl
  refine lv_aload_n hx hb dX5_add_0 rfl (lv_at hl 0 rfl) ?_
  refine va_get (D := G) (ci := 5) (v := .int z) (C := RX5) (T := TX5) (N := 2) hx hb hts inB5 hown hE.1 hP 0 rfl rfl 1 (by decide) (hts _ m_209) (fun _ h9 => h9) rfl dX5_add_1 ?_
  refine lv_if_lt (tgt := 39) hx hb dX5_add_4 (by decide) (fun c_1 => ?_) (fun c_1 => ?_)
  · have hP9 := P_cut (wc := [(ro, .inr (5, [.ref ra, .int z])), (ra, .inl (cy 0, n, .inl fr))]) hP [0, 1] rfl
    have hD9 := hD.sub (ws' := [(ro, .inr (5, [.ref ra, .int z])), (ra, .inl (cy 0, n, .inl fr))]) [0, 1] (by decide) rfl
    refine W.widen (k := 0) (n := 0) (by first | exact Nat.le_of_ble_eq_true rfl | omega) (by first | exact Nat.le_of_ble_eq_true rfl | omega) ?_
    exact W.vret hx hb hr (fun t ht hW => ⟨⟨(), rfl, trivial, by dsimp only; rw [ht]; exact ⟨z, fr, hP9, hD9⟩⟩, hS.F ht⟩) hS.2.2 dX5_add_39
  · refine lv_aload_n hx hb dX5_add_7 rfl (lv_at hl 0 rfl) ?_
    refine va_get (D := G) (ci := 5) (v := .int z) (C := RX5) (T := TX5) (N := 2) hx hb hts inB5 hown hE.1 hP 0 rfl rfl 1 (by decide) (hts _ m_209) (fun _ h9 => h9) rfl dX5_add_8 ?_
    refine lv_aload_n hx hb dX5_add_11 rfl (lv_at hl 0 rfl) ?_
    refine va_get (D := G) (ci := 5) (v := .ref ra) (C := RX5) (T := TX5) (N := 2) hx hb hts inB5 hown hE.1 hP 0 rfl rfl 0 (by decide) (hts _ m_208) (fun _ h9 => h9) rfl dX5_add_12 ?_
    refine va_alen (v := (nI n)) hx hb hE.1 hP 1 0 rfl rfl rfl dX5_add_15 ?_
    refine lv_icmp_ge (tgt := 39) hx hb dX5_add_16 (by decide) (fun c_2 => ?_) (fun c_2 => ?_)
    · have hP9 := P_cut (wc := [(ro, .inr (5, [.ref ra, .int z])), (ra, .inl (cy 0, n, .inl fr))]) hP [0, 1] rfl
      have hD9 := hD.sub (ws' := [(ro, .inr (5, [.ref ra, .int z])), (ra, .inl (cy 0, n, .inl fr))]) [0, 1] (by decide) rfl
      refine W.widen (k := 0) (n := 0) (by first | exact Nat.le_of_ble_eq_true rfl | omega) (by first | exact Nat.le_of_ble_eq_true rfl | omega) ?_
      exact W.vret hx hb hr (fun t ht hW => ⟨⟨(), rfl, trivial, by dsimp only; rw [ht]; exact ⟨z, fr, hP9, hD9⟩⟩, hS.F ht⟩) hS.2.2 dX5_add_39
    · refine lv_aload_n hx hb dX5_add_19 rfl (lv_at hl 0 rfl) ?_
      refine va_get (D := G) (ci := 5) (v := .ref ra) (C := RX5) (T := TX5) (N := 2) hx hb hts inB5 hown hE.1 hP 0 rfl rfl 0 (by decide) (hts _ m_208) (fun _ h9 => h9) rfl dX5_add_20 ?_
      refine lv_aload_n hx hb dX5_add_23 rfl (lv_at hl 0 rfl) ?_
      refine va_get (D := G) (ci := 5) (v := .int z) (C := RX5) (T := TX5) (N := 2) hx hb hts inB5 hown hE.1 hP 0 rfl rfl 1 (by decide) (hts _ m_209) (fun _ h9 => h9) rfl dX5_add_24 ?_
      refine lv_iload_n hx hb dX5_add_27 rfl (lv_at hl 1 rfl) ?_
      refine va_iast hx hb hE.1 hP hD hS 1 0 rfl rfl (vi_c_X5_add_0 n z hn c_1 c_2) dX5_add_28 (fun H locs hP hD hS => ?_)
      have hP : va_P G classes [(ro, .inr (5, [.ref ra, .int z])), (ra, .inl (cy 0, n, .inl (upd fr (z).toNatClampNeg v)))] H := hP
      have hD : va_D A [(ro, .inr (5, [.ref ra, .int z])), (ra, .inl (cy 0, n, .inl (upd fr (z).toNatClampNeg v)))] := hD
      refine lv_aload_n hx hb dX5_add_29 rfl (lv_at hl 0 rfl) ?_
      refine lv_dup hx hb dX5_add_30 rfl ?_
      refine va_get (D := G) (ci := 5) (v := .int z) (C := RX5) (T := TX5) (N := 2) hx hb hts inB5 hown hE.1 hP 0 rfl rfl 1 (by decide) (hts _ m_209) (fun _ h9 => h9) rfl dX5_add_31 ?_
      refine lv_iconst (v := 1) hx hb dX5_add_34 (by decide) ?_
      refine lv_iadd hx hb dX5_add_35 ?_
      refine va_put (D := G) (ci := 5) (v := .int (z + 1)) (ty := .int) (C := RX5) (T := TX5) (N := 2) hx hb hts inB5 tyX5 tyX5_ok nmX5 hown hE.1 hP hD hS 0 rfl rfl 1 (by decide) (hts _ m_209) (fun _ h9 => h9) rfl (by decide +kernel) rfl rfl (Nat.le_of_ble_eq_true rfl) dX5_add_36 (fun H locs hP hD hS => ?_)
      have hP : va_P G classes [(ro, .inr (5, [.ref ra, .int (z + 1)])), (ra, .inl (cy 0, n, .inl (upd fr (z).toNatClampNeg v)))] H := hP
      have hD : va_D A [(ro, .inr (5, [.ref ra, .int (z + 1)])), (ra, .inl (cy 0, n, .inl (upd fr (z).toNatClampNeg v)))] := hD
      have hP9 := P_cut (wc := [(ro, .inr (5, [.ref ra, .int (z + 1)])), (ra, .inl (cy 0, n, .inl (upd fr (z).toNatClampNeg v)))]) hP [0, 1] rfl
      have hD9 := hD.sub (ws' := [(ro, .inr (5, [.ref ra, .int (z + 1)])), (ra, .inl (cy 0, n, .inl (upd fr (z).toNatClampNeg v)))]) [0, 1] (by decide) rfl
      refine W.widen (k := 0) (n := 0) (by first | exact Nat.le_of_ble_eq_true rfl | omega) (by first | exact Nat.le_of_ble_eq_true rfl | omega) ?_
      exact W.vret hx hb hr (fun t ht hW => ⟨⟨(), rfl, trivial, by dsimp only; rw [ht]; exact ⟨(z + 1), (upd fr (z).toNatClampNeg v), hP9, hD9⟩⟩, hS.F ht⟩) hS.2.2 dX5_add_39
