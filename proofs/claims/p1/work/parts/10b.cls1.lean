theorem lf_c_X11_within_0 (v : Int32) (lo : Int32) (hi : Int32) (c_1 : v < lo) : ¬ inR v lo hi := by simp only [inR, Int32.le_iff_toInt_le, Int32.lt_iff_toInt_lt] at *; omega
theorem lf_c_X11_within_1 (v : Int32) (lo : Int32) (hi : Int32) (c_1 : ¬ v < lo) (c_2 : hi < v) : ¬ inR v lo hi := by simp only [inR, Int32.le_iff_toInt_le, Int32.lt_iff_toInt_lt] at *; omega
theorem lf_c_X11_within_2 (v : Int32) (lo : Int32) (hi : Int32) (c_1 : ¬ v < lo) (c_2 : ¬ hi < v) : inR v lo hi := by simp only [inR, Int32.le_iff_toInt_le, Int32.lt_iff_toInt_lt] at *; omega
set_option maxHeartbeats 4000000 in
set_option maxRecDepth 100000 in
theorem c_X11_within (l : Launch) (G : va_G) (cy : Nat → ClassId) (sk : Nat → Nat) (sz : Nat) (v : Int32) (lo : Int32) (hi : Int32)  : Met l yX11_within (wsO yX11_within cX11_within 3 (some .boolean)) ({ frames := 0, cells := 0, slots := 0, locals := 0 }) (va_Pc [.int v, .int lo, .int hi] (PR G cy sk sz [])) (vp_Si (fun r => (r = 1 ∧ inR v lo hi) ∨ (r = 0 ∧ ¬ inR v lo hi))) 0 0 (fun _ => False) := by
  refine mt (by decide) (Nat.le_of_ble_eq_true rfl) ?_
  intro p e s m below meth c ls hx hb hr hml hts hown hlocks hin hsz hP hE hD hl
  subst hsz
  have hl : lv_has ls 3 [(0, .int v), (1, .int lo), (2, .int hi)] := hl
  refine lv_iload_n hx hb dX11_within_0 rfl (lv_at hl 0 rfl) ?_
  refine lv_iload_n hx hb dX11_within_1 rfl (lv_at hl 1 rfl) ?_
  refine lv_icmp_lt (tgt := 14) hx hb dX11_within_2 (by decide) (fun c_1 => ?_) (fun c_1 => ?_)
  · refine lv_iconst (v := 0) hx hb dX11_within_14 (by decide) ?_
    exact W.zret (v := 0) hx hb hr rfl (fun t ht hW => ⟨0, rfl, (Or.inr ⟨rfl, (lf_c_X11_within_0 v lo hi c_1)⟩), ht⟩) (fun _ h => by cases h) dX11_within_15
  · refine lv_iload_n hx hb dX11_within_5 rfl (lv_at hl 0 rfl) ?_
    refine lv_iload_n hx hb dX11_within_6 rfl (lv_at hl 2 rfl) ?_
    refine lv_icmp_gt (tgt := 14) hx hb dX11_within_7 (by decide) (fun c_2 => ?_) (fun c_2 => ?_)
    · refine lv_iconst (v := 0) hx hb dX11_within_14 (by decide) ?_
      exact W.zret (v := 0) hx hb hr rfl (fun t ht hW => ⟨0, rfl, (Or.inr ⟨rfl, (lf_c_X11_within_1 v lo hi c_1 c_2)⟩), ht⟩) (fun _ h => by cases h) dX11_within_15
    · refine lv_iconst (v := 1) hx hb dX11_within_10 (by decide) ?_
      refine lv_goto (tgt := 15) hx hb dX11_within_11 (by decide) ?_
      exact W.zret (v := 1) hx hb hr rfl (fun t ht hW => ⟨1, rfl, (Or.inl ⟨rfl, (lf_c_X11_within_2 v lo hi c_1 c_2)⟩), ht⟩) (fun _ h => by cases h) dX11_within_15
theorem lf_c_X11_isThingKind_0 (v : Int32) (h_2 : inR v 0 4) : inR v 0 4 := by first | rfl | simp_all
theorem lf_c_X11_isThingKind_1 (v : Int32) (h_2 : ¬ inR v 0 4) : ¬ inR v 0 4 := by first | rfl | simp_all
set_option maxHeartbeats 4000000 in
set_option maxRecDepth 100000 in
theorem c_X11_isThingKind (l : Launch) (G : va_G) (cy : Nat → ClassId) (sk : Nat → Nat) (sz : Nat) (v : Int32)  : Met l yX11_isThingKind (wsO yX11_isThingKind cX11_isThingKind 1 (some .boolean)) ({ frames := 1, cells := 0, slots := 0, locals := 22 }) (va_Pc [.int v] (PR G cy sk sz [])) (vp_Si (fun r => (r = 1 ∧ inR v 0 4) ∨ (r = 0 ∧ ¬ inR v 0 4))) 0 0 (fun _ => False) := by
  refine mt (by decide) (Nat.le_of_ble_eq_true rfl) ?_
  intro p e s m below meth c ls hx hb hr hml hts hown hlocks hin hsz hP hE hD hl
  subst hsz
  have hl : lv_has ls 1 [(0, .int v)] := hl
  refine lv_iload_n hx hb dX11_isThingKind_0 rfl (lv_at hl 0 rfl) ?_
  refine lv_iconst (v := 0) hx hb dX11_isThingKind_1 (by decide) ?_
  refine lv_iconst (v := 4) hx hb dX11_isThingKind_2 (by decide) ?_
  refine rS (rest := []) hx hb hml hown hts hE (c_X11_within l G cy sk s.heap.size v 0 4) kS_X11_within m_494 rfl rfl ⟨(Nat.le_of_ble_eq_true rfl), (Nat.le_of_ble_eq_true rfl)⟩ hP hD [] rfl rfl rfl rfl hl.1 (Nat.le_of_ble_eq_true rfl) dX11_isThingKind_3 ⟨Nat.zero_le _, Nat.zero_le _⟩ (fun r_1 hr_ => ?_)
  rcases hr_ with ⟨rfl, h_2⟩ | ⟨rfl, h_2⟩
  · exact W.zret (v := 1) hx hb hr rfl (fun t ht hW => ⟨1, rfl, (Or.inl ⟨rfl, (lf_c_X11_isThingKind_0 v h_2)⟩), ht⟩) (fun _ h => by cases h) dX11_isThingKind_6
  · exact W.zret (v := 0) hx hb hr rfl (fun t ht hW => ⟨0, rfl, (Or.inr ⟨rfl, (lf_c_X11_isThingKind_1 v h_2)⟩), ht⟩) (fun _ h => by cases h) dX11_isThingKind_6
theorem lf_c_X11_isWalkerKind_0 (v : Int32) (h_2 : inR v 0 7) : inR v 0 7 := by first | rfl | simp_all
theorem lf_c_X11_isWalkerKind_1 (v : Int32) (h_2 : ¬ inR v 0 7) : ¬ inR v 0 7 := by first | rfl | simp_all
set_option maxHeartbeats 4000000 in
set_option maxRecDepth 100000 in
theorem c_X11_isWalkerKind (l : Launch) (G : va_G) (cy : Nat → ClassId) (sk : Nat → Nat) (sz : Nat) (v : Int32)  : Met l yX11_isWalkerKind (wsO yX11_isWalkerKind cX11_isWalkerKind 1 (some .boolean)) ({ frames := 1, cells := 0, slots := 0, locals := 22 }) (va_Pc [.int v] (PR G cy sk sz [])) (vp_Si (fun r => (r = 1 ∧ inR v 0 7) ∨ (r = 0 ∧ ¬ inR v 0 7))) 0 0 (fun _ => False) := by
  refine mt (by decide) (Nat.le_of_ble_eq_true rfl) ?_
  intro p e s m below meth c ls hx hb hr hml hts hown hlocks hin hsz hP hE hD hl
  subst hsz
  have hl : lv_has ls 1 [(0, .int v)] := hl
  refine lv_iload_n hx hb dX11_isWalkerKind_0 rfl (lv_at hl 0 rfl) ?_
  refine lv_iconst (v := 0) hx hb dX11_isWalkerKind_1 (by decide) ?_
  refine lv_bipush (v := 7) hx hb dX11_isWalkerKind_2 (by decide) ?_
  refine rS (rest := []) hx hb hml hown hts hE (c_X11_within l G cy sk s.heap.size v 0 7) kS_X11_within m_494 rfl rfl ⟨(Nat.le_of_ble_eq_true rfl), (Nat.le_of_ble_eq_true rfl)⟩ hP hD [] rfl rfl rfl rfl hl.1 (Nat.le_of_ble_eq_true rfl) dX11_isWalkerKind_4 ⟨Nat.zero_le _, Nat.zero_le _⟩ (fun r_1 hr_ => ?_)
  rcases hr_ with ⟨rfl, h_2⟩ | ⟨rfl, h_2⟩
  · exact W.zret (v := 1) hx hb hr rfl (fun t ht hW => ⟨1, rfl, (Or.inl ⟨rfl, (lf_c_X11_isWalkerKind_0 v h_2)⟩), ht⟩) (fun _ h => by cases h) dX11_isWalkerKind_7
  · exact W.zret (v := 0) hx hb hr rfl (fun t ht hW => ⟨0, rfl, (Or.inr ⟨rfl, (lf_c_X11_isWalkerKind_1 v h_2)⟩), ht⟩) (fun _ h => by cases h) dX11_isWalkerKind_7
theorem lf_c_X11_isSheet_0 (v : Int32) (h_2 : inR v 0 3) : inR v 0 3 := by first | rfl | simp_all
theorem lf_c_X11_isSheet_1 (v : Int32) (h_2 : ¬ inR v 0 3) : ¬ inR v 0 3 := by first | rfl | simp_all
set_option maxHeartbeats 4000000 in
set_option maxRecDepth 100000 in
theorem c_X11_isSheet (l : Launch) (G : va_G) (cy : Nat → ClassId) (sk : Nat → Nat) (sz : Nat) (v : Int32)  : Met l yX11_isSheet (wsO yX11_isSheet cX11_isSheet 1 (some .boolean)) ({ frames := 1, cells := 0, slots := 0, locals := 22 }) (va_Pc [.int v] (PR G cy sk sz [])) (vp_Si (fun r => (r = 1 ∧ inR v 0 3) ∨ (r = 0 ∧ ¬ inR v 0 3))) 0 0 (fun _ => False) := by
  refine mt (by decide) (Nat.le_of_ble_eq_true rfl) ?_
  intro p e s m below meth c ls hx hb hr hml hts hown hlocks hin hsz hP hE hD hl
  subst hsz
  have hl : lv_has ls 1 [(0, .int v)] := hl
  refine lv_iload_n hx hb dX11_isSheet_0 rfl (lv_at hl 0 rfl) ?_
  refine lv_iconst (v := 0) hx hb dX11_isSheet_1 (by decide) ?_
  refine lv_iconst (v := 3) hx hb dX11_isSheet_2 (by decide) ?_
  refine rS (rest := []) hx hb hml hown hts hE (c_X11_within l G cy sk s.heap.size v 0 3) kS_X11_within m_494 rfl rfl ⟨(Nat.le_of_ble_eq_true rfl), (Nat.le_of_ble_eq_true rfl)⟩ hP hD [] rfl rfl rfl rfl hl.1 (Nat.le_of_ble_eq_true rfl) dX11_isSheet_3 ⟨Nat.zero_le _, Nat.zero_le _⟩ (fun r_1 hr_ => ?_)
  rcases hr_ with ⟨rfl, h_2⟩ | ⟨rfl, h_2⟩
  · exact W.zret (v := 1) hx hb hr rfl (fun t ht hW => ⟨1, rfl, (Or.inl ⟨rfl, (lf_c_X11_isSheet_0 v h_2)⟩), ht⟩) (fun _ h => by cases h) dX11_isSheet_6
  · exact W.zret (v := 0) hx hb hr rfl (fun t ht hW => ⟨0, rfl, (Or.inr ⟨rfl, (lf_c_X11_isSheet_1 v h_2)⟩), ht⟩) (fun _ h => by cases h) dX11_isSheet_6
theorem lf_c_X11_isBits_0 (v : Int32) (h_2 : inR v 0 31) : inR v 0 31 := by first | rfl | simp_all
theorem lf_c_X11_isBits_1 (v : Int32) (h_2 : ¬ inR v 0 31) : ¬ inR v 0 31 := by first | rfl | simp_all
set_option maxHeartbeats 4000000 in
set_option maxRecDepth 100000 in
theorem c_X11_isBits (l : Launch) (G : va_G) (cy : Nat → ClassId) (sk : Nat → Nat) (sz : Nat) (v : Int32)  : Met l yX11_isBits (wsO yX11_isBits cX11_isBits 1 (some .boolean)) ({ frames := 1, cells := 0, slots := 0, locals := 22 }) (va_Pc [.int v] (PR G cy sk sz [])) (vp_Si (fun r => (r = 1 ∧ inR v 0 31) ∨ (r = 0 ∧ ¬ inR v 0 31))) 0 0 (fun _ => False) := by
  refine mt (by decide) (Nat.le_of_ble_eq_true rfl) ?_
  intro p e s m below meth c ls hx hb hr hml hts hown hlocks hin hsz hP hE hD hl
  subst hsz
  have hl : lv_has ls 1 [(0, .int v)] := hl
  refine lv_iload_n hx hb dX11_isBits_0 rfl (lv_at hl 0 rfl) ?_
  refine lv_iconst (v := 0) hx hb dX11_isBits_1 (by decide) ?_
  refine lv_bipush (v := 31) hx hb dX11_isBits_2 (by decide) ?_
  refine rS (rest := []) hx hb hml hown hts hE (c_X11_within l G cy sk s.heap.size v 0 31) kS_X11_within m_494 rfl rfl ⟨(Nat.le_of_ble_eq_true rfl), (Nat.le_of_ble_eq_true rfl)⟩ hP hD [] rfl rfl rfl rfl hl.1 (Nat.le_of_ble_eq_true rfl) dX11_isBits_4 ⟨Nat.zero_le _, Nat.zero_le _⟩ (fun r_1 hr_ => ?_)
  rcases hr_ with ⟨rfl, h_2⟩ | ⟨rfl, h_2⟩
  · exact W.zret (v := 1) hx hb hr rfl (fun t ht hW => ⟨1, rfl, (Or.inl ⟨rfl, (lf_c_X11_isBits_0 v h_2)⟩), ht⟩) (fun _ h => by cases h) dX11_isBits_7
  · exact W.zret (v := 0) hx hb hr rfl (fun t ht hW => ⟨0, rfl, (Or.inr ⟨rfl, (lf_c_X11_isBits_1 v h_2)⟩), ht⟩) (fun _ h => by cases h) dX11_isBits_7
theorem lf_c_X7_isCell_0 (v : Int32) (c_1 : v < 0) : ¬ inR v 0 191 := by simp only [inR, Int32.le_iff_toInt_le, Int32.lt_iff_toInt_lt] at *; simp at *; omega
theorem lf_c_X7_isCell_1 (v : Int32) (c_1 : ¬ v < 0) (c_2 : 192 ≤ v) : ¬ inR v 0 191 := by simp only [inR, Int32.le_iff_toInt_le, Int32.lt_iff_toInt_lt] at *; simp at *; omega
theorem lf_c_X7_isCell_2 (v : Int32) (c_1 : ¬ v < 0) (c_2 : ¬ 192 ≤ v) : inR v 0 191 := by simp only [inR, Int32.le_iff_toInt_le, Int32.lt_iff_toInt_lt] at *; simp at *; omega
set_option maxHeartbeats 4000000 in
set_option maxRecDepth 100000 in
theorem c_X7_isCell (l : Launch) (G : va_G) (cy : Nat → ClassId) (sk : Nat → Nat) (sz : Nat) (v : Int32)  : Met l yX7_isCell (wsO yX7_isCell cX7_isCell 1 (some .boolean)) ({ frames := 0, cells := 0, slots := 0, locals := 0 }) (va_Pc [.int v] (PR G cy sk sz [])) (vp_Si (fun r => (r = 1 ∧ inR v 0 191) ∨ (r = 0 ∧ ¬ inR v 0 191))) 0 0 (fun _ => False) := by
  refine mt (by decide) (Nat.le_of_ble_eq_true rfl) ?_
  intro p e s m below meth c ls hx hb hr hml hts hown hlocks hin hsz hP hE hD hl
  subst hsz
  have hl : lv_has ls 1 [(0, .int v)] := hl
  refine lv_iload_n hx hb dX7_isCell_0 rfl (lv_at hl 0 rfl) ?_
  refine lv_if_lt (tgt := 15) hx hb dX7_isCell_1 (by decide) (fun c_1 => ?_) (fun c_1 => ?_)
  · refine lv_iconst (v := 0) hx hb dX7_isCell_15 (by decide) ?_
    exact W.zret (v := 0) hx hb hr rfl (fun t ht hW => ⟨0, rfl, (Or.inr ⟨rfl, (lf_c_X7_isCell_0 v c_1)⟩), ht⟩) (fun _ h => by cases h) dX7_isCell_16
  · refine lv_iload_n hx hb dX7_isCell_4 rfl (lv_at hl 0 rfl) ?_
    refine lv_sipush (v := 192) hx hb dX7_isCell_5 (by decide) ?_
    refine lv_icmp_ge (tgt := 15) hx hb dX7_isCell_8 (by decide) (fun c_2 => ?_) (fun c_2 => ?_)
    · refine lv_iconst (v := 0) hx hb dX7_isCell_15 (by decide) ?_
      exact W.zret (v := 0) hx hb hr rfl (fun t ht hW => ⟨0, rfl, (Or.inr ⟨rfl, (lf_c_X7_isCell_1 v c_1 c_2)⟩), ht⟩) (fun _ h => by cases h) dX7_isCell_16
    · refine lv_iconst (v := 1) hx hb dX7_isCell_11 (by decide) ?_
      refine lv_goto (tgt := 16) hx hb dX7_isCell_12 (by decide) ?_
      exact W.zret (v := 1) hx hb hr rfl (fun t ht hW => ⟨1, rfl, (Or.inl ⟨rfl, (lf_c_X7_isCell_2 v c_1 c_2)⟩), ht⟩) (fun _ h => by cases h) dX7_isCell_16
theorem lf_c_X7_isSide_0 (v : Int32) (c_1 : v < 0) : ¬ inR v 0 7 := by simp only [inR, Int32.le_iff_toInt_le, Int32.lt_iff_toInt_lt] at *; simp at *; omega
theorem lf_c_X7_isSide_1 (v : Int32) (c_1 : ¬ v < 0) (c_2 : 8 ≤ v) : ¬ inR v 0 7 := by simp only [inR, Int32.le_iff_toInt_le, Int32.lt_iff_toInt_lt] at *; simp at *; omega
theorem lf_c_X7_isSide_2 (v : Int32) (c_1 : ¬ v < 0) (c_2 : ¬ 8 ≤ v) : inR v 0 7 := by simp only [inR, Int32.le_iff_toInt_le, Int32.lt_iff_toInt_lt] at *; simp at *; omega
set_option maxHeartbeats 4000000 in
set_option maxRecDepth 100000 in
theorem c_X7_isSide (l : Launch) (G : va_G) (cy : Nat → ClassId) (sk : Nat → Nat) (sz : Nat) (v : Int32)  : Met l yX7_isSide (wsO yX7_isSide cX7_isSide 1 (some .boolean)) ({ frames := 0, cells := 0, slots := 0, locals := 0 }) (va_Pc [.int v] (PR G cy sk sz [])) (vp_Si (fun r => (r = 1 ∧ inR v 0 7) ∨ (r = 0 ∧ ¬ inR v 0 7))) 0 0 (fun _ => False) := by
  refine mt (by decide) (Nat.le_of_ble_eq_true rfl) ?_
  intro p e s m below meth c ls hx hb hr hml hts hown hlocks hin hsz hP hE hD hl
  subst hsz
  have hl : lv_has ls 1 [(0, .int v)] := hl
  refine lv_iload_n hx hb dX7_isSide_0 rfl (lv_at hl 0 rfl) ?_
  refine lv_if_lt (tgt := 14) hx hb dX7_isSide_1 (by decide) (fun c_1 => ?_) (fun c_1 => ?_)
  · refine lv_iconst (v := 0) hx hb dX7_isSide_14 (by decide) ?_
    exact W.zret (v := 0) hx hb hr rfl (fun t ht hW => ⟨0, rfl, (Or.inr ⟨rfl, (lf_c_X7_isSide_0 v c_1)⟩), ht⟩) (fun _ h => by cases h) dX7_isSide_15
  · refine lv_iload_n hx hb dX7_isSide_4 rfl (lv_at hl 0 rfl) ?_
    refine lv_bipush (v := 8) hx hb dX7_isSide_5 (by decide) ?_
    refine lv_icmp_ge (tgt := 14) hx hb dX7_isSide_7 (by decide) (fun c_2 => ?_) (fun c_2 => ?_)
    · refine lv_iconst (v := 0) hx hb dX7_isSide_14 (by decide) ?_
      exact W.zret (v := 0) hx hb hr rfl (fun t ht hW => ⟨0, rfl, (Or.inr ⟨rfl, (lf_c_X7_isSide_1 v c_1 c_2)⟩), ht⟩) (fun _ h => by cases h) dX7_isSide_15
    · refine lv_iconst (v := 1) hx hb dX7_isSide_10 (by decide) ?_
      refine lv_goto (tgt := 15) hx hb dX7_isSide_11 (by decide) ?_
      exact W.zret (v := 1) hx hb hr rfl (fun t ht hW => ⟨1, rfl, (Or.inl ⟨rfl, (lf_c_X7_isSide_2 v c_1 c_2)⟩), ht⟩) (fun _ h => by cases h) dX7_isSide_15
theorem lf_c_X7_isFree_0 (foc : Nat → Int32) (v : Int32) (hoc : ∀ j, j < 192 → foc j = (-1)) (hv : inR v 0 191) (h_2 : ¬ inR v 0 191) : (0 : Int32) = 1 := by first | rfl | simp_all
set_option maxHeartbeats 4000000 in
set_option maxRecDepth 100000 in
theorem c_X7_isFree (l : Launch) (G : va_G) (cy : Nat → ClassId) (sk : Nat → Nat) (sz : Nat) (st : Nat) (oc : Nat) (ki : Nat) (ce : Nat) (si : Nat) (sp : Nat) (foc : Nat → Int32) (v : Int32) (hoc : ∀ j, j < 192 → foc j = (-1)) (hv : inR v 0 191) : Met l yX7_isFree (wsO yX7_isFree cX7_isFree 2 (some .boolean)) ({ frames := 1, cells := 0, slots := 0, locals := 20 }) (va_Pc [.ref st, .int v] (PR G cy sk sz [(st, .inr (7, [.ref oc, .ref ki, .ref ce, .ref si, .ref sp, .int 0])), (oc, .inl (cy 0, 192, .inl foc))])) (vp_Si (fun r => r = 1)) 0 0 (fun _ => False) := by
  refine mt (by decide) (Nat.le_of_ble_eq_true rfl) ?_
  intro p e s m below meth c ls hx hb hr hml hts hown hlocks hin hsz hP hE hD hl
  subst hsz
  have hl : lv_has ls 2 [(0, .ref st), (1, .int v)] := hl
  refine lv_iload_n hx hb dX7_isFree_0 rfl (lv_at hl 1 rfl) ?_
  refine rS (rest := []) hx hb hml hown hts hE (c_X7_isCell l G cy sk s.heap.size v) kS_X7_isCell m_509 rfl rfl ⟨(Nat.le_of_ble_eq_true rfl), (Nat.le_of_ble_eq_true rfl)⟩ hP hD [] rfl rfl rfl rfl hl.1 (Nat.le_of_ble_eq_true rfl) dX7_isFree_1 ⟨Nat.zero_le _, Nat.zero_le _⟩ (fun r_1 hr_ => ?_)
  rcases hr_ with ⟨rfl, h_2⟩ | ⟨rfl, h_2⟩
  · refine lv_if_eq (tgt := 21) hx hb dX7_isFree_4 (by decide) (fun h9 => absurd h9 (by decide)) (fun _ => ?_)
    refine lv_aload_n hx hb dX7_isFree_7 rfl (lv_at hl 0 rfl) ?_
    refine va_get (D := G) (ci := 7) (v := .ref oc) (C := RX7) (T := TX7) (N := 6) hx hb hts inB7 hown hE.1 hP 0 rfl rfl 0 (by decide) (hts _ m_121) (fun _ h9 => h9) rfl dX7_isFree_8 ?_
    refine lv_iload_n hx hb dX7_isFree_11 rfl (lv_at hl 1 rfl) ?_
    refine va_iald hx hb hE.1 hP 1 0 rfl rfl (vinB hv (by decide) (by decide)) dX7_isFree_12 ?_
    refine tp (v := (-1)) (hoc _ (vinB_nat hv (by decide) (by decide))) ?_
    refine lv_iconst (v := (-1)) hx hb dX7_isFree_13 (by decide) ?_
    refine lv_icmp_ne (tgt := 21) hx hb dX7_isFree_14 (by decide) (fun h9 => absurd h9 (by decide)) (fun _ => ?_)
    refine lv_iconst (v := 1) hx hb dX7_isFree_17 (by decide) ?_
    refine lv_goto (tgt := 22) hx hb dX7_isFree_18 (by decide) ?_
    exact W.zret (v := 1) hx hb hr rfl (fun t ht hW => ⟨1, rfl, rfl, ht⟩) (fun _ h => by cases h) dX7_isFree_22
  · refine lv_if_eq (tgt := 21) hx hb dX7_isFree_4 (by decide) (fun _ => ?_) (fun h9 => absurd h9 (by decide))
    refine lv_iconst (v := 0) hx hb dX7_isFree_21 (by decide) ?_
    exact W.zret (v := 0) hx hb hr rfl (fun t ht hW => ⟨0, rfl, (lf_c_X7_isFree_0 foc v hoc hv h_2), ht⟩) (fun _ h => by cases h) dX7_isFree_22
set_option maxHeartbeats 4000000 in
set_option maxRecDepth 100000 in
theorem c_X7_hasRoom (l : Launch) (G : va_G) (cy : Nat → ClassId) (sk : Nat → Nat) (sz : Nat) (st : Nat) (oc : Nat) (ki : Nat) (ce : Nat) (si : Nat) (sp : Nat)  : Met l yX7_hasRoom (wsO yX7_hasRoom cX7_hasRoom 1 (some .boolean)) ({ frames := 0, cells := 0, slots := 0, locals := 0 }) (va_Pc [.ref st] (PR G cy sk sz [(st, .inr (7, [.ref oc, .ref ki, .ref ce, .ref si, .ref sp, .int 0]))])) (vp_Si (fun r => r = 1)) 0 0 (fun _ => False) := by
  refine mt (by decide) (Nat.le_of_ble_eq_true rfl) ?_
  intro p e s m below meth c ls hx hb hr hml hts hown hlocks hin hsz hP hE hD hl
  subst hsz
  have hl : lv_has ls 1 [(0, .ref st)] := hl
  refine lv_aload_n hx hb dX7_hasRoom_0 rfl (lv_at hl 0 rfl) ?_
  refine va_get (D := G) (ci := 7) (v := .int 0) (C := RX7) (T := TX7) (N := 6) hx hb hts inB7 hown hE.1 hP 0 rfl rfl 5 (by decide) (hts _ m_132) (fun _ h9 => h9) rfl dX7_hasRoom_1 ?_
  refine lv_bipush (v := 40) hx hb dX7_hasRoom_4 (by decide) ?_
  refine lv_icmp_ge (tgt := 13) hx hb dX7_hasRoom_6 (by decide) (fun h9 => absurd h9 (by decide)) (fun _ => ?_)
  refine lv_iconst (v := 1) hx hb dX7_hasRoom_9 (by decide) ?_
  refine lv_goto (tgt := 14) hx hb dX7_hasRoom_10 (by decide) ?_
  exact W.zret (v := 1) hx hb hr rfl (fun t ht hW => ⟨1, rfl, rfl, ht⟩) (fun _ h => by cases h) dX7_hasRoom_14
theorem lf_c_X7_hasThing_0 (v : Int32) (c_1 : ¬ v < 0) (c_2 : ¬ 0 ≤ v) (c_3 : ¬ 40 ≤ v) : (1 : Int32) = 0 := by simp only [inR, Int32.le_iff_toInt_le, Int32.lt_iff_toInt_lt] at *; simp at *; omega
set_option maxHeartbeats 4000000 in
set_option maxRecDepth 100000 in
theorem c_X7_hasThing (l : Launch) (G : va_G) (cy : Nat → ClassId) (sk : Nat → Nat) (sz : Nat) (st : Nat) (oc : Nat) (ki : Nat) (ce : Nat) (si : Nat) (sp : Nat) (v : Int32)  : Met l yX7_hasThing (wsO yX7_hasThing cX7_hasThing 2 (some .boolean)) ({ frames := 0, cells := 0, slots := 0, locals := 0 }) (va_Pc [.ref st, .int v] (PR G cy sk sz [(st, .inr (7, [.ref oc, .ref ki, .ref ce, .ref si, .ref sp, .int 0]))])) (vp_Si (fun r => r = 0)) 0 0 (fun _ => False) := by
  refine mt (by decide) (Nat.le_of_ble_eq_true rfl) ?_
  intro p e s m below meth c ls hx hb hr hml hts hown hlocks hin hsz hP hE hD hl
  subst hsz
  have hl : lv_has ls 2 [(0, .ref st), (1, .int v)] := hl
  refine lv_iload_n hx hb dX7_hasThing_0 rfl (lv_at hl 1 rfl) ?_
  refine lv_if_lt (tgt := 22) hx hb dX7_hasThing_1 (by decide) (fun c_1 => ?_) (fun c_1 => ?_)
  · refine lv_iconst (v := 0) hx hb dX7_hasThing_22 (by decide) ?_
    exact W.zret (v := 0) hx hb hr rfl (fun t ht hW => ⟨0, rfl, rfl, ht⟩) (fun _ h => by cases h) dX7_hasThing_23
  · refine lv_iload_n hx hb dX7_hasThing_4 rfl (lv_at hl 1 rfl) ?_
    refine lv_aload_n hx hb dX7_hasThing_5 rfl (lv_at hl 0 rfl) ?_
    refine va_get (D := G) (ci := 7) (v := .int 0) (C := RX7) (T := TX7) (N := 6) hx hb hts inB7 hown hE.1 hP 0 rfl rfl 5 (by decide) (hts _ m_132) (fun _ h9 => h9) rfl dX7_hasThing_6 ?_
    refine lv_icmp_ge (tgt := 22) hx hb dX7_hasThing_9 (by decide) (fun c_2 => ?_) (fun c_2 => ?_)
    · refine lv_iconst (v := 0) hx hb dX7_hasThing_22 (by decide) ?_
      exact W.zret (v := 0) hx hb hr rfl (fun t ht hW => ⟨0, rfl, rfl, ht⟩) (fun _ h => by cases h) dX7_hasThing_23
    · refine lv_iload_n hx hb dX7_hasThing_12 rfl (lv_at hl 1 rfl) ?_
      refine lv_bipush (v := 40) hx hb dX7_hasThing_13 (by decide) ?_
      refine lv_icmp_ge (tgt := 22) hx hb dX7_hasThing_15 (by decide) (fun c_3 => ?_) (fun c_3 => ?_)
      · refine lv_iconst (v := 0) hx hb dX7_hasThing_22 (by decide) ?_
        exact W.zret (v := 0) hx hb hr rfl (fun t ht hW => ⟨0, rfl, rfl, ht⟩) (fun _ h => by cases h) dX7_hasThing_23
      · refine lv_iconst (v := 1) hx hb dX7_hasThing_18 (by decide) ?_
        refine lv_goto (tgt := 23) hx hb dX7_hasThing_19 (by decide) ?_
        exact W.zret (v := 1) hx hb hr rfl (fun t ht hW => ⟨1, rfl, (lf_c_X7_hasThing_0 v c_1 c_2 c_3), ht⟩) (fun _ h => by cases h) dX7_hasThing_23
def B_c_X7_settle (G : va_G) (cy : Nat → ClassId) (A : Nat → Prop) (st : Nat) (oc : Nat) (ki : Nat) (ce : Nat) (si : Nat) (sp : Nat) (foc : Nat → Int32) (th : Int32) (v : Int32) (who : Int32) (H : Heap) : Prop := ∃ (foc2 : Nat → Int32), va_P G classes [(st, .inr (7, [.ref oc, .ref ki, .ref ce, .ref si, .ref sp, .int th])), (oc, .inl (cy 0, 192, .inl foc2))] H ∧ va_D A [(st, .inr (7, [.ref oc, .ref ki, .ref ce, .ref si, .ref sp, .int th])), (oc, .inl (cy 0, 192, .inl foc2))]
set_option maxHeartbeats 4000000 in
set_option maxRecDepth 100000 in
theorem c_X7_settle (l : Launch) (G : va_G) (cy : Nat → ClassId) (sk : Nat → Nat) (sz : Nat) (st : Nat) (oc : Nat) (ki : Nat) (ce : Nat) (si : Nat) (sp : Nat) (foc : Nat → Int32) (th : Int32) (v : Int32) (who : Int32)  : Met l yX7_settle (wsO yX7_settle cX7_settle 3 none) ({ frames := 1, cells := 0, slots := 0, locals := 20 }) (va_Pc [.ref st, .int v, .int who] (PR G cy sk sz [(st, .inr (7, [.ref oc, .ref ki, .ref ce, .ref si, .ref sp, .int th])), (oc, .inl (cy 0, 192, .inl foc))])) (va_Qv (fun (_ : Unit) => True) (fun _ t => B_c_X7_settle G cy (va_A [(st, .inr (7, [.ref oc, .ref ki, .ref ce, .ref si, .ref sp, .int th])), (oc, .inl (cy 0, 192, .inl foc))] sz) st oc ki ce si sp foc th v who t.heap) (va_A [(st, .inr (7, [.ref oc, .ref ki, .ref ce, .ref si, .ref sp, .int th])), (oc, .inl (cy 0, 192, .inl foc))] sz)) 0 0 (va_A [(st, .inr (7, [.ref oc, .ref ki, .ref ce, .ref si, .ref sp, .int th])), (oc, .inl (cy 0, 192, .inl foc))] sz) := by
  refine mt (by decide) (Nat.le_of_ble_eq_true rfl) ?_
  intro p e s m below meth c ls hx hb hr hml hts hown hlocks hin hsz hP hE hD hl
  subst hsz
  have hl : lv_has ls 3 [(0, .ref st), (1, .int v), (2, .int who)] := hl
  have hD := hD.self (sz := s.heap.size)
  generalize hAe : va_A [(st, .inr (7, [.ref oc, .ref ki, .ref ce, .ref si, .ref sp, .int th])), (oc, .inl (cy 0, 192, .inl foc))] s.heap.size = A at hD ⊢
  have hA : ∀ q : Nat, s.heap.size ≤ q → A q := fun q h => by rw [← hAe]; exact Or.inr h
  have hS : va_S A s.heap s.heap [] := va_S.rf
  refine lv_iload_n hx hb dX7_settle_0 rfl (lv_at hl 1 rfl) ?_
  refine rS (rest := []) hx hb hml hown hts hE (c_X7_isCell l G cy sk s.heap.size v) kS_X7_isCell m_509 rfl rfl ⟨(Nat.le_of_ble_eq_true rfl), (Nat.le_of_ble_eq_true rfl)⟩ hP hD [] rfl rfl rfl rfl hl.1 (Nat.le_of_ble_eq_true rfl) dX7_settle_1 ⟨(Nat.le_of_ble_eq_true rfl), (Nat.le_of_ble_eq_true rfl)⟩ (fun r_1 hr_ => ?_)
  rcases hr_ with ⟨rfl, h_2⟩ | ⟨rfl, h_2⟩
  · refine lv_if_eq (tgt := 14) hx hb dX7_settle_4 (by decide) (fun h9 => absurd h9 (by decide)) (fun _ => ?_)
    refine lv_aload_n hx hb dX7_settle_7 rfl (lv_at hl 0 rfl) ?_
    refine va_get (D := G) (ci := 7) (v := .ref oc) (C := RX7) (T := TX7) (N := 6) hx hb hts inB7 hown hE.1 hP 0 rfl rfl 0 (by decide) (hts _ m_121) (fun _ h9 => h9) rfl dX7_settle_8 ?_
    refine lv_iload_n hx hb dX7_settle_11 rfl (lv_at hl 1 rfl) ?_
    refine lv_iload_n hx hb dX7_settle_12 rfl (lv_at hl 2 rfl) ?_
    refine va_iast hx hb hE.1 hP hD hS 1 0 rfl rfl (vinB h_2 (by decide) (by decide)) dX7_settle_13 (fun H locs hP hD hS => ?_)
    have hP : va_P G classes [(st, .inr (7, [.ref oc, .ref ki, .ref ce, .ref si, .ref sp, .int th])), (oc, .inl (cy 0, 192, .inl (upd foc (v).toNatClampNeg who)))] H := hP
    have hD : va_D A [(st, .inr (7, [.ref oc, .ref ki, .ref ce, .ref si, .ref sp, .int th])), (oc, .inl (cy 0, 192, .inl (upd foc (v).toNatClampNeg who)))] := hD
    have hP9 := P_cut (wc := [(st, .inr (7, [.ref oc, .ref ki, .ref ce, .ref si, .ref sp, .int th])), (oc, .inl (cy 0, 192, .inl (upd foc (v).toNatClampNeg who)))]) hP [0, 1] rfl
    have hD9 := hD.sub (ws' := [(st, .inr (7, [.ref oc, .ref ki, .ref ce, .ref si, .ref sp, .int th])), (oc, .inl (cy 0, 192, .inl (upd foc (v).toNatClampNeg who)))]) [0, 1] (by decide) rfl
    refine W.widen (k := 0) (n := 0) (by first | exact Nat.le_of_ble_eq_true rfl | omega) (by first | exact Nat.le_of_ble_eq_true rfl | omega) ?_
    exact W.vret hx hb hr (fun t ht hW => ⟨⟨(), rfl, trivial, by dsimp only; rw [ht]; exact ⟨(upd foc (v).toNatClampNeg who), hP9, hD9⟩⟩, hS.F ht⟩) hS.2.2 dX7_settle_14
  · refine lv_if_eq (tgt := 14) hx hb dX7_settle_4 (by decide) (fun _ => ?_) (fun h9 => absurd h9 (by decide))
    have hP9 := P_cut (wc := [(st, .inr (7, [.ref oc, .ref ki, .ref ce, .ref si, .ref sp, .int th])), (oc, .inl (cy 0, 192, .inl foc))]) hP [0, 1] rfl
    have hD9 := hD.sub (ws' := [(st, .inr (7, [.ref oc, .ref ki, .ref ce, .ref si, .ref sp, .int th])), (oc, .inl (cy 0, 192, .inl foc))]) [0, 1] (by decide) rfl
    refine W.widen (k := 0) (n := 0) (by first | exact Nat.le_of_ble_eq_true rfl | omega) (by first | exact Nat.le_of_ble_eq_true rfl | omega) ?_
    exact W.vret hx hb hr (fun t ht hW => ⟨⟨(), rfl, trivial, by dsimp only; rw [ht]; exact ⟨foc, hP9, hD9⟩⟩, hS.F ht⟩) hS.2.2 dX7_settle_14
set_option maxHeartbeats 4000000 in
set_option maxRecDepth 100000 in
theorem c_X7_addThing (l : Launch) (G : va_G) (cy : Nat → ClassId) (sk : Nat → Nat) (sz : Nat) (st : Nat) (oc : Nat) (ki : Nat) (ce : Nat) (si : Nat) (sp : Nat) (foc : Nat → Int32) (fki : Nat → Int32) (fce : Nat → Int32) (fsi : Nat → Int32) (fsp : Nat → Int32) (kind : Int32) (cell : Int32)  : Met l yX7_addThing (wsO yX7_addThing cX7_addThing 4 (some .int)) ({ frames := 2, cells := 0, slots := 0, locals := 42 }) (va_Pc [.ref st, .int kind, .int cell] (PR G cy sk sz [(st, .inr (7, [.ref oc, .ref ki, .ref ce, .ref si, .ref sp, .int 0])), (oc, .inl (cy 0, 192, .inl foc)), (ki, .inl (cy 0, 40, .inl fki)), (ce, .inl (cy 0, 40, .inl fce)), (si, .inl (cy 0, 40, .inl fsi)), (sp, .inl (cy 0, 40, .inl fsp))])) (va_Qi (fun r (_ : Unit) => r = 0) (fun _ _ => True) (va_A [(st, .inr (7, [.ref oc, .ref ki, .ref ce, .ref si, .ref sp, .int 0])), (oc, .inl (cy 0, 192, .inl foc)), (ki, .inl (cy 0, 40, .inl fki)), (ce, .inl (cy 0, 40, .inl fce)), (si, .inl (cy 0, 40, .inl fsi)), (sp, .inl (cy 0, 40, .inl fsp))] sz)) 0 0 (va_A [(st, .inr (7, [.ref oc, .ref ki, .ref ce, .ref si, .ref sp, .int 0])), (oc, .inl (cy 0, 192, .inl foc)), (ki, .inl (cy 0, 40, .inl fki)), (ce, .inl (cy 0, 40, .inl fce)), (si, .inl (cy 0, 40, .inl fsi)), (sp, .inl (cy 0, 40, .inl fsp))] sz) := by
  refine mt (by decide) (Nat.le_of_ble_eq_true rfl) ?_
  intro p e s m below meth c ls hx hb hr hml hts hown hlocks hin hsz hP hE hD hl
  subst hsz
  have hl : lv_has ls 4 [(0, .ref st), (1, .int kind), (2, .int cell)] := hl
  have hD := hD.self (sz := s.heap.size)
  generalize hAe : va_A [(st, .inr (7, [.ref oc, .ref ki, .ref ce, .ref si, .ref sp, .int 0])), (oc, .inl (cy 0, 192, .inl foc)), (ki, .inl (cy 0, 40, .inl fki)), (ce, .inl (cy 0, 40, .inl fce)), (si, .inl (cy 0, 40, .inl fsi)), (sp, .inl (cy 0, 40, .inl fsp))] s.heap.size = A at hD ⊢
  have hA : ∀ q : Nat, s.heap.size ≤ q → A q := fun q h => by rw [← hAe]; exact Or.inr h
  have hS : va_S A s.heap s.heap [] := va_S.rf
  refine lv_aload_n hx hb dX7_addThing_0 rfl (lv_at hl 0 rfl) ?_
  refine va_get (D := G) (ci := 7) (v := .int 0) (C := RX7) (T := TX7) (N := 6) hx hb hts inB7 hown hE.1 hP 0 rfl rfl 5 (by decide) (hts _ m_132) (fun _ h9 => h9) rfl dX7_addThing_1 ?_
  refine lv_istore_n (lv' := [(3, .int 0), (0, .ref st), (1, .int kind), (2, .int cell)]) hx hb dX7_addThing_4 rfl hl (by decide) rfl (fun ls hl => ?_)
  refine lv_iload_n hx hb dX7_addThing_5 rfl (lv_at hl 0 rfl) ?_
  refine lv_if_lt (tgt := 15) hx hb dX7_addThing_6 (by decide) (fun h9 => absurd h9 (by decide)) (fun _ => ?_)
  refine lv_iload_n hx hb dX7_addThing_9 rfl (lv_at hl 0 rfl) ?_
  refine lv_bipush (v := 40) hx hb dX7_addThing_10 (by decide) ?_
  refine lv_icmp_lt (tgt := 17) hx hb dX7_addThing_12 (by decide) (fun _ => ?_) (fun h9 => absurd h9 (by decide))
  refine lv_aload_n hx hb dX7_addThing_17 rfl (lv_at hl 1 rfl) ?_
  refine va_get (D := G) (ci := 7) (v := .ref ki) (C := RX7) (T := TX7) (N := 6) hx hb hts inB7 hown hE.1 hP 0 rfl rfl 1 (by decide) (hts _ m_124) (fun _ h9 => h9) rfl dX7_addThing_18 ?_
  refine lv_iload_n hx hb dX7_addThing_21 rfl (lv_at hl 0 rfl) ?_
  refine lv_iload_n hx hb dX7_addThing_22 rfl (lv_at hl 2 rfl) ?_
  refine va_iast hx hb hE.1 hP hD hS 2 0 rfl rfl (vinL (by decide)) dX7_addThing_23 (fun H locs hP hD hS => ?_)
  have hP : va_P G classes [(st, .inr (7, [.ref oc, .ref ki, .ref ce, .ref si, .ref sp, .int 0])), (oc, .inl (cy 0, 192, .inl foc)), (ki, .inl (cy 0, 40, .inl (upd fki 0 kind))), (ce, .inl (cy 0, 40, .inl fce)), (si, .inl (cy 0, 40, .inl fsi)), (sp, .inl (cy 0, 40, .inl fsp))] H := hP
  have hD : va_D A [(st, .inr (7, [.ref oc, .ref ki, .ref ce, .ref si, .ref sp, .int 0])), (oc, .inl (cy 0, 192, .inl foc)), (ki, .inl (cy 0, 40, .inl (upd fki 0 kind))), (ce, .inl (cy 0, 40, .inl fce)), (si, .inl (cy 0, 40, .inl fsi)), (sp, .inl (cy 0, 40, .inl fsp))] := hD
  refine lv_aload_n hx hb dX7_addThing_24 rfl (lv_at hl 1 rfl) ?_
  refine va_get (D := G) (ci := 7) (v := .ref ce) (C := RX7) (T := TX7) (N := 6) hx hb hts inB7 hown hE.1 hP 0 rfl rfl 2 (by decide) (hts _ m_126) (fun _ h9 => h9) rfl dX7_addThing_25 ?_
  refine lv_iload_n hx hb dX7_addThing_28 rfl (lv_at hl 0 rfl) ?_
  refine lv_iload_n hx hb dX7_addThing_29 rfl (lv_at hl 3 rfl) ?_
  refine va_iast hx hb hE.1 hP hD hS 3 0 rfl rfl (vinL (by decide)) dX7_addThing_30 (fun H locs hP hD hS => ?_)
  have hP : va_P G classes [(st, .inr (7, [.ref oc, .ref ki, .ref ce, .ref si, .ref sp, .int 0])), (oc, .inl (cy 0, 192, .inl foc)), (ki, .inl (cy 0, 40, .inl (upd fki 0 kind))), (ce, .inl (cy 0, 40, .inl (upd fce 0 cell))), (si, .inl (cy 0, 40, .inl fsi)), (sp, .inl (cy 0, 40, .inl fsp))] H := hP
  have hD : va_D A [(st, .inr (7, [.ref oc, .ref ki, .ref ce, .ref si, .ref sp, .int 0])), (oc, .inl (cy 0, 192, .inl foc)), (ki, .inl (cy 0, 40, .inl (upd fki 0 kind))), (ce, .inl (cy 0, 40, .inl (upd fce 0 cell))), (si, .inl (cy 0, 40, .inl fsi)), (sp, .inl (cy 0, 40, .inl fsp))] := hD
  refine lv_aload_n hx hb dX7_addThing_31 rfl (lv_at hl 1 rfl) ?_
  refine va_get (D := G) (ci := 7) (v := .ref si) (C := RX7) (T := TX7) (N := 6) hx hb hts inB7 hown hE.1 hP 0 rfl rfl 3 (by decide) (hts _ m_128) (fun _ h9 => h9) rfl dX7_addThing_32 ?_
  refine lv_iload_n hx hb dX7_addThing_35 rfl (lv_at hl 0 rfl) ?_
  refine lv_iconst (v := 0) hx hb dX7_addThing_36 (by decide) ?_
  refine va_iast hx hb hE.1 hP hD hS 4 0 rfl rfl (vinL (by decide)) dX7_addThing_37 (fun H locs hP hD hS => ?_)
  have hP : va_P G classes [(st, .inr (7, [.ref oc, .ref ki, .ref ce, .ref si, .ref sp, .int 0])), (oc, .inl (cy 0, 192, .inl foc)), (ki, .inl (cy 0, 40, .inl (upd fki 0 kind))), (ce, .inl (cy 0, 40, .inl (upd fce 0 cell))), (si, .inl (cy 0, 40, .inl (upd fsi 0 0))), (sp, .inl (cy 0, 40, .inl fsp))] H := hP
  have hD : va_D A [(st, .inr (7, [.ref oc, .ref ki, .ref ce, .ref si, .ref sp, .int 0])), (oc, .inl (cy 0, 192, .inl foc)), (ki, .inl (cy 0, 40, .inl (upd fki 0 kind))), (ce, .inl (cy 0, 40, .inl (upd fce 0 cell))), (si, .inl (cy 0, 40, .inl (upd fsi 0 0))), (sp, .inl (cy 0, 40, .inl fsp))] := hD
  refine lv_aload_n hx hb dX7_addThing_38 rfl (lv_at hl 1 rfl) ?_
  refine va_get (D := G) (ci := 7) (v := .ref sp) (C := RX7) (T := TX7) (N := 6) hx hb hts inB7 hown hE.1 hP 0 rfl rfl 4 (by decide) (hts _ m_130) (fun _ h9 => h9) rfl dX7_addThing_39 ?_
  refine lv_iload_n hx hb dX7_addThing_42 rfl (lv_at hl 0 rfl) ?_
  refine lv_iconst (v := 0) hx hb dX7_addThing_43 (by decide) ?_
  refine va_iast hx hb hE.1 hP hD hS 5 0 rfl rfl (vinL (by decide)) dX7_addThing_44 (fun H locs hP hD hS => ?_)
  have hP : va_P G classes [(st, .inr (7, [.ref oc, .ref ki, .ref ce, .ref si, .ref sp, .int 0])), (oc, .inl (cy 0, 192, .inl foc)), (ki, .inl (cy 0, 40, .inl (upd fki 0 kind))), (ce, .inl (cy 0, 40, .inl (upd fce 0 cell))), (si, .inl (cy 0, 40, .inl (upd fsi 0 0))), (sp, .inl (cy 0, 40, .inl (upd fsp 0 0)))] H := hP
  have hD : va_D A [(st, .inr (7, [.ref oc, .ref ki, .ref ce, .ref si, .ref sp, .int 0])), (oc, .inl (cy 0, 192, .inl foc)), (ki, .inl (cy 0, 40, .inl (upd fki 0 kind))), (ce, .inl (cy 0, 40, .inl (upd fce 0 cell))), (si, .inl (cy 0, 40, .inl (upd fsi 0 0))), (sp, .inl (cy 0, 40, .inl (upd fsp 0 0)))] := hD
  refine lv_aload_n hx hb dX7_addThing_45 rfl (lv_at hl 1 rfl) ?_
  refine lv_iload_n hx hb dX7_addThing_46 rfl (lv_at hl 3 rfl) ?_
  refine lv_iload_n hx hb dX7_addThing_47 rfl (lv_at hl 0 rfl) ?_
  refine wVv (B := (B_c_X7_settle G cy (va_A [(st, .inr (7, [.ref oc, .ref ki, .ref ce, .ref si, .ref sp, .int 0])), (oc, .inl (cy 0, 192, .inl foc))] H.size) st oc ki ce si sp foc 0 cell 0)) (wr := [(ki, .inl (cy 0, 40, .inl (upd fki 0 kind))), (ce, .inl (cy 0, 40, .inl (upd fce 0 cell))), (si, .inl (cy 0, 40, .inl (upd fsi 0 0))), (sp, .inl (cy 0, 40, .inl (upd fsp 0 0)))]) (rest := []) hx hb hml hown hts hE (c_X7_settle l G cy sk H.size st oc ki ce si sp foc 0 cell 0) kV_X7_settle m_518 rfl rfl ⟨(Nat.le_of_ble_eq_true rfl), (Nat.le_of_ble_eq_true rfl)⟩ hP hD hS hA 0 rfl rfl rfl [0, 1] [2, 3, 4, 5] rfl rfl rfl rfl (by decide) rfl rfl hl.1 (Nat.le_of_ble_eq_true rfl) dX7_addThing_48 ⟨(Nat.le_of_ble_eq_true rfl), (Nat.le_of_ble_eq_true rfl)⟩ (fun H locs haf hS => ?_)
  obtain ⟨xf2, hP1, hD1⟩ := haf.1
  obtain ⟨hP, hD⟩ := haf.2.1 _ hP1 hD1
  have hP : va_P G classes [(ki, .inl (cy 0, 40, .inl (upd fki 0 kind))), (ce, .inl (cy 0, 40, .inl (upd fce 0 cell))), (si, .inl (cy 0, 40, .inl (upd fsi 0 0))), (sp, .inl (cy 0, 40, .inl (upd fsp 0 0))), (st, .inr (7, [.ref oc, .ref ki, .ref ce, .ref si, .ref sp, .int 0])), (oc, .inl (cy 0, 192, .inl xf2))] H := hP
  have hD : va_D A [(ki, .inl (cy 0, 40, .inl (upd fki 0 kind))), (ce, .inl (cy 0, 40, .inl (upd fce 0 cell))), (si, .inl (cy 0, 40, .inl (upd fsi 0 0))), (sp, .inl (cy 0, 40, .inl (upd fsp 0 0))), (st, .inr (7, [.ref oc, .ref ki, .ref ce, .ref si, .ref sp, .int 0])), (oc, .inl (cy 0, 192, .inl xf2))] := hD
  refine lv_aload_n hx hb dX7_addThing_51 rfl (lv_at hl 1 rfl) ?_
  refine lv_dup hx hb dX7_addThing_52 rfl ?_
  refine va_get (D := G) (ci := 7) (v := .int 0) (C := RX7) (T := TX7) (N := 6) hx hb hts inB7 hown hE.1 hP 4 rfl rfl 5 (by decide) (hts _ m_132) (fun _ h9 => h9) rfl dX7_addThing_53 ?_
  refine lv_iconst (v := 1) hx hb dX7_addThing_56 (by decide) ?_
  refine lv_iadd hx hb dX7_addThing_57 ?_
  refine va_put (D := G) (ci := 7) (v := .int (0 + 1)) (ty := .int) (C := RX7) (T := TX7) (N := 6) hx hb hts inB7 tyX7 tyX7_ok nmX7 hown hE.1 hP hD hS 4 rfl rfl 5 (by decide) (hts _ m_132) (fun _ h9 => h9) rfl (by decide +kernel) rfl rfl (Nat.le_of_ble_eq_true rfl) dX7_addThing_58 (fun H locs hP hD hS => ?_)
  have hP : va_P G classes [(ki, .inl (cy 0, 40, .inl (upd fki 0 kind))), (ce, .inl (cy 0, 40, .inl (upd fce 0 cell))), (si, .inl (cy 0, 40, .inl (upd fsi 0 0))), (sp, .inl (cy 0, 40, .inl (upd fsp 0 0))), (st, .inr (7, [.ref oc, .ref ki, .ref ce, .ref si, .ref sp, .int (0 + 1)])), (oc, .inl (cy 0, 192, .inl xf2))] H := hP
  have hD : va_D A [(ki, .inl (cy 0, 40, .inl (upd fki 0 kind))), (ce, .inl (cy 0, 40, .inl (upd fce 0 cell))), (si, .inl (cy 0, 40, .inl (upd fsi 0 0))), (sp, .inl (cy 0, 40, .inl (upd fsp 0 0))), (st, .inr (7, [.ref oc, .ref ki, .ref ce, .ref si, .ref sp, .int (0 + 1)])), (oc, .inl (cy 0, 192, .inl xf2))] := hD
  refine lv_iload_n hx hb dX7_addThing_61 rfl (lv_at hl 0 rfl) ?_
  refine W.widen (k := 0) (n := 0) (by first | exact Nat.le_of_ble_eq_true rfl | omega) (by first | exact Nat.le_of_ble_eq_true rfl | omega) ?_
  exact W.iret (v := 0) hx hb hr (fun t ht hW => ⟨⟨0, (), rfl, rfl, trivial⟩, hS.F ht⟩) hS.2.2 dX7_addThing_62
set_option maxHeartbeats 4000000 in
set_option maxRecDepth 100000 in
theorem c_X7_countThings (l : Launch) (G : va_G) (cy : Nat → ClassId) (sk : Nat → Nat) (sz : Nat) (st : Nat) (oc : Nat) (ki : Nat) (ce : Nat) (si : Nat) (sp : Nat)  : Met l yX7_countThings (wsO yX7_countThings cX7_countThings 3 (some .int)) ({ frames := 0, cells := 0, slots := 0, locals := 0 }) (va_Pc [.ref st] (PR G cy sk sz [(st, .inr (7, [.ref oc, .ref ki, .ref ce, .ref si, .ref sp, .int 0]))])) (vp_Si (fun r => r = 0)) 0 0 (fun _ => False) := by
  refine mt (by decide) (Nat.le_of_ble_eq_true rfl) ?_
  intro p e s m below meth c ls hx hb hr hml hts hown hlocks hin hsz hP hE hD hl
  subst hsz
  have hl : lv_has ls 3 [(0, .ref st)] := hl
  refine lv_iconst (v := 0) hx hb dX7_countThings_0 (by decide) ?_
  refine lv_istore_n (lv' := [(1, .int 0), (0, .ref st)]) hx hb dX7_countThings_1 rfl hl (by decide) rfl (fun ls hl => ?_)
  refine lv_iconst (v := 0) hx hb dX7_countThings_2 (by decide) ?_
  refine lv_istore_n (lv' := [(2, .int 0), (1, .int 0), (0, .ref st)]) hx hb dX7_countThings_3 rfl hl (by decide) rfl (fun ls hl => ?_)
  refine lv_iload_n hx hb dX7_countThings_4 rfl (lv_at hl 0 rfl) ?_
  refine lv_aload_n hx hb dX7_countThings_5 rfl (lv_at hl 2 rfl) ?_
  refine va_get (D := G) (ci := 7) (v := .int 0) (C := RX7) (T := TX7) (N := 6) hx hb hts inB7 hown hE.1 hP 0 rfl rfl 5 (by decide) (hts _ m_132) (fun _ h9 => h9) rfl dX7_countThings_6 ?_
  refine lv_icmp_ge (tgt := 36) hx hb dX7_countThings_9 (by decide) (fun _ => ?_) (fun h9 => absurd h9 (by decide))
  refine lv_iload_n hx hb dX7_countThings_36 rfl (lv_at hl 1 rfl) ?_
  exact W.iret (v := 0) hx hb hr (fun t ht hW => ⟨0, rfl, rfl, ht⟩) (fun _ h => by cases h) dX7_countThings_37
set_option maxHeartbeats 4000000 in
set_option maxRecDepth 100000 in
theorem c_X7_letThingsGo (l : Launch) (G : va_G) (cy : Nat → ClassId) (sk : Nat → Nat) (sz : Nat) (st : Nat) (oc : Nat) (ki : Nat) (ce : Nat) (si : Nat) (sp : Nat) (v : Int32)  : Met l yX7_letThingsGo (wsO yX7_letThingsGo cX7_letThingsGo 4 none) ({ frames := 0, cells := 0, slots := 0, locals := 0 }) (va_Pc [.ref st, .int v] (PR G cy sk sz [(st, .inr (7, [.ref oc, .ref ki, .ref ce, .ref si, .ref sp, .int 0]))])) (va_Sv (fun _ => True)) 0 0 (fun _ => False) := by
  refine mt (by decide) (Nat.le_of_ble_eq_true rfl) ?_
  intro p e s m below meth c ls hx hb hr hml hts hown hlocks hin hsz hP hE hD hl
  subst hsz
  have hl : lv_has ls 4 [(0, .ref st), (1, .int v)] := hl
  refine lv_iconst (v := 0) hx hb dX7_letThingsGo_0 (by decide) ?_
  refine lv_istore_n (lv' := [(2, .int 0), (0, .ref st), (1, .int v)]) hx hb dX7_letThingsGo_1 rfl hl (by decide) rfl (fun ls hl => ?_)
  refine lv_iload_n hx hb dX7_letThingsGo_2 rfl (lv_at hl 0 rfl) ?_
  refine lv_aload_n hx hb dX7_letThingsGo_3 rfl (lv_at hl 1 rfl) ?_
  refine va_get (D := G) (ci := 7) (v := .int 0) (C := RX7) (T := TX7) (N := 6) hx hb hts inB7 hown hE.1 hP 0 rfl rfl 5 (by decide) (hts _ m_132) (fun _ h9 => h9) rfl dX7_letThingsGo_4 ?_
  refine lv_icmp_ge (tgt := 53) hx hb dX7_letThingsGo_7 (by decide) (fun _ => ?_) (fun h9 => absurd h9 (by decide))
  exact W.vret hx hb hr (fun t ht hW => ⟨rfl, trivial, ht⟩) (fun _ h => by cases h) dX7_letThingsGo_53
set_option maxHeartbeats 4000000 in
set_option maxRecDepth 100000 in
theorem c_X7_takeFrom (l : Launch) (G : va_G) (cy : Nat → ClassId) (sk : Nat → Nat) (sz : Nat) (st : Nat) (oc : Nat) (ki : Nat) (ce : Nat) (si : Nat) (sp : Nat) (foc : Nat → Int32) (fki : Nat → Int32) (fce : Nat → Int32) (fsi : Nat → Int32) (fsp : Nat → Int32) (st2 : Nat) (oc2 : Nat) (ki2 : Nat) (ce2 : Nat) (si2 : Nat) (sp2 : Nat) (goc : Nat → Int32) (gki : Nat → Int32) (gce : Nat → Int32) (gsi : Nat → Int32) (gsp : Nat → Int32)  : Met l yX7_takeFrom (wsO yX7_takeFrom cX7_takeFrom 2 none) ({ frames := 1, cells := 0, slots := 0, locals := 40 }) (va_Pc [.ref st, .ref st2] (PR G cy sk sz [(st, .inr (7, [.ref oc, .ref ki, .ref ce, .ref si, .ref sp, .int 0])), (oc, .inl (cy 0, 192, .inl foc)), (ki, .inl (cy 0, 40, .inl fki)), (ce, .inl (cy 0, 40, .inl fce)), (si, .inl (cy 0, 40, .inl fsi)), (sp, .inl (cy 0, 40, .inl fsp)), (st2, .inr (7, [.ref oc2, .ref ki2, .ref ce2, .ref si2, .ref sp2, .int 0])), (oc2, .inl (cy 0, 192, .inl goc)), (ki2, .inl (cy 0, 40, .inl gki)), (ce2, .inl (cy 0, 40, .inl gce)), (si2, .inl (cy 0, 40, .inl gsi)), (sp2, .inl (cy 0, 40, .inl gsp))])) (va_Qv (fun (_ : Unit) => True) (fun _ _ => True) (va_A [(st, .inr (7, [.ref oc, .ref ki, .ref ce, .ref si, .ref sp, .int 0])), (oc, .inl (cy 0, 192, .inl foc)), (ki, .inl (cy 0, 40, .inl fki)), (ce, .inl (cy 0, 40, .inl fce)), (si, .inl (cy 0, 40, .inl fsi)), (sp, .inl (cy 0, 40, .inl fsp)), (st2, .inr (7, [.ref oc2, .ref ki2, .ref ce2, .ref si2, .ref sp2, .int 0])), (oc2, .inl (cy 0, 192, .inl goc)), (ki2, .inl (cy 0, 40, .inl gki)), (ce2, .inl (cy 0, 40, .inl gce)), (si2, .inl (cy 0, 40, .inl gsi)), (sp2, .inl (cy 0, 40, .inl gsp))] sz)) 0 0 (va_A [(st, .inr (7, [.ref oc, .ref ki, .ref ce, .ref si, .ref sp, .int 0])), (oc, .inl (cy 0, 192, .inl foc)), (ki, .inl (cy 0, 40, .inl fki)), (ce, .inl (cy 0, 40, .inl fce)), (si, .inl (cy 0, 40, .inl fsi)), (sp, .inl (cy 0, 40, .inl fsp)), (st2, .inr (7, [.ref oc2, .ref ki2, .ref ce2, .ref si2, .ref sp2, .int 0])), (oc2, .inl (cy 0, 192, .inl goc)), (ki2, .inl (cy 0, 40, .inl gki)), (ce2, .inl (cy 0, 40, .inl gce)), (si2, .inl (cy 0, 40, .inl gsi)), (sp2, .inl (cy 0, 40, .inl gsp))] sz) := by
  refine mt (by decide) (Nat.le_of_ble_eq_true rfl) ?_
  intro p e s m below meth c ls hx hb hr hml hts hown hlocks hin hsz hP hE hD hl
  subst hsz
  have hl : lv_has ls 2 [(0, .ref st), (1, .ref st2)] := hl
  have hD := hD.self (sz := s.heap.size)
  generalize hAe : va_A [(st, .inr (7, [.ref oc, .ref ki, .ref ce, .ref si, .ref sp, .int 0])), (oc, .inl (cy 0, 192, .inl foc)), (ki, .inl (cy 0, 40, .inl fki)), (ce, .inl (cy 0, 40, .inl fce)), (si, .inl (cy 0, 40, .inl fsi)), (sp, .inl (cy 0, 40, .inl fsp)), (st2, .inr (7, [.ref oc2, .ref ki2, .ref ce2, .ref si2, .ref sp2, .int 0])), (oc2, .inl (cy 0, 192, .inl goc)), (ki2, .inl (cy 0, 40, .inl gki)), (ce2, .inl (cy 0, 40, .inl gce)), (si2, .inl (cy 0, 40, .inl gsi)), (sp2, .inl (cy 0, 40, .inl gsp))] s.heap.size = A at hD ⊢
  have hA : ∀ q : Nat, s.heap.size ≤ q → A q := fun q h => by rw [← hAe]; exact Or.inr h
  have hS : va_S A s.heap s.heap [] := va_S.rf
  refine lv_aload_n hx hb dX7_takeFrom_0 rfl (lv_at hl 1 rfl) ?_
  refine va_get (D := G) (ci := 7) (v := .ref oc2) (C := RX7) (T := TX7) (N := 6) hx hb hts inB7 hown hE.1 hP 6 rfl rfl 0 (by decide) (hts _ m_121) (fun _ h9 => h9) rfl dX7_takeFrom_1 ?_
  refine lv_iconst (v := 0) hx hb dX7_takeFrom_4 (by decide) ?_
  refine lv_aload_n hx hb dX7_takeFrom_5 rfl (lv_at hl 0 rfl) ?_
  refine va_get (D := G) (ci := 7) (v := .ref oc) (C := RX7) (T := TX7) (N := 6) hx hb hts inB7 hown hE.1 hP 0 rfl rfl 0 (by decide) (hts _ m_121) (fun _ h9 => h9) rfl dX7_takeFrom_6 ?_
  refine lv_iconst (v := 0) hx hb dX7_takeFrom_9 (by decide) ?_
  refine lv_sipush (v := 192) hx hb dX7_takeFrom_10 (by decide) ?_
  refine va_copyi (ty := .int) hx hb (hml.trans hl.1.symm) hown (hts _ m_1262) (hts _ m_830) (hts _ m_829) (hts _ m_98) hE.1 hP hD hS 7 1 0 0 rfl rfl rfl rfl rfl (by decide) (by decide) (by decide) (by decide) (by decide) (fun _ _ => rfl) (Nat.le_of_ble_eq_true rfl) (Nat.le_of_ble_eq_true rfl) dX7_takeFrom_13 (fun H locs hP hD hS => ?_)
  have hP : va_P G classes [(st, .inr (7, [.ref oc, .ref ki, .ref ce, .ref si, .ref sp, .int 0])), (oc, .inl (cy 0, 192, .inl (va_cpy goc foc 0 0 192))), (ki, .inl (cy 0, 40, .inl fki)), (ce, .inl (cy 0, 40, .inl fce)), (si, .inl (cy 0, 40, .inl fsi)), (sp, .inl (cy 0, 40, .inl fsp)), (st2, .inr (7, [.ref oc2, .ref ki2, .ref ce2, .ref si2, .ref sp2, .int 0])), (oc2, .inl (cy 0, 192, .inl goc)), (ki2, .inl (cy 0, 40, .inl gki)), (ce2, .inl (cy 0, 40, .inl gce)), (si2, .inl (cy 0, 40, .inl gsi)), (sp2, .inl (cy 0, 40, .inl gsp))] H := hP
  have hD : va_D A [(st, .inr (7, [.ref oc, .ref ki, .ref ce, .ref si, .ref sp, .int 0])), (oc, .inl (cy 0, 192, .inl (va_cpy goc foc 0 0 192))), (ki, .inl (cy 0, 40, .inl fki)), (ce, .inl (cy 0, 40, .inl fce)), (si, .inl (cy 0, 40, .inl fsi)), (sp, .inl (cy 0, 40, .inl fsp)), (st2, .inr (7, [.ref oc2, .ref ki2, .ref ce2, .ref si2, .ref sp2, .int 0])), (oc2, .inl (cy 0, 192, .inl goc)), (ki2, .inl (cy 0, 40, .inl gki)), (ce2, .inl (cy 0, 40, .inl gce)), (si2, .inl (cy 0, 40, .inl gsi)), (sp2, .inl (cy 0, 40, .inl gsp))] := hD
  obtain ⟨xf1, hP, hD⟩ : ∃ xf1, va_P G classes [(st, .inr (7, [.ref oc, .ref ki, .ref ce, .ref si, .ref sp, .int 0])), (oc, .inl (cy 0, 192, .inl xf1)), (ki, .inl (cy 0, 40, .inl fki)), (ce, .inl (cy 0, 40, .inl fce)), (si, .inl (cy 0, 40, .inl fsi)), (sp, .inl (cy 0, 40, .inl fsp)), (st2, .inr (7, [.ref oc2, .ref ki2, .ref ce2, .ref si2, .ref sp2, .int 0])), (oc2, .inl (cy 0, 192, .inl goc)), (ki2, .inl (cy 0, 40, .inl gki)), (ce2, .inl (cy 0, 40, .inl gce)), (si2, .inl (cy 0, 40, .inl gsi)), (sp2, .inl (cy 0, 40, .inl gsp))] H ∧ va_D A [(st, .inr (7, [.ref oc, .ref ki, .ref ce, .ref si, .ref sp, .int 0])), (oc, .inl (cy 0, 192, .inl xf1)), (ki, .inl (cy 0, 40, .inl fki)), (ce, .inl (cy 0, 40, .inl fce)), (si, .inl (cy 0, 40, .inl fsi)), (sp, .inl (cy 0, 40, .inl fsp)), (st2, .inr (7, [.ref oc2, .ref ki2, .ref ce2, .ref si2, .ref sp2, .int 0])), (oc2, .inl (cy 0, 192, .inl goc)), (ki2, .inl (cy 0, 40, .inl gki)), (ce2, .inl (cy 0, 40, .inl gce)), (si2, .inl (cy 0, 40, .inl gsi)), (sp2, .inl (cy 0, 40, .inl gsp))] := ⟨_, hP, hD⟩
  refine lv_aload_n hx hb dX7_takeFrom_16 rfl (lv_at hl 1 rfl) ?_
  refine va_get (D := G) (ci := 7) (v := .ref ki2) (C := RX7) (T := TX7) (N := 6) hx hb hts inB7 hown hE.1 hP 6 rfl rfl 1 (by decide) (hts _ m_124) (fun _ h9 => h9) rfl dX7_takeFrom_17 ?_
  refine lv_iconst (v := 0) hx hb dX7_takeFrom_20 (by decide) ?_
  refine lv_aload_n hx hb dX7_takeFrom_21 rfl (lv_at hl 0 rfl) ?_
  refine va_get (D := G) (ci := 7) (v := .ref ki) (C := RX7) (T := TX7) (N := 6) hx hb hts inB7 hown hE.1 hP 0 rfl rfl 1 (by decide) (hts _ m_124) (fun _ h9 => h9) rfl dX7_takeFrom_22 ?_
  refine lv_iconst (v := 0) hx hb dX7_takeFrom_25 (by decide) ?_
  refine lv_bipush (v := 40) hx hb dX7_takeFrom_26 (by decide) ?_
  refine va_copyi (ty := .int) hx hb (hml.trans hl.1.symm) hown (hts _ m_1262) (hts _ m_830) (hts _ m_829) (hts _ m_98) hE.1 hP hD hS 8 2 0 0 rfl rfl rfl rfl rfl (by decide) (by decide) (by decide) (by decide) (by decide) (fun _ _ => rfl) (Nat.le_of_ble_eq_true rfl) (Nat.le_of_ble_eq_true rfl) dX7_takeFrom_28 (fun H locs hP hD hS => ?_)
  have hP : va_P G classes [(st, .inr (7, [.ref oc, .ref ki, .ref ce, .ref si, .ref sp, .int 0])), (oc, .inl (cy 0, 192, .inl xf1)), (ki, .inl (cy 0, 40, .inl (va_cpy gki fki 0 0 40))), (ce, .inl (cy 0, 40, .inl fce)), (si, .inl (cy 0, 40, .inl fsi)), (sp, .inl (cy 0, 40, .inl fsp)), (st2, .inr (7, [.ref oc2, .ref ki2, .ref ce2, .ref si2, .ref sp2, .int 0])), (oc2, .inl (cy 0, 192, .inl goc)), (ki2, .inl (cy 0, 40, .inl gki)), (ce2, .inl (cy 0, 40, .inl gce)), (si2, .inl (cy 0, 40, .inl gsi)), (sp2, .inl (cy 0, 40, .inl gsp))] H := hP
  have hD : va_D A [(st, .inr (7, [.ref oc, .ref ki, .ref ce, .ref si, .ref sp, .int 0])), (oc, .inl (cy 0, 192, .inl xf1)), (ki, .inl (cy 0, 40, .inl (va_cpy gki fki 0 0 40))), (ce, .inl (cy 0, 40, .inl fce)), (si, .inl (cy 0, 40, .inl fsi)), (sp, .inl (cy 0, 40, .inl fsp)), (st2, .inr (7, [.ref oc2, .ref ki2, .ref ce2, .ref si2, .ref sp2, .int 0])), (oc2, .inl (cy 0, 192, .inl goc)), (ki2, .inl (cy 0, 40, .inl gki)), (ce2, .inl (cy 0, 40, .inl gce)), (si2, .inl (cy 0, 40, .inl gsi)), (sp2, .inl (cy 0, 40, .inl gsp))] := hD
  obtain ⟨xf2, hP, hD⟩ : ∃ xf2, va_P G classes [(st, .inr (7, [.ref oc, .ref ki, .ref ce, .ref si, .ref sp, .int 0])), (oc, .inl (cy 0, 192, .inl xf1)), (ki, .inl (cy 0, 40, .inl xf2)), (ce, .inl (cy 0, 40, .inl fce)), (si, .inl (cy 0, 40, .inl fsi)), (sp, .inl (cy 0, 40, .inl fsp)), (st2, .inr (7, [.ref oc2, .ref ki2, .ref ce2, .ref si2, .ref sp2, .int 0])), (oc2, .inl (cy 0, 192, .inl goc)), (ki2, .inl (cy 0, 40, .inl gki)), (ce2, .inl (cy 0, 40, .inl gce)), (si2, .inl (cy 0, 40, .inl gsi)), (sp2, .inl (cy 0, 40, .inl gsp))] H ∧ va_D A [(st, .inr (7, [.ref oc, .ref ki, .ref ce, .ref si, .ref sp, .int 0])), (oc, .inl (cy 0, 192, .inl xf1)), (ki, .inl (cy 0, 40, .inl xf2)), (ce, .inl (cy 0, 40, .inl fce)), (si, .inl (cy 0, 40, .inl fsi)), (sp, .inl (cy 0, 40, .inl fsp)), (st2, .inr (7, [.ref oc2, .ref ki2, .ref ce2, .ref si2, .ref sp2, .int 0])), (oc2, .inl (cy 0, 192, .inl goc)), (ki2, .inl (cy 0, 40, .inl gki)), (ce2, .inl (cy 0, 40, .inl gce)), (si2, .inl (cy 0, 40, .inl gsi)), (sp2, .inl (cy 0, 40, .inl gsp))] := ⟨_, hP, hD⟩
  refine lv_aload_n hx hb dX7_takeFrom_31 rfl (lv_at hl 1 rfl) ?_
  refine va_get (D := G) (ci := 7) (v := .ref ce2) (C := RX7) (T := TX7) (N := 6) hx hb hts inB7 hown hE.1 hP 6 rfl rfl 2 (by decide) (hts _ m_126) (fun _ h9 => h9) rfl dX7_takeFrom_32 ?_
  refine lv_iconst (v := 0) hx hb dX7_takeFrom_35 (by decide) ?_
  refine lv_aload_n hx hb dX7_takeFrom_36 rfl (lv_at hl 0 rfl) ?_
  refine va_get (D := G) (ci := 7) (v := .ref ce) (C := RX7) (T := TX7) (N := 6) hx hb hts inB7 hown hE.1 hP 0 rfl rfl 2 (by decide) (hts _ m_126) (fun _ h9 => h9) rfl dX7_takeFrom_37 ?_
  refine lv_iconst (v := 0) hx hb dX7_takeFrom_40 (by decide) ?_
  refine lv_bipush (v := 40) hx hb dX7_takeFrom_41 (by decide) ?_
  refine va_copyi (ty := .int) hx hb (hml.trans hl.1.symm) hown (hts _ m_1262) (hts _ m_830) (hts _ m_829) (hts _ m_98) hE.1 hP hD hS 9 3 0 0 rfl rfl rfl rfl rfl (by decide) (by decide) (by decide) (by decide) (by decide) (fun _ _ => rfl) (Nat.le_of_ble_eq_true rfl) (Nat.le_of_ble_eq_true rfl) dX7_takeFrom_43 (fun H locs hP hD hS => ?_)
  have hP : va_P G classes [(st, .inr (7, [.ref oc, .ref ki, .ref ce, .ref si, .ref sp, .int 0])), (oc, .inl (cy 0, 192, .inl xf1)), (ki, .inl (cy 0, 40, .inl xf2)), (ce, .inl (cy 0, 40, .inl (va_cpy gce fce 0 0 40))), (si, .inl (cy 0, 40, .inl fsi)), (sp, .inl (cy 0, 40, .inl fsp)), (st2, .inr (7, [.ref oc2, .ref ki2, .ref ce2, .ref si2, .ref sp2, .int 0])), (oc2, .inl (cy 0, 192, .inl goc)), (ki2, .inl (cy 0, 40, .inl gki)), (ce2, .inl (cy 0, 40, .inl gce)), (si2, .inl (cy 0, 40, .inl gsi)), (sp2, .inl (cy 0, 40, .inl gsp))] H := hP
  have hD : va_D A [(st, .inr (7, [.ref oc, .ref ki, .ref ce, .ref si, .ref sp, .int 0])), (oc, .inl (cy 0, 192, .inl xf1)), (ki, .inl (cy 0, 40, .inl xf2)), (ce, .inl (cy 0, 40, .inl (va_cpy gce fce 0 0 40))), (si, .inl (cy 0, 40, .inl fsi)), (sp, .inl (cy 0, 40, .inl fsp)), (st2, .inr (7, [.ref oc2, .ref ki2, .ref ce2, .ref si2, .ref sp2, .int 0])), (oc2, .inl (cy 0, 192, .inl goc)), (ki2, .inl (cy 0, 40, .inl gki)), (ce2, .inl (cy 0, 40, .inl gce)), (si2, .inl (cy 0, 40, .inl gsi)), (sp2, .inl (cy 0, 40, .inl gsp))] := hD
  obtain ⟨xf3, hP, hD⟩ : ∃ xf3, va_P G classes [(st, .inr (7, [.ref oc, .ref ki, .ref ce, .ref si, .ref sp, .int 0])), (oc, .inl (cy 0, 192, .inl xf1)), (ki, .inl (cy 0, 40, .inl xf2)), (ce, .inl (cy 0, 40, .inl xf3)), (si, .inl (cy 0, 40, .inl fsi)), (sp, .inl (cy 0, 40, .inl fsp)), (st2, .inr (7, [.ref oc2, .ref ki2, .ref ce2, .ref si2, .ref sp2, .int 0])), (oc2, .inl (cy 0, 192, .inl goc)), (ki2, .inl (cy 0, 40, .inl gki)), (ce2, .inl (cy 0, 40, .inl gce)), (si2, .inl (cy 0, 40, .inl gsi)), (sp2, .inl (cy 0, 40, .inl gsp))] H ∧ va_D A [(st, .inr (7, [.ref oc, .ref ki, .ref ce, .ref si, .ref sp, .int 0])), (oc, .inl (cy 0, 192, .inl xf1)), (ki, .inl (cy 0, 40, .inl xf2)), (ce, .inl (cy 0, 40, .inl xf3)), (si, .inl (cy 0, 40, .inl fsi)), (sp, .inl (cy 0, 40, .inl fsp)), (st2, .inr (7, [.ref oc2, .ref ki2, .ref ce2, .ref si2, .ref sp2, .int 0])), (oc2, .inl (cy 0, 192, .inl goc)), (ki2, .inl (cy 0, 40, .inl gki)), (ce2, .inl (cy 0, 40, .inl gce)), (si2, .inl (cy 0, 40, .inl gsi)), (sp2, .inl (cy 0, 40, .inl gsp))] := ⟨_, hP, hD⟩
  refine lv_aload_n hx hb dX7_takeFrom_46 rfl (lv_at hl 1 rfl) ?_
  refine va_get (D := G) (ci := 7) (v := .ref si2) (C := RX7) (T := TX7) (N := 6) hx hb hts inB7 hown hE.1 hP 6 rfl rfl 3 (by decide) (hts _ m_128) (fun _ h9 => h9) rfl dX7_takeFrom_47 ?_
  refine lv_iconst (v := 0) hx hb dX7_takeFrom_50 (by decide) ?_
  refine lv_aload_n hx hb dX7_takeFrom_51 rfl (lv_at hl 0 rfl) ?_
  refine va_get (D := G) (ci := 7) (v := .ref si) (C := RX7) (T := TX7) (N := 6) hx hb hts inB7 hown hE.1 hP 0 rfl rfl 3 (by decide) (hts _ m_128) (fun _ h9 => h9) rfl dX7_takeFrom_52 ?_
  refine lv_iconst (v := 0) hx hb dX7_takeFrom_55 (by decide) ?_
  refine lv_bipush (v := 40) hx hb dX7_takeFrom_56 (by decide) ?_
  refine va_copyi (ty := .int) hx hb (hml.trans hl.1.symm) hown (hts _ m_1262) (hts _ m_830) (hts _ m_829) (hts _ m_98) hE.1 hP hD hS 10 4 0 0 rfl rfl rfl rfl rfl (by decide) (by decide) (by decide) (by decide) (by decide) (fun _ _ => rfl) (Nat.le_of_ble_eq_true rfl) (Nat.le_of_ble_eq_true rfl) dX7_takeFrom_58 (fun H locs hP hD hS => ?_)
  have hP : va_P G classes [(st, .inr (7, [.ref oc, .ref ki, .ref ce, .ref si, .ref sp, .int 0])), (oc, .inl (cy 0, 192, .inl xf1)), (ki, .inl (cy 0, 40, .inl xf2)), (ce, .inl (cy 0, 40, .inl xf3)), (si, .inl (cy 0, 40, .inl (va_cpy gsi fsi 0 0 40))), (sp, .inl (cy 0, 40, .inl fsp)), (st2, .inr (7, [.ref oc2, .ref ki2, .ref ce2, .ref si2, .ref sp2, .int 0])), (oc2, .inl (cy 0, 192, .inl goc)), (ki2, .inl (cy 0, 40, .inl gki)), (ce2, .inl (cy 0, 40, .inl gce)), (si2, .inl (cy 0, 40, .inl gsi)), (sp2, .inl (cy 0, 40, .inl gsp))] H := hP
  have hD : va_D A [(st, .inr (7, [.ref oc, .ref ki, .ref ce, .ref si, .ref sp, .int 0])), (oc, .inl (cy 0, 192, .inl xf1)), (ki, .inl (cy 0, 40, .inl xf2)), (ce, .inl (cy 0, 40, .inl xf3)), (si, .inl (cy 0, 40, .inl (va_cpy gsi fsi 0 0 40))), (sp, .inl (cy 0, 40, .inl fsp)), (st2, .inr (7, [.ref oc2, .ref ki2, .ref ce2, .ref si2, .ref sp2, .int 0])), (oc2, .inl (cy 0, 192, .inl goc)), (ki2, .inl (cy 0, 40, .inl gki)), (ce2, .inl (cy 0, 40, .inl gce)), (si2, .inl (cy 0, 40, .inl gsi)), (sp2, .inl (cy 0, 40, .inl gsp))] := hD
  obtain ⟨xf4, hP, hD⟩ : ∃ xf4, va_P G classes [(st, .inr (7, [.ref oc, .ref ki, .ref ce, .ref si, .ref sp, .int 0])), (oc, .inl (cy 0, 192, .inl xf1)), (ki, .inl (cy 0, 40, .inl xf2)), (ce, .inl (cy 0, 40, .inl xf3)), (si, .inl (cy 0, 40, .inl xf4)), (sp, .inl (cy 0, 40, .inl fsp)), (st2, .inr (7, [.ref oc2, .ref ki2, .ref ce2, .ref si2, .ref sp2, .int 0])), (oc2, .inl (cy 0, 192, .inl goc)), (ki2, .inl (cy 0, 40, .inl gki)), (ce2, .inl (cy 0, 40, .inl gce)), (si2, .inl (cy 0, 40, .inl gsi)), (sp2, .inl (cy 0, 40, .inl gsp))] H ∧ va_D A [(st, .inr (7, [.ref oc, .ref ki, .ref ce, .ref si, .ref sp, .int 0])), (oc, .inl (cy 0, 192, .inl xf1)), (ki, .inl (cy 0, 40, .inl xf2)), (ce, .inl (cy 0, 40, .inl xf3)), (si, .inl (cy 0, 40, .inl xf4)), (sp, .inl (cy 0, 40, .inl fsp)), (st2, .inr (7, [.ref oc2, .ref ki2, .ref ce2, .ref si2, .ref sp2, .int 0])), (oc2, .inl (cy 0, 192, .inl goc)), (ki2, .inl (cy 0, 40, .inl gki)), (ce2, .inl (cy 0, 40, .inl gce)), (si2, .inl (cy 0, 40, .inl gsi)), (sp2, .inl (cy 0, 40, .inl gsp))] := ⟨_, hP, hD⟩
  refine lv_aload_n hx hb dX7_takeFrom_61 rfl (lv_at hl 1 rfl) ?_
  refine va_get (D := G) (ci := 7) (v := .ref sp2) (C := RX7) (T := TX7) (N := 6) hx hb hts inB7 hown hE.1 hP 6 rfl rfl 4 (by decide) (hts _ m_130) (fun _ h9 => h9) rfl dX7_takeFrom_62 ?_
  refine lv_iconst (v := 0) hx hb dX7_takeFrom_65 (by decide) ?_
  refine lv_aload_n hx hb dX7_takeFrom_66 rfl (lv_at hl 0 rfl) ?_
  refine va_get (D := G) (ci := 7) (v := .ref sp) (C := RX7) (T := TX7) (N := 6) hx hb hts inB7 hown hE.1 hP 0 rfl rfl 4 (by decide) (hts _ m_130) (fun _ h9 => h9) rfl dX7_takeFrom_67 ?_
  refine lv_iconst (v := 0) hx hb dX7_takeFrom_70 (by decide) ?_
  refine lv_bipush (v := 40) hx hb dX7_takeFrom_71 (by decide) ?_
  refine va_copyi (ty := .int) hx hb (hml.trans hl.1.symm) hown (hts _ m_1262) (hts _ m_830) (hts _ m_829) (hts _ m_98) hE.1 hP hD hS 11 5 0 0 rfl rfl rfl rfl rfl (by decide) (by decide) (by decide) (by decide) (by decide) (fun _ _ => rfl) (Nat.le_of_ble_eq_true rfl) (Nat.le_of_ble_eq_true rfl) dX7_takeFrom_73 (fun H locs hP hD hS => ?_)
  have hP : va_P G classes [(st, .inr (7, [.ref oc, .ref ki, .ref ce, .ref si, .ref sp, .int 0])), (oc, .inl (cy 0, 192, .inl xf1)), (ki, .inl (cy 0, 40, .inl xf2)), (ce, .inl (cy 0, 40, .inl xf3)), (si, .inl (cy 0, 40, .inl xf4)), (sp, .inl (cy 0, 40, .inl (va_cpy gsp fsp 0 0 40))), (st2, .inr (7, [.ref oc2, .ref ki2, .ref ce2, .ref si2, .ref sp2, .int 0])), (oc2, .inl (cy 0, 192, .inl goc)), (ki2, .inl (cy 0, 40, .inl gki)), (ce2, .inl (cy 0, 40, .inl gce)), (si2, .inl (cy 0, 40, .inl gsi)), (sp2, .inl (cy 0, 40, .inl gsp))] H := hP
  have hD : va_D A [(st, .inr (7, [.ref oc, .ref ki, .ref ce, .ref si, .ref sp, .int 0])), (oc, .inl (cy 0, 192, .inl xf1)), (ki, .inl (cy 0, 40, .inl xf2)), (ce, .inl (cy 0, 40, .inl xf3)), (si, .inl (cy 0, 40, .inl xf4)), (sp, .inl (cy 0, 40, .inl (va_cpy gsp fsp 0 0 40))), (st2, .inr (7, [.ref oc2, .ref ki2, .ref ce2, .ref si2, .ref sp2, .int 0])), (oc2, .inl (cy 0, 192, .inl goc)), (ki2, .inl (cy 0, 40, .inl gki)), (ce2, .inl (cy 0, 40, .inl gce)), (si2, .inl (cy 0, 40, .inl gsi)), (sp2, .inl (cy 0, 40, .inl gsp))] := hD
  obtain ⟨xf5, hP, hD⟩ : ∃ xf5, va_P G classes [(st, .inr (7, [.ref oc, .ref ki, .ref ce, .ref si, .ref sp, .int 0])), (oc, .inl (cy 0, 192, .inl xf1)), (ki, .inl (cy 0, 40, .inl xf2)), (ce, .inl (cy 0, 40, .inl xf3)), (si, .inl (cy 0, 40, .inl xf4)), (sp, .inl (cy 0, 40, .inl xf5)), (st2, .inr (7, [.ref oc2, .ref ki2, .ref ce2, .ref si2, .ref sp2, .int 0])), (oc2, .inl (cy 0, 192, .inl goc)), (ki2, .inl (cy 0, 40, .inl gki)), (ce2, .inl (cy 0, 40, .inl gce)), (si2, .inl (cy 0, 40, .inl gsi)), (sp2, .inl (cy 0, 40, .inl gsp))] H ∧ va_D A [(st, .inr (7, [.ref oc, .ref ki, .ref ce, .ref si, .ref sp, .int 0])), (oc, .inl (cy 0, 192, .inl xf1)), (ki, .inl (cy 0, 40, .inl xf2)), (ce, .inl (cy 0, 40, .inl xf3)), (si, .inl (cy 0, 40, .inl xf4)), (sp, .inl (cy 0, 40, .inl xf5)), (st2, .inr (7, [.ref oc2, .ref ki2, .ref ce2, .ref si2, .ref sp2, .int 0])), (oc2, .inl (cy 0, 192, .inl goc)), (ki2, .inl (cy 0, 40, .inl gki)), (ce2, .inl (cy 0, 40, .inl gce)), (si2, .inl (cy 0, 40, .inl gsi)), (sp2, .inl (cy 0, 40, .inl gsp))] := ⟨_, hP, hD⟩
  refine lv_aload_n hx hb dX7_takeFrom_76 rfl (lv_at hl 0 rfl) ?_
  refine lv_aload_n hx hb dX7_takeFrom_77 rfl (lv_at hl 1 rfl) ?_
  refine va_get (D := G) (ci := 7) (v := .int 0) (C := RX7) (T := TX7) (N := 6) hx hb hts inB7 hown hE.1 hP 6 rfl rfl 5 (by decide) (hts _ m_132) (fun _ h9 => h9) rfl dX7_takeFrom_78 ?_
  refine va_put (D := G) (ci := 7) (v := .int 0) (ty := .int) (C := RX7) (T := TX7) (N := 6) hx hb hts inB7 tyX7 tyX7_ok nmX7 hown hE.1 hP hD hS 0 rfl rfl 5 (by decide) (hts _ m_132) (fun _ h9 => h9) rfl (by decide +kernel) rfl rfl (Nat.le_of_ble_eq_true rfl) dX7_takeFrom_81 (fun H locs hP hD hS => ?_)
  have hP : va_P G classes [(st, .inr (7, [.ref oc, .ref ki, .ref ce, .ref si, .ref sp, .int 0])), (oc, .inl (cy 0, 192, .inl xf1)), (ki, .inl (cy 0, 40, .inl xf2)), (ce, .inl (cy 0, 40, .inl xf3)), (si, .inl (cy 0, 40, .inl xf4)), (sp, .inl (cy 0, 40, .inl xf5)), (st2, .inr (7, [.ref oc2, .ref ki2, .ref ce2, .ref si2, .ref sp2, .int 0])), (oc2, .inl (cy 0, 192, .inl goc)), (ki2, .inl (cy 0, 40, .inl gki)), (ce2, .inl (cy 0, 40, .inl gce)), (si2, .inl (cy 0, 40, .inl gsi)), (sp2, .inl (cy 0, 40, .inl gsp))] H := hP
  have hD : va_D A [(st, .inr (7, [.ref oc, .ref ki, .ref ce, .ref si, .ref sp, .int 0])), (oc, .inl (cy 0, 192, .inl xf1)), (ki, .inl (cy 0, 40, .inl xf2)), (ce, .inl (cy 0, 40, .inl xf3)), (si, .inl (cy 0, 40, .inl xf4)), (sp, .inl (cy 0, 40, .inl xf5)), (st2, .inr (7, [.ref oc2, .ref ki2, .ref ce2, .ref si2, .ref sp2, .int 0])), (oc2, .inl (cy 0, 192, .inl goc)), (ki2, .inl (cy 0, 40, .inl gki)), (ce2, .inl (cy 0, 40, .inl gce)), (si2, .inl (cy 0, 40, .inl gsi)), (sp2, .inl (cy 0, 40, .inl gsp))] := hD
  refine W.widen (k := 0) (n := 0) (by first | exact Nat.le_of_ble_eq_true rfl | omega) (by first | exact Nat.le_of_ble_eq_true rfl | omega) ?_
  exact W.vret hx hb hr (fun t ht hW => ⟨⟨(), rfl, trivial, trivial⟩, hS.F ht⟩) hS.2.2 dX7_takeFrom_84
theorem lf_c_X5_room_0 (n : Nat) (z : Int32) (ans : Int32) (ha : Int32.ofNat n - z = ans) : (((Int32.ofNat n) - z) : Int32) = ans := by first | rfl | simp_all
set_option maxHeartbeats 4000000 in
set_option maxRecDepth 100000 in
theorem c_X5_room (l : Launch) (G : va_G) (cy : Nat → ClassId) (sk : Nat → Nat) (sz : Nat) (ro : Nat) (ra : Nat) (n : Nat) (fr : Nat → Int32) (z : Int32) (ans : Int32) (ha : Int32.ofNat n - z = ans) : Met l yX5_room (wsO yX5_room cX5_room 1 (some .int)) ({ frames := 0, cells := 0, slots := 0, locals := 0 }) (va_Pc [.ref ro] (PR G cy sk sz [(ro, .inr (5, [.ref ra, .int z])), (ra, .inl (cy 0, n, .inl fr))])) (vp_Si (fun r => r = ans)) 0 0 (fun _ => False) := by
  refine mt (by decide) (Nat.le_of_ble_eq_true rfl) ?_
  intro p e s m below meth c ls hx hb hr hml hts hown hlocks hin hsz hP hE hD hl
  subst hsz
  have hl : lv_has ls 1 [(0, .ref ro)] := hl
  refine lv_aload_n hx hb dX5_room_0 rfl (lv_at hl 0 rfl) ?_
  refine va_get (D := G) (ci := 5) (v := .ref ra) (C := RX5) (T := TX5) (N := 2) hx hb hts inB5 hown hE.1 hP 0 rfl rfl 0 (by decide) (hts _ m_208) (fun _ h9 => h9) rfl dX5_room_1 ?_
  refine va_alen (v := (Int32.ofNat n)) hx hb hE.1 hP 1 0 rfl rfl rfl dX5_room_4 ?_
  refine lv_aload_n hx hb dX5_room_5 rfl (lv_at hl 0 rfl) ?_
  refine va_get (D := G) (ci := 5) (v := .int z) (C := RX5) (T := TX5) (N := 2) hx hb hts inB5 hown hE.1 hP 0 rfl rfl 1 (by decide) (hts _ m_209) (fun _ h9 => h9) rfl dX5_room_6 ?_
  refine lv_isub hx hb dX5_room_9 ?_
  exact W.iret (v := ((Int32.ofNat n) - z)) hx hb hr (fun t ht hW => ⟨((Int32.ofNat n) - z), rfl, (lf_c_X5_room_0 n z ans ha), ht⟩) (fun _ h => by cases h) dX5_room_10
theorem lf_c_X5_has_0 (v : Int32) (c_1 : ¬ v < 0) (c_2 : ¬ 0 ≤ v) : (1 : Int32) = 0 := by simp only [inR, Int32.le_iff_toInt_le, Int32.lt_iff_toInt_lt] at *; simp at *; omega
set_option maxHeartbeats 4000000 in
set_option maxRecDepth 100000 in
theorem c_X5_has (l : Launch) (G : va_G) (cy : Nat → ClassId) (sk : Nat → Nat) (sz : Nat) (ro : Nat) (ra : Nat) (v : Int32)  : Met l yX5_has (wsO yX5_has cX5_has 2 (some .boolean)) ({ frames := 0, cells := 0, slots := 0, locals := 0 }) (va_Pc [.ref ro, .int v] (PR G cy sk sz [(ro, .inr (5, [.ref ra, .int 0]))])) (vp_Si (fun r => r = 0)) 0 0 (fun _ => False) := by
  refine mt (by decide) (Nat.le_of_ble_eq_true rfl) ?_
  intro p e s m below meth c ls hx hb hr hml hts hown hlocks hin hsz hP hE hD hl
  subst hsz
  have hl : lv_has ls 2 [(0, .ref ro), (1, .int v)] := hl
  refine lv_iload_n hx hb dX5_has_0 rfl (lv_at hl 1 rfl) ?_
  refine lv_if_lt (tgt := 16) hx hb dX5_has_1 (by decide) (fun c_1 => ?_) (fun c_1 => ?_)
  · refine lv_iconst (v := 0) hx hb dX5_has_16 (by decide) ?_
    exact W.zret (v := 0) hx hb hr rfl (fun t ht hW => ⟨0, rfl, rfl, ht⟩) (fun _ h => by cases h) dX5_has_17
  · refine lv_iload_n hx hb dX5_has_4 rfl (lv_at hl 1 rfl) ?_
    refine lv_aload_n hx hb dX5_has_5 rfl (lv_at hl 0 rfl) ?_
    refine va_get (D := G) (ci := 5) (v := .int 0) (C := RX5) (T := TX5) (N := 2) hx hb hts inB5 hown hE.1 hP 0 rfl rfl 1 (by decide) (hts _ m_209) (fun _ h9 => h9) rfl dX5_has_6 ?_
    refine lv_icmp_ge (tgt := 16) hx hb dX5_has_9 (by decide) (fun c_2 => ?_) (fun c_2 => ?_)
    · refine lv_iconst (v := 0) hx hb dX5_has_16 (by decide) ?_
      exact W.zret (v := 0) hx hb hr rfl (fun t ht hW => ⟨0, rfl, rfl, ht⟩) (fun _ h => by cases h) dX5_has_17
    · refine lv_iconst (v := 1) hx hb dX5_has_12 (by decide) ?_
      refine lv_goto (tgt := 17) hx hb dX5_has_13 (by decide) ?_
      exact W.zret (v := 1) hx hb hr rfl (fun t ht hW => ⟨1, rfl, (lf_c_X5_has_0 v c_1 c_2), ht⟩) (fun _ h => by cases h) dX5_has_17
def B_c_X5_clear (G : va_G) (cy : Nat → ClassId) (A : Nat → Prop) (ro : Nat) (ra : Nat) (z : Int32) (H : Heap) : Prop := va_P G classes [(ro, .inr (5, [.ref ra, .int 0]))] H ∧ va_D A [(ro, .inr (5, [.ref ra, .int 0]))]
set_option maxHeartbeats 4000000 in
set_option maxRecDepth 100000 in
theorem c_X5_clear (l : Launch) (G : va_G) (cy : Nat → ClassId) (sk : Nat → Nat) (sz : Nat) (ro : Nat) (ra : Nat) (z : Int32)  : Met l yX5_clear (wsO yX5_clear cX5_clear 1 none) ({ frames := 0, cells := 0, slots := 0, locals := 0 }) (va_Pc [.ref ro] (PR G cy sk sz [(ro, .inr (5, [.ref ra, .int z]))])) (va_Qv (fun (_ : Unit) => True) (fun _ t => B_c_X5_clear G cy (va_A [(ro, .inr (5, [.ref ra, .int z]))] sz) ro ra z t.heap) (va_A [(ro, .inr (5, [.ref ra, .int z]))] sz)) 0 0 (va_A [(ro, .inr (5, [.ref ra, .int z]))] sz) := by
  refine mt (by decide) (Nat.le_of_ble_eq_true rfl) ?_
  intro p e s m below meth c ls hx hb hr hml hts hown hlocks hin hsz hP hE hD hl
  subst hsz
  have hl : lv_has ls 1 [(0, .ref ro)] := hl
  have hD := hD.self (sz := s.heap.size)
  generalize hAe : va_A [(ro, .inr (5, [.ref ra, .int z]))] s.heap.size = A at hD ⊢
  have hA : ∀ q : Nat, s.heap.size ≤ q → A q := fun q h => by rw [← hAe]; exact Or.inr h
  have hS : va_S A s.heap s.heap [] := va_S.rf
  refine lv_aload_n hx hb dX5_clear_0 rfl (lv_at hl 0 rfl) ?_
  refine lv_iconst (v := 0) hx hb dX5_clear_1 (by decide) ?_
  refine va_put (D := G) (ci := 5) (v := .int 0) (ty := .int) (C := RX5) (T := TX5) (N := 2) hx hb hts inB5 tyX5 tyX5_ok nmX5 hown hE.1 hP hD hS 0 rfl rfl 1 (by decide) (hts _ m_209) (fun _ h9 => h9) rfl (by decide +kernel) rfl rfl (Nat.le_of_ble_eq_true rfl) dX5_clear_2 (fun H locs hP hD hS => ?_)
  have hP : va_P G classes [(ro, .inr (5, [.ref ra, .int 0]))] H := hP
  have hD : va_D A [(ro, .inr (5, [.ref ra, .int 0]))] := hD
  have hP9 := P_cut (wc := [(ro, .inr (5, [.ref ra, .int 0]))]) hP [0] rfl
  have hD9 := hD.sub (ws' := [(ro, .inr (5, [.ref ra, .int 0]))]) [0] (by decide) rfl
  refine W.widen (k := 0) (n := 0) (by first | exact Nat.le_of_ble_eq_true rfl | omega) (by first | exact Nat.le_of_ble_eq_true rfl | omega) ?_
  exact W.vret hx hb hr (fun t ht hW => ⟨⟨(), rfl, trivial, by dsimp only; rw [ht]; exact ⟨hP9, hD9⟩⟩, hS.F ht⟩) hS.2.2 dX5_clear_5
def B_c_X5_add (G : va_G) (cy : Nat → ClassId) (A : Nat → Prop) (ro : Nat) (ra : Nat) (n : Nat) (fr : Nat → Int32) (z : Int32) (k : Nat) (v : Int32) (H : Heap) : Prop := ∃ (fr2 : Nat → Int32), va_P G classes [(ro, .inr (5, [.ref ra, .int (nI (k + 1))])), (ra, .inl (cy 0, n, .inl fr2))] H ∧ va_D A [(ro, .inr (5, [.ref ra, .int (nI (k + 1))])), (ra, .inl (cy 0, n, .inl fr2))]
set_option maxHeartbeats 4000000 in
set_option maxRecDepth 100000 in
theorem c_X5_add (l : Launch) (G : va_G) (cy : Nat → ClassId) (sk : Nat → Nat) (sz : Nat) (ro : Nat) (ra : Nat) (n : Nat) (fr : Nat → Int32) (z : Int32) (k : Nat) (v : Int32) (hz : z = nI k) (hk : k < n) (hn : n ≤ 48) : Met l yX5_add (wsO yX5_add cX5_add 2 none) ({ frames := 0, cells := 0, slots := 0, locals := 0 }) (va_Pc [.ref ro, .int v] (PR G cy sk sz [(ro, .inr (5, [.ref ra, .int z])), (ra, .inl (cy 0, n, .inl fr))])) (va_Qv (fun (_ : Unit) => True) (fun _ t => B_c_X5_add G cy (va_A [(ro, .inr (5, [.ref ra, .int z])), (ra, .inl (cy 0, n, .inl fr))] sz) ro ra n fr z k v t.heap) (va_A [(ro, .inr (5, [.ref ra, .int z])), (ra, .inl (cy 0, n, .inl fr))] sz)) 0 0 (va_A [(ro, .inr (5, [.ref ra, .int z])), (ra, .inl (cy 0, n, .inl fr))] sz) := by
  refine mt (by decide) (Nat.le_of_ble_eq_true rfl) ?_
  intro p e s m below meth c ls hx hb hr hml hts hown hlocks hin hsz hP hE hD hl
  subst hsz
  have hl : lv_has ls 2 [(0, .ref ro), (1, .int v)] := hl
  subst hz
  have hl : lv_has ls 2 [(0, .ref ro), (1, .int v)] := hl
  have hD := hD.self (sz := s.heap.size)
  generalize hAe : va_A [(ro, .inr (5, [.ref ra, .int (nI k)])), (ra, .inl (cy 0, n, .inl fr))] s.heap.size = A at hD ⊢
  have hA : ∀ q : Nat, s.heap.size ≤ q → A q := fun q h => by rw [← hAe]; exact Or.inr h
  have hS : va_S A s.heap s.heap [] := va_S.rf
  refine lv_aload_n hx hb dX5_add_0 rfl (lv_at hl 0 rfl) ?_
  refine va_get (D := G) (ci := 5) (v := .int (nI k)) (C := RX5) (T := TX5) (N := 2) hx hb hts inB5 hown hE.1 hP 0 rfl rfl 1 (by decide) (hts _ m_209) (fun _ h9 => h9) rfl dX5_add_1 ?_
  refine lv_if_lt (tgt := 39) hx hb dX5_add_4 (by decide) (fun h9 => absurd h9 (nI_pos (by omega))) (fun _ => ?_)
  refine lv_aload_n hx hb dX5_add_7 rfl (lv_at hl 0 rfl) ?_
  refine va_get (D := G) (ci := 5) (v := .int (nI k)) (C := RX5) (T := TX5) (N := 2) hx hb hts inB5 hown hE.1 hP 0 rfl rfl 1 (by decide) (hts _ m_209) (fun _ h9 => h9) rfl dX5_add_8 ?_
  refine lv_aload_n hx hb dX5_add_11 rfl (lv_at hl 0 rfl) ?_
  refine va_get (D := G) (ci := 5) (v := .ref ra) (C := RX5) (T := TX5) (N := 2) hx hb hts inB5 hown hE.1 hP 0 rfl rfl 0 (by decide) (hts _ m_208) (fun _ h9 => h9) rfl dX5_add_12 ?_
  refine va_alen (v := (nI n)) hx hb hE.1 hP 1 0 rfl rfl rfl dX5_add_15 ?_
  refine lv_icmp_ge (tgt := 39) hx hb dX5_add_16 (by decide) (fun h9 => absurd h9 (nI_ge hk (by omega))) (fun _ => ?_)
  refine lv_aload_n hx hb dX5_add_19 rfl (lv_at hl 0 rfl) ?_
  refine va_get (D := G) (ci := 5) (v := .ref ra) (C := RX5) (T := TX5) (N := 2) hx hb hts inB5 hown hE.1 hP 0 rfl rfl 0 (by decide) (hts _ m_208) (fun _ h9 => h9) rfl dX5_add_20 ?_
  refine lv_aload_n hx hb dX5_add_23 rfl (lv_at hl 0 rfl) ?_
  refine va_get (D := G) (ci := 5) (v := .int (nI k)) (C := RX5) (T := TX5) (N := 2) hx hb hts inB5 hown hE.1 hP 0 rfl rfl 1 (by decide) (hts _ m_209) (fun _ h9 => h9) rfl dX5_add_24 ?_
  refine lv_iload_n hx hb dX5_add_27 rfl (lv_at hl 1 rfl) ?_
  refine va_iast hx hb hE.1 hP hD hS 1 0 rfl rfl (vp_in_nI hk (by omega)) dX5_add_28 (fun H locs hP hD hS => ?_)
  have hP : va_P G classes [(ro, .inr (5, [.ref ra, .int (nI k)])), (ra, .inl (cy 0, n, .inl (upd fr ((nI k)).toNatClampNeg v)))] H := hP
  have hD : va_D A [(ro, .inr (5, [.ref ra, .int (nI k)])), (ra, .inl (cy 0, n, .inl (upd fr ((nI k)).toNatClampNeg v)))] := hD
  refine lv_aload_n hx hb dX5_add_29 rfl (lv_at hl 0 rfl) ?_
  refine lv_dup hx hb dX5_add_30 rfl ?_
  refine va_get (D := G) (ci := 5) (v := .int (nI k)) (C := RX5) (T := TX5) (N := 2) hx hb hts inB5 hown hE.1 hP 0 rfl rfl 1 (by decide) (hts _ m_209) (fun _ h9 => h9) rfl dX5_add_31 ?_
  refine lv_iconst (v := 1) hx hb dX5_add_34 (by decide) ?_
  refine lv_iadd hx hb dX5_add_35 ?_
  refine tp (v := (nI (k + 1))) (nI_1 k) ?_
  refine va_put (D := G) (ci := 5) (v := .int (nI (k + 1))) (ty := .int) (C := RX5) (T := TX5) (N := 2) hx hb hts inB5 tyX5 tyX5_ok nmX5 hown hE.1 hP hD hS 0 rfl rfl 1 (by decide) (hts _ m_209) (fun _ h9 => h9) rfl (by decide +kernel) rfl rfl (Nat.le_of_ble_eq_true rfl) dX5_add_36 (fun H locs hP hD hS => ?_)
  have hP : va_P G classes [(ro, .inr (5, [.ref ra, .int (nI (k + 1))])), (ra, .inl (cy 0, n, .inl (upd fr ((nI k)).toNatClampNeg v)))] H := hP
  have hD : va_D A [(ro, .inr (5, [.ref ra, .int (nI (k + 1))])), (ra, .inl (cy 0, n, .inl (upd fr ((nI k)).toNatClampNeg v)))] := hD
  have hP9 := P_cut (wc := [(ro, .inr (5, [.ref ra, .int (nI (k + 1))])), (ra, .inl (cy 0, n, .inl (upd fr ((nI k)).toNatClampNeg v)))]) hP [0, 1] rfl
  have hD9 := hD.sub (ws' := [(ro, .inr (5, [.ref ra, .int (nI (k + 1))])), (ra, .inl (cy 0, n, .inl (upd fr ((nI k)).toNatClampNeg v)))]) [0, 1] (by decide) rfl
  refine W.widen (k := 0) (n := 0) (by first | exact Nat.le_of_ble_eq_true rfl | omega) (by first | exact Nat.le_of_ble_eq_true rfl | omega) ?_
  exact W.vret hx hb hr (fun t ht hW => ⟨⟨(), rfl, trivial, by dsimp only; rw [ht]; exact ⟨(upd fr ((nI k)).toNatClampNeg v), hP9, hD9⟩⟩, hS.F ht⟩) hS.2.2 dX5_add_39
def B_c_X5_takeFrom (G : va_G) (cy : Nat → ClassId) (A : Nat → Prop) (ro : Nat) (ra : Nat) (n : Nat) (fr : Nat → Int32) (z : Int32) (ro2 : Nat) (ra2 : Nat) (H : Heap) : Prop := va_P G classes [(ro, .inr (5, [.ref ra, .int 0])), (ro2, .inr (5, [.ref ra2, .int 0]))] H ∧ va_D A [(ro, .inr (5, [.ref ra, .int 0])), (ro2, .inr (5, [.ref ra2, .int 0]))]
set_option maxHeartbeats 4000000 in
set_option maxRecDepth 100000 in
theorem c_X5_takeFrom (l : Launch) (G : va_G) (cy : Nat → ClassId) (sk : Nat → Nat) (sz : Nat) (ro : Nat) (ra : Nat) (n : Nat) (fr : Nat → Int32) (z : Int32) (ro2 : Nat) (ra2 : Nat) (hn : n ≤ 48) : Met l yX5_takeFrom (wsO yX5_takeFrom cX5_takeFrom 3 none) ({ frames := 1, cells := 0, slots := 0, locals := 14 }) (va_Pc [.ref ro, .ref ro2] (PR G cy sk sz [(ro, .inr (5, [.ref ra, .int z])), (ra, .inl (cy 0, n, .inl fr)), (ro2, .inr (5, [.ref ra2, .int 0]))])) (va_Qv (fun (_ : Unit) => True) (fun _ t => B_c_X5_takeFrom G cy (va_A [(ro, .inr (5, [.ref ra, .int z])), (ra, .inl (cy 0, n, .inl fr)), (ro2, .inr (5, [.ref ra2, .int 0]))] sz) ro ra n fr z ro2 ra2 t.heap) (va_A [(ro, .inr (5, [.ref ra, .int z])), (ra, .inl (cy 0, n, .inl fr)), (ro2, .inr (5, [.ref ra2, .int 0]))] sz)) 0 0 (va_A [(ro, .inr (5, [.ref ra, .int z])), (ra, .inl (cy 0, n, .inl fr)), (ro2, .inr (5, [.ref ra2, .int 0]))] sz) := by
  refine mt (by decide) (Nat.le_of_ble_eq_true rfl) ?_
  intro p e s m below meth c ls hx hb hr hml hts hown hlocks hin hsz hP hE hD hl
  subst hsz
  have hl : lv_has ls 3 [(0, .ref ro), (1, .ref ro2)] := hl
  have hD := hD.self (sz := s.heap.size)
  generalize hAe : va_A [(ro, .inr (5, [.ref ra, .int z])), (ra, .inl (cy 0, n, .inl fr)), (ro2, .inr (5, [.ref ra2, .int 0]))] s.heap.size = A at hD ⊢
  have hA : ∀ q : Nat, s.heap.size ≤ q → A q := fun q h => by rw [← hAe]; exact Or.inr h
  have hS : va_S A s.heap s.heap [] := va_S.rf
  refine lv_aload_n hx hb dX5_takeFrom_0 rfl (lv_at hl 0 rfl) ?_
  refine lv_aload_n hx hb dX5_takeFrom_1 rfl (lv_at hl 1 rfl) ?_
  refine va_get (D := G) (ci := 5) (v := .int 0) (C := RX5) (T := TX5) (N := 2) hx hb hts inB5 hown hE.1 hP 2 rfl rfl 1 (by decide) (hts _ m_209) (fun _ h9 => h9) rfl dX5_takeFrom_2 ?_
  refine lv_aload_n hx hb dX5_takeFrom_5 rfl (lv_at hl 0 rfl) ?_
  refine va_get (D := G) (ci := 5) (v := .ref ra) (C := RX5) (T := TX5) (N := 2) hx hb hts inB5 hown hE.1 hP 0 rfl rfl 0 (by decide) (hts _ m_208) (fun _ h9 => h9) rfl dX5_takeFrom_6 ?_
  refine va_alen (v := (nI n)) hx hb hE.1 hP 1 0 rfl rfl rfl dX5_takeFrom_9 ?_
  refine va_mmin hx hb (hml.trans hl.1.symm) hown (hts _ m_1146) (hts _ m_770) (hts _ m_86) (hts _ m_771) (Nat.le_of_ble_eq_true rfl) (Nat.le_of_ble_eq_true rfl) (Nat.le_of_ble_eq_true rfl) (Nat.le_of_ble_eq_true rfl) dX5_takeFrom_10 ?_
  refine tp (v := 0) (mn0 (by omega)) ?_
  refine va_put (D := G) (ci := 5) (v := .int 0) (ty := .int) (C := RX5) (T := TX5) (N := 2) hx hb hts inB5 tyX5 tyX5_ok nmX5 hown hE.1 hP hD hS 0 rfl rfl 1 (by decide) (hts _ m_209) (fun _ h9 => h9) rfl (by decide +kernel) rfl rfl (Nat.le_of_ble_eq_true rfl) dX5_takeFrom_13 (fun H locs hP hD hS => ?_)
  have hP : va_P G classes [(ro, .inr (5, [.ref ra, .int 0])), (ra, .inl (cy 0, n, .inl fr)), (ro2, .inr (5, [.ref ra2, .int 0]))] H := hP
  have hD : va_D A [(ro, .inr (5, [.ref ra, .int 0])), (ra, .inl (cy 0, n, .inl fr)), (ro2, .inr (5, [.ref ra2, .int 0]))] := hD
  refine lv_iconst (v := 0) hx hb dX5_takeFrom_16 (by decide) ?_
  refine lv_istore_n (lv' := [(2, .int 0), (0, .ref ro), (1, .ref ro2)]) hx hb dX5_takeFrom_17 rfl hl (by decide) rfl (fun ls hl => ?_)
  refine lv_iload_n hx hb dX5_takeFrom_18 rfl (lv_at hl 0 rfl) ?_
  refine lv_aload_n hx hb dX5_takeFrom_19 rfl (lv_at hl 1 rfl) ?_
  refine va_get (D := G) (ci := 5) (v := .int 0) (C := RX5) (T := TX5) (N := 2) hx hb hts inB5 hown hE.1 hP 0 rfl rfl 1 (by decide) (hts _ m_209) (fun _ h9 => h9) rfl dX5_takeFrom_20 ?_
  refine lv_icmp_ge (tgt := 43) hx hb dX5_takeFrom_23 (by decide) (fun _ => ?_) (fun h9 => absurd h9 (by decide))
  have hP9 := P_cut (wc := [(ro, .inr (5, [.ref ra, .int 0])), (ro2, .inr (5, [.ref ra2, .int 0]))]) hP [0, 2] rfl
  have hD9 := hD.sub (ws' := [(ro, .inr (5, [.ref ra, .int 0])), (ro2, .inr (5, [.ref ra2, .int 0]))]) [0, 2] (by decide) rfl
  refine W.widen (k := 0) (n := 0) (by first | exact Nat.le_of_ble_eq_true rfl | omega) (by first | exact Nat.le_of_ble_eq_true rfl | omega) ?_
  exact W.vret hx hb hr (fun t ht hW => ⟨⟨(), rfl, trivial, by dsimp only; rw [ht]; exact ⟨hP9, hD9⟩⟩, hS.F ht⟩) hS.2.2 dX5_takeFrom_43
def B_c_X5_init (G : va_G) (cy : Nat → ClassId) (A : Nat → Prop) (h0 : Nat) (mI : Int32) (n : Nat) (H : Heap) : Prop := ∃ (ra : Nat), va_P G classes [(h0, .inr (5, [.ref ra, .int 0])), (ra, .inl (cy 0, n, .inl (fun _ => 0)))] H ∧ va_D A [(h0, .inr (5, [.ref ra, .int 0])), (ra, .inl (cy 0, n, .inl (fun _ => 0)))]
set_option maxHeartbeats 4000000 in
set_option maxRecDepth 100000 in
theorem c_X5_init (l : Launch) (G : va_G) (cy : Nat → ClassId) (sk : Nat → Nat) (sz : Nat) (h0 : Nat) (mI : Int32) (n : Nat) (hm : mI = nI n) (hn : n ≤ 100) : Met l yX5_init (wsO yX5_init cX5_init 2 none) ({ frames := 1, cells := 1, slots := 100, locals := 14 }) (va_Pc [.ref h0, .int mI] (PR G cy sk sz [(h0, .inr (5, [.null, .int 0]))])) (va_Qv (fun (_ : Unit) => True) (fun _ t => B_c_X5_init G cy (va_A [(h0, .inr (5, [.null, .int 0]))] sz) h0 mI n t.heap) (va_A [(h0, .inr (5, [.null, .int 0]))] sz)) 1 100 (va_A [(h0, .inr (5, [.null, .int 0]))] sz) := by
  refine mt (by decide) (Nat.le_of_ble_eq_true rfl) ?_
  intro p e s m below meth c ls hx hb hr hml hts hown hlocks hin hsz hP hE hD hl
  subst hsz
  have hl : lv_has ls 2 [(0, .ref h0), (1, .int mI)] := hl
  subst hm
  have hl : lv_has ls 2 [(0, .ref h0), (1, .int (nI n))] := hl
  have hD := hD.self (sz := s.heap.size)
  generalize hAe : va_A [(h0, .inr (5, [.null, .int 0]))] s.heap.size = A at hD ⊢
  have hA : ∀ q : Nat, s.heap.size ≤ q → A q := fun q h => by rw [← hAe]; exact Or.inr h
  have hS : va_S A s.heap s.heap [] := va_S.rf
  refine lv_aload_n hx hb dX5_init_0 rfl (lv_at hl 0 rfl) ?_
  refine W.objInit hx hb hown (hts _ m_204) (hts _ m_107) (hts _ m_108) rfl (by rw [hml]; exact hl.1) rfl dX5_init_1 (Nat.le_of_ble_eq_true rfl) (Nat.le_of_ble_eq_true rfl) ?_
  refine W.eq (g2 := F0 m 4 ls []) rfl ?_
  refine lv_aload_n hx hb dX5_init_4 rfl (lv_at hl 0 rfl) ?_
  refine lv_iconst (v := 0) hx hb dX5_init_5 (by decide) ?_
  refine va_put (D := G) (ci := 5) (v := .int 0) (ty := .int) (C := RX5) (T := TX5) (N := 2) hx hb hts inB5 tyX5 tyX5_ok nmX5 hown hE.1 hP hD hS 0 rfl rfl 1 (by decide) (hts _ m_209) (fun _ h9 => h9) rfl (by decide +kernel) rfl rfl (Nat.le_of_ble_eq_true rfl) dX5_init_6 (fun H locs hP hD hS => ?_)
  have hP : va_P G classes [(h0, .inr (5, [.null, .int 0]))] H := hP
  have hD : va_D A [(h0, .inr (5, [.null, .int 0]))] := hD
  refine lv_aload_n hx hb dX5_init_9 rfl (lv_at hl 0 rfl) ?_
  refine lv_iconst (v := 0) hx hb dX5_init_10 (by decide) ?_
  refine lv_iload_n hx hb dX5_init_11 rfl (lv_at hl 1 rfl) ?_
  refine va_mmax hx hb (hml.trans hl.1.symm) hown (hts _ m_205) (hts _ m_206) (hts _ m_86) (hts _ m_207) (Nat.le_of_ble_eq_true rfl) (Nat.le_of_ble_eq_true rfl) (Nat.le_of_ble_eq_true rfl) (Nat.le_of_ble_eq_true rfl) dX5_init_12 ?_
  refine tp (v := (nI n)) (mx0 (by omega)) ?_
  refine nwI (n := (nI n)) (N := n) hx hb hts m_146 hE hP hD hS hA (nI_pos (by omega)) (nI_clamp (by omega)) (by omega) (Nat.le_of_ble_eq_true rfl) (by show 0 + n ≤ 100; omega) dX5_init_15 (fun nq1 H hP hD hS => ?_)
  have hP : va_P G classes [(h0, .inr (5, [.null, .int 0])), (nq1, .inl (cy 0, n, .inl (fun _ => 0)))] H := hP
  have hD : va_D A [(h0, .inr (5, [.null, .int 0])), (nq1, .inl (cy 0, n, .inl (fun _ => 0)))] := hD
  refine va_putF (D := G) (ci := 5) (v := .ref nq1) (ty := (.array .int)) (C := RX5) (T := TX5) (N := 2) hx hb hts inB5 tyX5 tyX5_ok nmX5 hown hE.1 hP hD hS 0 rfl rfl 0 (by decide) (hts _ m_208) (fun _ h9 => h9) rfl hin rfl (by decide +kernel) rfl rfl (Nat.le_of_ble_eq_true rfl) dX5_init_17 (fun H locs hP hD hS => ?_)
  have hP : va_P G classes [(h0, .inr (5, [.ref nq1, .int 0])), (nq1, .inl (cy 0, n, .inl (fun _ => 0)))] H := hP
  have hD : va_D A [(h0, .inr (5, [.ref nq1, .int 0])), (nq1, .inl (cy 0, n, .inl (fun _ => 0)))] := hD
  have hP9 := P_cut (wc := [(h0, .inr (5, [.ref nq1, .int 0])), (nq1, .inl (cy 0, n, .inl (fun _ => 0)))]) hP [0, 1] rfl
  have hD9 := hD.sub (ws' := [(h0, .inr (5, [.ref nq1, .int 0])), (nq1, .inl (cy 0, n, .inl (fun _ => 0)))]) [0, 1] (by decide) rfl
  refine W.widen (k := 1) (n := 100) (by first | exact Nat.le_of_ble_eq_true rfl | omega) (by first | exact Nat.le_of_ble_eq_true rfl | omega) ?_
  exact W.vret hx hb hr (fun t ht hW => ⟨⟨(), rfl, trivial, by dsimp only; rw [ht]; exact ⟨nq1, hP9, hD9⟩⟩, hS.F ht⟩) hS.2.2 dX5_init_20
def B_c_X1_init (G : va_G) (cy : Nat → ClassId) (A : Nat → Prop) (h0 : Nat) (H : Heap) : Prop := ∃ (co : Nat) (sk_ : Nat), va_P G classes [(h0, .inr (1, [.ref co, .ref sk_, .int 0])), (co, .inl (cy 0, 48, .inl (fun _ => 0)))] H ∧ va_D A [(h0, .inr (1, [.ref co, .ref sk_, .int 0])), (co, .inl (cy 0, 48, .inl (fun _ => 0)))]
set_option maxHeartbeats 4000000 in
set_option maxRecDepth 100000 in
theorem c_X1_init (l : Launch) (G : va_G) (cy : Nat → ClassId) (sk : Nat → Nat) (sz : Nat) (h0 : Nat)  : Met l yX1_init (wsO yX1_init cX1_init 1 none) ({ frames := 1, cells := 2, slots := 96, locals := 12 }) (va_Pc [.ref h0] (PR G cy sk sz [(h0, .inr (1, [.null, .null, .int 0]))])) (va_Qv (fun (_ : Unit) => True) (fun _ t => B_c_X1_init G cy (va_A [(h0, .inr (1, [.null, .null, .int 0]))] sz) h0 t.heap) (va_A [(h0, .inr (1, [.null, .null, .int 0]))] sz)) 2 96 (va_A [(h0, .inr (1, [.null, .null, .int 0]))] sz) := by
  refine mt (by decide) (Nat.le_of_ble_eq_true rfl) ?_
  intro p e s m below meth c ls hx hb hr hml hts hown hlocks hin hsz hP hE hD hl
  subst hsz
  have hl : lv_has ls 1 [(0, .ref h0)] := hl
  have hD := hD.self (sz := s.heap.size)
  generalize hAe : va_A [(h0, .inr (1, [.null, .null, .int 0]))] s.heap.size = A at hD ⊢
  have hA : ∀ q : Nat, s.heap.size ≤ q → A q := fun q h => by rw [← hAe]; exact Or.inr h
  have hS : va_S A s.heap s.heap [] := va_S.rf
  refine lv_aload_n hx hb dX1_init_0 rfl (lv_at hl 0 rfl) ?_
  refine W.objInit hx hb hown (hts _ m_159) (hts _ m_107) (hts _ m_108) rfl (by rw [hml]; exact hl.1) rfl dX1_init_1 (Nat.le_of_ble_eq_true rfl) (Nat.le_of_ble_eq_true rfl) ?_
  refine W.eq (g2 := F0 m 4 ls []) rfl ?_
  refine lv_aload_n hx hb dX1_init_4 rfl (lv_at hl 0 rfl) ?_
  refine lv_bipush (v := 48) hx hb dX1_init_5 (by decide) ?_
  refine nwI (n := 48) (N := 48) hx hb hts m_146 hE hP hD hS hA (by decide) (by decide) (Nat.le_of_ble_eq_true rfl) (Nat.le_of_ble_eq_true rfl) (Nat.le_of_ble_eq_true rfl) dX1_init_7 (fun nq1 H hP hD hS => ?_)
  have hP : va_P G classes [(h0, .inr (1, [.null, .null, .int 0])), (nq1, .inl (cy 0, 48, .inl (fun _ => 0)))] H := hP
  have hD : va_D A [(h0, .inr (1, [.null, .null, .int 0])), (nq1, .inl (cy 0, 48, .inl (fun _ => 0)))] := hD
  refine va_putF (D := G) (ci := 1) (v := .ref nq1) (ty := (.array .int)) (C := RX1) (T := TX1) (N := 3) hx hb hts inB1 tyX1 tyX1_ok nmX1 hown hE.1 hP hD hS 0 rfl rfl 0 (by decide) (hts _ m_160) (fun _ h9 => h9) rfl hin rfl (by decide +kernel) rfl rfl (Nat.le_of_ble_eq_true rfl) dX1_init_9 (fun H locs hP hD hS => ?_)
  have hP : va_P G classes [(h0, .inr (1, [.ref nq1, .null, .int 0])), (nq1, .inl (cy 0, 48, .inl (fun _ => 0)))] H := hP
  have hD : va_D A [(h0, .inr (1, [.ref nq1, .null, .int 0])), (nq1, .inl (cy 0, 48, .inl (fun _ => 0)))] := hD
  refine lv_aload_n hx hb dX1_init_12 rfl (lv_at hl 0 rfl) ?_
  refine lv_bipush (v := 48) hx hb dX1_init_13 (by decide) ?_
  refine nwI (n := 48) (N := 48) hx hb hts m_146 hE hP hD hS hA (by decide) (by decide) (Nat.le_of_ble_eq_true rfl) (Nat.le_of_ble_eq_true rfl) (Nat.le_of_ble_eq_true rfl) dX1_init_15 (fun nq2 H hP hD hS => ?_)
  have hP : va_P G classes [(h0, .inr (1, [.ref nq1, .null, .int 0])), (nq1, .inl (cy 0, 48, .inl (fun _ => 0))), (nq2, .inl (cy 0, 48, .inl (fun _ => 0)))] H := hP
  have hD : va_D A [(h0, .inr (1, [.ref nq1, .null, .int 0])), (nq1, .inl (cy 0, 48, .inl (fun _ => 0))), (nq2, .inl (cy 0, 48, .inl (fun _ => 0)))] := hD
  refine va_putF (D := G) (ci := 1) (v := .ref nq2) (ty := (.array .int)) (C := RX1) (T := TX1) (N := 3) hx hb hts inB1 tyX1 tyX1_ok nmX1 hown hE.1 hP hD hS 0 rfl rfl 1 (by decide) (hts _ m_161) (fun _ h9 => h9) rfl hin rfl (by decide +kernel) rfl rfl (Nat.le_of_ble_eq_true rfl) dX1_init_17 (fun H locs hP hD hS => ?_)
  have hP : va_P G classes [(h0, .inr (1, [.ref nq1, .ref nq2, .int 0])), (nq1, .inl (cy 0, 48, .inl (fun _ => 0))), (nq2, .inl (cy 0, 48, .inl (fun _ => 0)))] H := hP
  have hD : va_D A [(h0, .inr (1, [.ref nq1, .ref nq2, .int 0])), (nq1, .inl (cy 0, 48, .inl (fun _ => 0))), (nq2, .inl (cy 0, 48, .inl (fun _ => 0)))] := hD
  refine lv_aload_n hx hb dX1_init_20 rfl (lv_at hl 0 rfl) ?_
  refine lv_iconst (v := 0) hx hb dX1_init_21 (by decide) ?_
  refine va_put (D := G) (ci := 1) (v := .int 0) (ty := .int) (C := RX1) (T := TX1) (N := 3) hx hb hts inB1 tyX1 tyX1_ok nmX1 hown hE.1 hP hD hS 0 rfl rfl 2 (by decide) (hts _ m_162) (fun _ h9 => h9) rfl (by decide +kernel) rfl rfl (Nat.le_of_ble_eq_true rfl) dX1_init_22 (fun H locs hP hD hS => ?_)
  have hP : va_P G classes [(h0, .inr (1, [.ref nq1, .ref nq2, .int 0])), (nq1, .inl (cy 0, 48, .inl (fun _ => 0))), (nq2, .inl (cy 0, 48, .inl (fun _ => 0)))] H := hP
  have hD : va_D A [(h0, .inr (1, [.ref nq1, .ref nq2, .int 0])), (nq1, .inl (cy 0, 48, .inl (fun _ => 0))), (nq2, .inl (cy 0, 48, .inl (fun _ => 0)))] := hD
  have hP9 := P_cut (wc := [(h0, .inr (1, [.ref nq1, .ref nq2, .int 0])), (nq1, .inl (cy 0, 48, .inl (fun _ => 0)))]) hP [0, 1] rfl
  have hD9 := hD.sub (ws' := [(h0, .inr (1, [.ref nq1, .ref nq2, .int 0])), (nq1, .inl (cy 0, 48, .inl (fun _ => 0)))]) [0, 1] (by decide) rfl
  refine W.widen (k := 2) (n := 96) (by first | exact Nat.le_of_ble_eq_true rfl | omega) (by first | exact Nat.le_of_ble_eq_true rfl | omega) ?_
  exact W.vret hx hb hr (fun t ht hW => ⟨⟨(), rfl, trivial, by dsimp only; rw [ht]; exact ⟨nq1, nq2, hP9, hD9⟩⟩, hS.F ht⟩) hS.2.2 dX1_init_25
def B_c_X1_clear (G : va_G) (cy : Nat → ClassId) (A : Nat → Prop) (fo : Nat) (co : Nat) (ck : Nat) (z : Int32) (H : Heap) : Prop := va_P G classes [(fo, .inr (1, [.ref co, .ref ck, .int 0]))] H ∧ va_D A [(fo, .inr (1, [.ref co, .ref ck, .int 0]))]
set_option maxHeartbeats 4000000 in
set_option maxRecDepth 100000 in
theorem c_X1_clear (l : Launch) (G : va_G) (cy : Nat → ClassId) (sk : Nat → Nat) (sz : Nat) (fo : Nat) (co : Nat) (ck : Nat) (z : Int32)  : Met l yX1_clear (wsO yX1_clear cX1_clear 1 none) ({ frames := 0, cells := 0, slots := 0, locals := 0 }) (va_Pc [.ref fo] (PR G cy sk sz [(fo, .inr (1, [.ref co, .ref ck, .int z]))])) (va_Qv (fun (_ : Unit) => True) (fun _ t => B_c_X1_clear G cy (va_A [(fo, .inr (1, [.ref co, .ref ck, .int z]))] sz) fo co ck z t.heap) (va_A [(fo, .inr (1, [.ref co, .ref ck, .int z]))] sz)) 0 0 (va_A [(fo, .inr (1, [.ref co, .ref ck, .int z]))] sz) := by
  refine mt (by decide) (Nat.le_of_ble_eq_true rfl) ?_
  intro p e s m below meth c ls hx hb hr hml hts hown hlocks hin hsz hP hE hD hl
  subst hsz
  have hl : lv_has ls 1 [(0, .ref fo)] := hl
  have hD := hD.self (sz := s.heap.size)
  generalize hAe : va_A [(fo, .inr (1, [.ref co, .ref ck, .int z]))] s.heap.size = A at hD ⊢
  have hA : ∀ q : Nat, s.heap.size ≤ q → A q := fun q h => by rw [← hAe]; exact Or.inr h
  have hS : va_S A s.heap s.heap [] := va_S.rf
  refine lv_aload_n hx hb dX1_clear_0 rfl (lv_at hl 0 rfl) ?_
  refine lv_iconst (v := 0) hx hb dX1_clear_1 (by decide) ?_
  refine va_put (D := G) (ci := 1) (v := .int 0) (ty := .int) (C := RX1) (T := TX1) (N := 3) hx hb hts inB1 tyX1 tyX1_ok nmX1 hown hE.1 hP hD hS 0 rfl rfl 2 (by decide) (hts _ m_162) (fun _ h9 => h9) rfl (by decide +kernel) rfl rfl (Nat.le_of_ble_eq_true rfl) dX1_clear_2 (fun H locs hP hD hS => ?_)
  have hP : va_P G classes [(fo, .inr (1, [.ref co, .ref ck, .int 0]))] H := hP
  have hD : va_D A [(fo, .inr (1, [.ref co, .ref ck, .int 0]))] := hD
  have hP9 := P_cut (wc := [(fo, .inr (1, [.ref co, .ref ck, .int 0]))]) hP [0] rfl
  have hD9 := hD.sub (ws' := [(fo, .inr (1, [.ref co, .ref ck, .int 0]))]) [0] (by decide) rfl
  refine W.widen (k := 0) (n := 0) (by first | exact Nat.le_of_ble_eq_true rfl | omega) (by first | exact Nat.le_of_ble_eq_true rfl | omega) ?_
  exact W.vret hx hb hr (fun t ht hW => ⟨⟨(), rfl, trivial, by dsimp only; rw [ht]; exact ⟨hP9, hD9⟩⟩, hS.F ht⟩) hS.2.2 dX1_clear_5
set_option maxHeartbeats 4000000 in
set_option maxRecDepth 100000 in
theorem c_X1_takeFrom (l : Launch) (G : va_G) (cy : Nat → ClassId) (sk : Nat → Nat) (sz : Nat) (fo : Nat) (co : Nat) (ck : Nat) (fo2 : Nat) (co2 : Nat) (ck2 : Nat) (z : Int32) (z2 : Int32) (fc : Nat → Int32) (fc2 : Nat → Int32)  : Met l yX1_takeFrom (wsO yX1_takeFrom cX1_takeFrom 2 none) ({ frames := 1, cells := 0, slots := 0, locals := 40 }) (va_Pc [.ref fo, .ref fo2] (PR G cy sk sz [(fo, .inr (1, [.ref co, .ref ck, .int z])), (co, .inl (cy 0, 48, .inl fc)), (fo2, .inr (1, [.ref co2, .ref ck2, .int z2])), (co2, .inl (cy 0, 48, .inl fc2))])) (va_Qv (fun (_ : Unit) => True) (fun _ _ => True) (va_A [(fo, .inr (1, [.ref co, .ref ck, .int z])), (co, .inl (cy 0, 48, .inl fc)), (fo2, .inr (1, [.ref co2, .ref ck2, .int z2])), (co2, .inl (cy 0, 48, .inl fc2))] sz)) 0 0 (va_A [(fo, .inr (1, [.ref co, .ref ck, .int z])), (co, .inl (cy 0, 48, .inl fc)), (fo2, .inr (1, [.ref co2, .ref ck2, .int z2])), (co2, .inl (cy 0, 48, .inl fc2))] sz) := by
  refine mt (by decide) (Nat.le_of_ble_eq_true rfl) ?_
  intro p e s m below meth c ls hx hb hr hml hts hown hlocks hin hsz hP hE hD hl
  subst hsz
  have hl : lv_has ls 2 [(0, .ref fo), (1, .ref fo2)] := hl
  have hD := hD.self (sz := s.heap.size)
  generalize hAe : va_A [(fo, .inr (1, [.ref co, .ref ck, .int z])), (co, .inl (cy 0, 48, .inl fc)), (fo2, .inr (1, [.ref co2, .ref ck2, .int z2])), (co2, .inl (cy 0, 48, .inl fc2))] s.heap.size = A at hD ⊢
  have hA : ∀ q : Nat, s.heap.size ≤ q → A q := fun q h => by rw [← hAe]; exact Or.inr h
  have hS : va_S A s.heap s.heap [] := va_S.rf
  refine lv_aload_n hx hb dX1_takeFrom_0 rfl (lv_at hl 0 rfl) ?_
  refine lv_aload_n hx hb dX1_takeFrom_1 rfl (lv_at hl 1 rfl) ?_
  refine va_get (D := G) (ci := 1) (v := .int z2) (C := RX1) (T := TX1) (N := 3) hx hb hts inB1 hown hE.1 hP 2 rfl rfl 2 (by decide) (hts _ m_162) (fun _ h9 => h9) rfl dX1_takeFrom_2 ?_
  refine va_put (D := G) (ci := 1) (v := .int z2) (ty := .int) (C := RX1) (T := TX1) (N := 3) hx hb hts inB1 tyX1 tyX1_ok nmX1 hown hE.1 hP hD hS 0 rfl rfl 2 (by decide) (hts _ m_162) (fun _ h9 => h9) rfl (by decide +kernel) rfl rfl (Nat.le_of_ble_eq_true rfl) dX1_takeFrom_5 (fun H locs hP hD hS => ?_)
  have hP : va_P G classes [(fo, .inr (1, [.ref co, .ref ck, .int z2])), (co, .inl (cy 0, 48, .inl fc)), (fo2, .inr (1, [.ref co2, .ref ck2, .int z2])), (co2, .inl (cy 0, 48, .inl fc2))] H := hP
  have hD : va_D A [(fo, .inr (1, [.ref co, .ref ck, .int z2])), (co, .inl (cy 0, 48, .inl fc)), (fo2, .inr (1, [.ref co2, .ref ck2, .int z2])), (co2, .inl (cy 0, 48, .inl fc2))] := hD
  refine lv_aload_n hx hb dX1_takeFrom_8 rfl (lv_at hl 1 rfl) ?_
  refine va_get (D := G) (ci := 1) (v := .ref co2) (C := RX1) (T := TX1) (N := 3) hx hb hts inB1 hown hE.1 hP 2 rfl rfl 0 (by decide) (hts _ m_160) (fun _ h9 => h9) rfl dX1_takeFrom_9 ?_
  refine lv_iconst (v := 0) hx hb dX1_takeFrom_12 (by decide) ?_
  refine lv_aload_n hx hb dX1_takeFrom_13 rfl (lv_at hl 0 rfl) ?_
  refine va_get (D := G) (ci := 1) (v := .ref co) (C := RX1) (T := TX1) (N := 3) hx hb hts inB1 hown hE.1 hP 0 rfl rfl 0 (by decide) (hts _ m_160) (fun _ h9 => h9) rfl dX1_takeFrom_14 ?_
  refine lv_iconst (v := 0) hx hb dX1_takeFrom_17 (by decide) ?_
  refine lv_bipush (v := 48) hx hb dX1_takeFrom_18 (by decide) ?_
  refine va_copyi (ty := .int) hx hb (hml.trans hl.1.symm) hown (hts _ m_828) (hts _ m_830) (hts _ m_829) (hts _ m_98) hE.1 hP hD hS 3 1 0 0 rfl rfl rfl rfl rfl (by decide) (by decide) (by decide) (by decide) (by decide) (fun _ _ => rfl) (Nat.le_of_ble_eq_true rfl) (Nat.le_of_ble_eq_true rfl) dX1_takeFrom_20 (fun H locs hP hD hS => ?_)
  have hP : va_P G classes [(fo, .inr (1, [.ref co, .ref ck, .int z2])), (co, .inl (cy 0, 48, .inl (va_cpy fc2 fc 0 0 48))), (fo2, .inr (1, [.ref co2, .ref ck2, .int z2])), (co2, .inl (cy 0, 48, .inl fc2))] H := hP
  have hD : va_D A [(fo, .inr (1, [.ref co, .ref ck, .int z2])), (co, .inl (cy 0, 48, .inl (va_cpy fc2 fc 0 0 48))), (fo2, .inr (1, [.ref co2, .ref ck2, .int z2])), (co2, .inl (cy 0, 48, .inl fc2))] := hD
  obtain ⟨xf1, hP, hD⟩ : ∃ xf1, va_P G classes [(fo, .inr (1, [.ref co, .ref ck, .int z2])), (co, .inl (cy 0, 48, .inl xf1)), (fo2, .inr (1, [.ref co2, .ref ck2, .int z2])), (co2, .inl (cy 0, 48, .inl fc2))] H ∧ va_D A [(fo, .inr (1, [.ref co, .ref ck, .int z2])), (co, .inl (cy 0, 48, .inl xf1)), (fo2, .inr (1, [.ref co2, .ref ck2, .int z2])), (co2, .inl (cy 0, 48, .inl fc2))] := ⟨_, hP, hD⟩
  refine W.widen (k := 0) (n := 0) (by first | exact Nat.le_of_ble_eq_true rfl | omega) (by first | exact Nat.le_of_ble_eq_true rfl | omega) ?_
  exact W.vret hx hb hr (fun t ht hW => ⟨⟨(), rfl, trivial, trivial⟩, hS.F ht⟩) hS.2.2 dX1_takeFrom_23
def B_c_X7_init (G : va_G) (cy : Nat → ClassId) (A : Nat → Prop) (h0 : Nat) (H : Heap) : Prop := ∃ (oc : Nat) (ki : Nat) (ce : Nat) (si : Nat) (sp : Nat) (foc : Nat → Int32), (∀ j, j < 192 → foc j = (-1)) ∧ va_P G classes [(h0, .inr (7, [.ref oc, .ref ki, .ref ce, .ref si, .ref sp, .int 0])), (oc, .inl (cy 0, 192, .inl foc)), (ki, .inl (cy 0, 40, .inl (fun _ => 0))), (ce, .inl (cy 0, 40, .inl (fun _ => 0))), (si, .inl (cy 0, 40, .inl (fun _ => 0))), (sp, .inl (cy 0, 40, .inl (fun _ => 0)))] H ∧ va_D A [(h0, .inr (7, [.ref oc, .ref ki, .ref ce, .ref si, .ref sp, .int 0])), (oc, .inl (cy 0, 192, .inl foc)), (ki, .inl (cy 0, 40, .inl (fun _ => 0))), (ce, .inl (cy 0, 40, .inl (fun _ => 0))), (si, .inl (cy 0, 40, .inl (fun _ => 0))), (sp, .inl (cy 0, 40, .inl (fun _ => 0)))]
set_option maxHeartbeats 4000000 in
set_option maxRecDepth 100000 in
theorem c_X7_init (l : Launch) (G : va_G) (cy : Nat → ClassId) (sk : Nat → Nat) (sz : Nat) (h0 : Nat)  : Met l yX7_init (wsO yX7_init cX7_init 2 none) ({ frames := 1, cells := 5, slots := 352, locals := 12 }) (va_Pc [.ref h0] (PR G cy sk sz [(h0, .inr (7, [.null, .null, .null, .null, .null, .int 0]))])) (va_Qv (fun (_ : Unit) => True) (fun _ t => B_c_X7_init G cy (va_A [(h0, .inr (7, [.null, .null, .null, .null, .null, .int 0]))] sz) h0 t.heap) (va_A [(h0, .inr (7, [.null, .null, .null, .null, .null, .int 0]))] sz)) 5 352 (va_A [(h0, .inr (7, [.null, .null, .null, .null, .null, .int 0]))] sz) := by
  refine mt (by decide) (Nat.le_of_ble_eq_true rfl) ?_
  intro p e s m below meth c ls hx hb hr hml hts hown hlocks hin hsz hP hE hD hl
  subst hsz
  have hl : lv_has ls 2 [(0, .ref h0)] := hl
  have hD := hD.self (sz := s.heap.size)
  generalize hAe : va_A [(h0, .inr (7, [.null, .null, .null, .null, .null, .int 0]))] s.heap.size = A at hD ⊢
  have hA : ∀ q : Nat, s.heap.size ≤ q → A q := fun q h => by rw [← hAe]; exact Or.inr h
  have hS : va_S A s.heap s.heap [] := va_S.rf
  refine lv_aload_n hx hb dX7_init_0 rfl (lv_at hl 0 rfl) ?_
  refine W.objInit hx hb hown (hts _ m_120) (hts _ m_107) (hts _ m_108) rfl (by rw [hml]; exact hl.1) rfl dX7_init_1 (Nat.le_of_ble_eq_true rfl) (Nat.le_of_ble_eq_true rfl) ?_
  refine W.eq (g2 := F0 m 4 ls []) rfl ?_
  refine lv_aload_n hx hb dX7_init_4 rfl (lv_at hl 0 rfl) ?_
  refine lv_sipush (v := 192) hx hb dX7_init_5 (by decide) ?_
  refine nwI (n := 192) (N := 192) hx hb hts m_146 hE hP hD hS hA (by decide) (by decide) (Nat.le_of_ble_eq_true rfl) (Nat.le_of_ble_eq_true rfl) (Nat.le_of_ble_eq_true rfl) dX7_init_8 (fun nq1 H hP hD hS => ?_)
  have hP : va_P G classes [(h0, .inr (7, [.null, .null, .null, .null, .null, .int 0])), (nq1, .inl (cy 0, 192, .inl (fun _ => 0)))] H := hP
  have hD : va_D A [(h0, .inr (7, [.null, .null, .null, .null, .null, .int 0])), (nq1, .inl (cy 0, 192, .inl (fun _ => 0)))] := hD
  refine va_putF (D := G) (ci := 7) (v := .ref nq1) (ty := (.array .int)) (C := RX7) (T := TX7) (N := 6) hx hb hts inB7 tyX7 tyX7_ok nmX7 hown hE.1 hP hD hS 0 rfl rfl 0 (by decide) (hts _ m_121) (fun _ h9 => h9) rfl hin rfl (by decide +kernel) rfl rfl (Nat.le_of_ble_eq_true rfl) dX7_init_10 (fun H locs hP hD hS => ?_)
  have hP : va_P G classes [(h0, .inr (7, [.ref nq1, .null, .null, .null, .null, .int 0])), (nq1, .inl (cy 0, 192, .inl (fun _ => 0)))] H := hP
  have hD : va_D A [(h0, .inr (7, [.ref nq1, .null, .null, .null, .null, .int 0])), (nq1, .inl (cy 0, 192, .inl (fun _ => 0)))] := hD
  refine lv_aload_n hx hb dX7_init_13 rfl (lv_at hl 0 rfl) ?_
  refine lv_bipush (v := 40) hx hb dX7_init_14 (by decide) ?_
  refine nwI (n := 40) (N := 40) hx hb hts m_146 hE hP hD hS hA (by decide) (by decide) (Nat.le_of_ble_eq_true rfl) (Nat.le_of_ble_eq_true rfl) (Nat.le_of_ble_eq_true rfl) dX7_init_16 (fun nq2 H hP hD hS => ?_)
  have hP : va_P G classes [(h0, .inr (7, [.ref nq1, .null, .null, .null, .null, .int 0])), (nq1, .inl (cy 0, 192, .inl (fun _ => 0))), (nq2, .inl (cy 0, 40, .inl (fun _ => 0)))] H := hP
  have hD : va_D A [(h0, .inr (7, [.ref nq1, .null, .null, .null, .null, .int 0])), (nq1, .inl (cy 0, 192, .inl (fun _ => 0))), (nq2, .inl (cy 0, 40, .inl (fun _ => 0)))] := hD
  refine va_putF (D := G) (ci := 7) (v := .ref nq2) (ty := (.array .int)) (C := RX7) (T := TX7) (N := 6) hx hb hts inB7 tyX7 tyX7_ok nmX7 hown hE.1 hP hD hS 0 rfl rfl 1 (by decide) (hts _ m_124) (fun _ h9 => h9) rfl hin rfl (by decide +kernel) rfl rfl (Nat.le_of_ble_eq_true rfl) dX7_init_18 (fun H locs hP hD hS => ?_)
  have hP : va_P G classes [(h0, .inr (7, [.ref nq1, .ref nq2, .null, .null, .null, .int 0])), (nq1, .inl (cy 0, 192, .inl (fun _ => 0))), (nq2, .inl (cy 0, 40, .inl (fun _ => 0)))] H := hP
  have hD : va_D A [(h0, .inr (7, [.ref nq1, .ref nq2, .null, .null, .null, .int 0])), (nq1, .inl (cy 0, 192, .inl (fun _ => 0))), (nq2, .inl (cy 0, 40, .inl (fun _ => 0)))] := hD
  refine lv_aload_n hx hb dX7_init_21 rfl (lv_at hl 0 rfl) ?_
  refine lv_bipush (v := 40) hx hb dX7_init_22 (by decide) ?_
  refine nwI (n := 40) (N := 40) hx hb hts m_146 hE hP hD hS hA (by decide) (by decide) (Nat.le_of_ble_eq_true rfl) (Nat.le_of_ble_eq_true rfl) (Nat.le_of_ble_eq_true rfl) dX7_init_24 (fun nq3 H hP hD hS => ?_)
  have hP : va_P G classes [(h0, .inr (7, [.ref nq1, .ref nq2, .null, .null, .null, .int 0])), (nq1, .inl (cy 0, 192, .inl (fun _ => 0))), (nq2, .inl (cy 0, 40, .inl (fun _ => 0))), (nq3, .inl (cy 0, 40, .inl (fun _ => 0)))] H := hP
  have hD : va_D A [(h0, .inr (7, [.ref nq1, .ref nq2, .null, .null, .null, .int 0])), (nq1, .inl (cy 0, 192, .inl (fun _ => 0))), (nq2, .inl (cy 0, 40, .inl (fun _ => 0))), (nq3, .inl (cy 0, 40, .inl (fun _ => 0)))] := hD
  refine va_putF (D := G) (ci := 7) (v := .ref nq3) (ty := (.array .int)) (C := RX7) (T := TX7) (N := 6) hx hb hts inB7 tyX7 tyX7_ok nmX7 hown hE.1 hP hD hS 0 rfl rfl 2 (by decide) (hts _ m_126) (fun _ h9 => h9) rfl hin rfl (by decide +kernel) rfl rfl (Nat.le_of_ble_eq_true rfl) dX7_init_26 (fun H locs hP hD hS => ?_)
  have hP : va_P G classes [(h0, .inr (7, [.ref nq1, .ref nq2, .ref nq3, .null, .null, .int 0])), (nq1, .inl (cy 0, 192, .inl (fun _ => 0))), (nq2, .inl (cy 0, 40, .inl (fun _ => 0))), (nq3, .inl (cy 0, 40, .inl (fun _ => 0)))] H := hP
  have hD : va_D A [(h0, .inr (7, [.ref nq1, .ref nq2, .ref nq3, .null, .null, .int 0])), (nq1, .inl (cy 0, 192, .inl (fun _ => 0))), (nq2, .inl (cy 0, 40, .inl (fun _ => 0))), (nq3, .inl (cy 0, 40, .inl (fun _ => 0)))] := hD
  refine lv_aload_n hx hb dX7_init_29 rfl (lv_at hl 0 rfl) ?_
  refine lv_bipush (v := 40) hx hb dX7_init_30 (by decide) ?_
  refine nwI (n := 40) (N := 40) hx hb hts m_146 hE hP hD hS hA (by decide) (by decide) (Nat.le_of_ble_eq_true rfl) (Nat.le_of_ble_eq_true rfl) (Nat.le_of_ble_eq_true rfl) dX7_init_32 (fun nq4 H hP hD hS => ?_)
  have hP : va_P G classes [(h0, .inr (7, [.ref nq1, .ref nq2, .ref nq3, .null, .null, .int 0])), (nq1, .inl (cy 0, 192, .inl (fun _ => 0))), (nq2, .inl (cy 0, 40, .inl (fun _ => 0))), (nq3, .inl (cy 0, 40, .inl (fun _ => 0))), (nq4, .inl (cy 0, 40, .inl (fun _ => 0)))] H := hP
  have hD : va_D A [(h0, .inr (7, [.ref nq1, .ref nq2, .ref nq3, .null, .null, .int 0])), (nq1, .inl (cy 0, 192, .inl (fun _ => 0))), (nq2, .inl (cy 0, 40, .inl (fun _ => 0))), (nq3, .inl (cy 0, 40, .inl (fun _ => 0))), (nq4, .inl (cy 0, 40, .inl (fun _ => 0)))] := hD
  refine va_putF (D := G) (ci := 7) (v := .ref nq4) (ty := (.array .int)) (C := RX7) (T := TX7) (N := 6) hx hb hts inB7 tyX7 tyX7_ok nmX7 hown hE.1 hP hD hS 0 rfl rfl 3 (by decide) (hts _ m_128) (fun _ h9 => h9) rfl hin rfl (by decide +kernel) rfl rfl (Nat.le_of_ble_eq_true rfl) dX7_init_34 (fun H locs hP hD hS => ?_)
  have hP : va_P G classes [(h0, .inr (7, [.ref nq1, .ref nq2, .ref nq3, .ref nq4, .null, .int 0])), (nq1, .inl (cy 0, 192, .inl (fun _ => 0))), (nq2, .inl (cy 0, 40, .inl (fun _ => 0))), (nq3, .inl (cy 0, 40, .inl (fun _ => 0))), (nq4, .inl (cy 0, 40, .inl (fun _ => 0)))] H := hP
  have hD : va_D A [(h0, .inr (7, [.ref nq1, .ref nq2, .ref nq3, .ref nq4, .null, .int 0])), (nq1, .inl (cy 0, 192, .inl (fun _ => 0))), (nq2, .inl (cy 0, 40, .inl (fun _ => 0))), (nq3, .inl (cy 0, 40, .inl (fun _ => 0))), (nq4, .inl (cy 0, 40, .inl (fun _ => 0)))] := hD
  refine lv_aload_n hx hb dX7_init_37 rfl (lv_at hl 0 rfl) ?_
  refine lv_bipush (v := 40) hx hb dX7_init_38 (by decide) ?_
  refine nwI (n := 40) (N := 40) hx hb hts m_146 hE hP hD hS hA (by decide) (by decide) (Nat.le_of_ble_eq_true rfl) (Nat.le_of_ble_eq_true rfl) (Nat.le_of_ble_eq_true rfl) dX7_init_40 (fun nq5 H hP hD hS => ?_)
  have hP : va_P G classes [(h0, .inr (7, [.ref nq1, .ref nq2, .ref nq3, .ref nq4, .null, .int 0])), (nq1, .inl (cy 0, 192, .inl (fun _ => 0))), (nq2, .inl (cy 0, 40, .inl (fun _ => 0))), (nq3, .inl (cy 0, 40, .inl (fun _ => 0))), (nq4, .inl (cy 0, 40, .inl (fun _ => 0))), (nq5, .inl (cy 0, 40, .inl (fun _ => 0)))] H := hP
  have hD : va_D A [(h0, .inr (7, [.ref nq1, .ref nq2, .ref nq3, .ref nq4, .null, .int 0])), (nq1, .inl (cy 0, 192, .inl (fun _ => 0))), (nq2, .inl (cy 0, 40, .inl (fun _ => 0))), (nq3, .inl (cy 0, 40, .inl (fun _ => 0))), (nq4, .inl (cy 0, 40, .inl (fun _ => 0))), (nq5, .inl (cy 0, 40, .inl (fun _ => 0)))] := hD
  refine va_putF (D := G) (ci := 7) (v := .ref nq5) (ty := (.array .int)) (C := RX7) (T := TX7) (N := 6) hx hb hts inB7 tyX7 tyX7_ok nmX7 hown hE.1 hP hD hS 0 rfl rfl 4 (by decide) (hts _ m_130) (fun _ h9 => h9) rfl hin rfl (by decide +kernel) rfl rfl (Nat.le_of_ble_eq_true rfl) dX7_init_42 (fun H locs hP hD hS => ?_)
  have hP : va_P G classes [(h0, .inr (7, [.ref nq1, .ref nq2, .ref nq3, .ref nq4, .ref nq5, .int 0])), (nq1, .inl (cy 0, 192, .inl (fun _ => 0))), (nq2, .inl (cy 0, 40, .inl (fun _ => 0))), (nq3, .inl (cy 0, 40, .inl (fun _ => 0))), (nq4, .inl (cy 0, 40, .inl (fun _ => 0))), (nq5, .inl (cy 0, 40, .inl (fun _ => 0)))] H := hP
  have hD : va_D A [(h0, .inr (7, [.ref nq1, .ref nq2, .ref nq3, .ref nq4, .ref nq5, .int 0])), (nq1, .inl (cy 0, 192, .inl (fun _ => 0))), (nq2, .inl (cy 0, 40, .inl (fun _ => 0))), (nq3, .inl (cy 0, 40, .inl (fun _ => 0))), (nq4, .inl (cy 0, 40, .inl (fun _ => 0))), (nq5, .inl (cy 0, 40, .inl (fun _ => 0)))] := hD
  refine lv_aload_n hx hb dX7_init_45 rfl (lv_at hl 0 rfl) ?_
  refine lv_iconst (v := 0) hx hb dX7_init_46 (by decide) ?_
  refine va_put (D := G) (ci := 7) (v := .int 0) (ty := .int) (C := RX7) (T := TX7) (N := 6) hx hb hts inB7 tyX7 tyX7_ok nmX7 hown hE.1 hP hD hS 0 rfl rfl 5 (by decide) (hts _ m_132) (fun _ h9 => h9) rfl (by decide +kernel) rfl rfl (Nat.le_of_ble_eq_true rfl) dX7_init_47 (fun H locs hP hD hS => ?_)
  have hP : va_P G classes [(h0, .inr (7, [.ref nq1, .ref nq2, .ref nq3, .ref nq4, .ref nq5, .int 0])), (nq1, .inl (cy 0, 192, .inl (fun _ => 0))), (nq2, .inl (cy 0, 40, .inl (fun _ => 0))), (nq3, .inl (cy 0, 40, .inl (fun _ => 0))), (nq4, .inl (cy 0, 40, .inl (fun _ => 0))), (nq5, .inl (cy 0, 40, .inl (fun _ => 0)))] H := hP
  have hD : va_D A [(h0, .inr (7, [.ref nq1, .ref nq2, .ref nq3, .ref nq4, .ref nq5, .int 0])), (nq1, .inl (cy 0, 192, .inl (fun _ => 0))), (nq2, .inl (cy 0, 40, .inl (fun _ => 0))), (nq3, .inl (cy 0, 40, .inl (fun _ => 0))), (nq4, .inl (cy 0, 40, .inl (fun _ => 0))), (nq5, .inl (cy 0, 40, .inl (fun _ => 0)))] := hD
  refine lv_iconst (v := 0) hx hb dX7_init_50 (by decide) ?_
  refine lv_istore_n (lv' := [(1, .int 0), (0, .ref h0)]) hx hb dX7_init_51 rfl hl (by decide) rfl (fun ls hl => ?_)
  have lp : ∀ (nn i : Nat), i ≤ 192 → 192 + 1 ≤ i + nn → ∀ (g : Nat → Int32), (∀ j, j < i → g j = (-1)) → ∀ (H : Heap) (locs : List Loc), va_P G classes [(h0, .inr (7, [.ref nq1, .ref nq2, .ref nq3, .ref nq4, .ref nq5, .int 0])), (nq1, .inl (cy 0, 192, .inl g)), (nq2, .inl (cy 0, 40, .inl (fun _ => 0))), (nq3, .inl (cy 0, 40, .inl (fun _ => 0))), (nq4, .inl (cy 0, 40, .inl (fun _ => 0))), (nq5, .inl (cy 0, 40, .inl (fun _ => 0)))] H → va_D A [(h0, .inr (7, [.ref nq1, .ref nq2, .ref nq3, .ref nq4, .ref nq5, .int 0])), (nq1, .inl (cy 0, 192, .inl g)), (nq2, .inl (cy 0, 40, .inl (fun _ => 0))), (nq3, .inl (cy 0, 40, .inl (fun _ => 0))), (nq4, .inl (cy 0, 40, .inl (fun _ => 0))), (nq5, .inl (cy 0, 40, .inl (fun _ => 0)))] → va_S A s.heap H locs → ∀ (ls : Array Slot), lv_has ls 2 [(1, .int (nI i)), (0, .ref h0)] → W p l e (headSpec (wsO yX7_init cX7_init 2 none) ({ frames := 1, cells := 5, slots := 352, locals := 12 })).room s m [.ref h0].toArray below meth c H locs 5 352 (MQ below (va_Qv (fun (_ : Unit) => True) (fun _ t => B_c_X7_init G cy A h0 t.heap) A) [.ref h0].toArray s 5 352 A) (F0 m 52 ls []) := by
    intro nn
    induction nn with
    | zero => intro i h1 h2; exact absurd h2 (by omega)
    | succ nn ih =>
      intro i hi hin0 g hv0 H locs hP hD hS ls hl
      rcases Nat.lt_or_ge i 192 with hlt | hge
      · refine lv_iload_n hx hb dX7_init_52 rfl (lv_at hl 0 rfl) ?_
        refine lv_sipush (v := 192) hx hb dX7_init_53 (by decide) ?_
        refine lv_icmp_ge (tgt := 72) hx hb dX7_init_56 (by decide) (fun h9 => absurd h9 (nI_ge hlt (by decide))) (fun _ => ?_)
        refine lv_aload_n hx hb dX7_init_59 rfl (lv_at hl 1 rfl) ?_
        refine va_get (D := G) (ci := 7) (v := .ref nq1) (C := RX7) (T := TX7) (N := 6) hx hb hts inB7 hown hE.1 hP 0 rfl rfl 0 (by decide) (hts _ m_121) (fun _ h9 => h9) rfl dX7_init_60 ?_
        refine lv_iload_n hx hb dX7_init_63 rfl (lv_at hl 0 rfl) ?_
        refine lv_iconst (v := (-1)) hx hb dX7_init_64 (by decide) ?_
        refine va_iast hx hb hE.1 hP hD hS 1 0 rfl rfl (vp_in_nI hlt (by decide)) dX7_init_65 (fun H locs hP hD hS => ?_)
        have hP : va_P G classes [(h0, .inr (7, [.ref nq1, .ref nq2, .ref nq3, .ref nq4, .ref nq5, .int 0])), (nq1, .inl (cy 0, 192, .inl (upd g ((nI i)).toNatClampNeg (-1)))), (nq2, .inl (cy 0, 40, .inl (fun _ => 0))), (nq3, .inl (cy 0, 40, .inl (fun _ => 0))), (nq4, .inl (cy 0, 40, .inl (fun _ => 0))), (nq5, .inl (cy 0, 40, .inl (fun _ => 0)))] H := hP
        have hD : va_D A [(h0, .inr (7, [.ref nq1, .ref nq2, .ref nq3, .ref nq4, .ref nq5, .int 0])), (nq1, .inl (cy 0, 192, .inl (upd g ((nI i)).toNatClampNeg (-1)))), (nq2, .inl (cy 0, 40, .inl (fun _ => 0))), (nq3, .inl (cy 0, 40, .inl (fun _ => 0))), (nq4, .inl (cy 0, 40, .inl (fun _ => 0))), (nq5, .inl (cy 0, 40, .inl (fun _ => 0)))] := hD
        refine lv_iinc (v := (nI (i + 1))) (lv' := [(1, .int (nI (i + 1))), (0, .ref h0)]) hx hb dX7_init_66 hl (k := 0) rfl (nI_1 (i)) (by decide) rfl (fun ls hl => ?_)
        refine lv_goto (tgt := 52) hx hb dX7_init_69 (by decide) ?_
        exact ih (i + 1) hlt (by omega) _ (upd_all (by omega) hv0) _ _ hP hD hS ls (lv_sub hl [0, 1] rfl)
      · have hie : i = 192 := Nat.le_antisymm hi hge
        subst hie
        refine lv_iload_n hx hb dX7_init_52 rfl (lv_at hl 0 rfl) ?_
        refine lv_sipush (v := 192) hx hb dX7_init_53 (by decide) ?_
        refine lv_icmp_ge (tgt := 72) hx hb dX7_init_56 (by decide) (fun _ => ?_) (fun h9 => absurd (Int32.le_refl _) h9)
        have hP9 := P_cut (wc := [(h0, .inr (7, [.ref nq1, .ref nq2, .ref nq3, .ref nq4, .ref nq5, .int 0])), (nq1, .inl (cy 0, 192, .inl g)), (nq2, .inl (cy 0, 40, .inl (fun _ => 0))), (nq3, .inl (cy 0, 40, .inl (fun _ => 0))), (nq4, .inl (cy 0, 40, .inl (fun _ => 0))), (nq5, .inl (cy 0, 40, .inl (fun _ => 0)))]) hP [0, 1, 2, 3, 4, 5] rfl
        have hD9 := hD.sub (ws' := [(h0, .inr (7, [.ref nq1, .ref nq2, .ref nq3, .ref nq4, .ref nq5, .int 0])), (nq1, .inl (cy 0, 192, .inl g)), (nq2, .inl (cy 0, 40, .inl (fun _ => 0))), (nq3, .inl (cy 0, 40, .inl (fun _ => 0))), (nq4, .inl (cy 0, 40, .inl (fun _ => 0))), (nq5, .inl (cy 0, 40, .inl (fun _ => 0)))]) [0, 1, 2, 3, 4, 5] (by decide) rfl
        refine W.widen (k := 5) (n := 352) (by first | exact Nat.le_of_ble_eq_true rfl | omega) (by first | exact Nat.le_of_ble_eq_true rfl | omega) ?_
        exact W.vret hx hb hr (fun t ht hW => ⟨⟨(), rfl, trivial, by dsimp only; rw [ht]; exact ⟨nq1, nq2, nq3, nq4, nq5, g, hv0, hP9, hD9⟩⟩, hS.F ht⟩) hS.2.2 dX7_init_72
  exact lp (192 + 1) 0 (Nat.zero_le _) (by omega) _ (fun j h => absurd h (Nat.not_lt_zero _)) _ _ hP hD hS ls (lv_sub hl [0, 1] rfl)
def B_c_X9_init (G : va_G) (cy : Nat → ClassId) (A : Nat → Prop) (h0 : Nat) (H : Heap) : Prop := ∃ (ye : Nat) (no : Nat), va_P G classes [(h0, .inr (9, [.int 0, .int 0, .int 0, .int 5, .int 60, .int 0, .int 0, .int 0, .int 0, .ref ye, .ref no])), (ye, .inl (cy 0, 192, .inl (fun _ => 0))), (no, .inl (cy 0, 192, .inl (fun _ => 0)))] H ∧ va_D A [(h0, .inr (9, [.int 0, .int 0, .int 0, .int 5, .int 60, .int 0, .int 0, .int 0, .int 0, .ref ye, .ref no])), (ye, .inl (cy 0, 192, .inl (fun _ => 0))), (no, .inl (cy 0, 192, .inl (fun _ => 0)))]
set_option maxHeartbeats 4000000 in
set_option maxRecDepth 100000 in
theorem c_X9_init (l : Launch) (G : va_G) (cy : Nat → ClassId) (sk : Nat → Nat) (sz : Nat) (h0 : Nat)  : Met l yX9_init (wsO yX9_init cX9_init 1 none) ({ frames := 1, cells := 2, slots := 384, locals := 12 }) (va_Pc [.ref h0] (PR G cy sk sz [(h0, .inr (9, [.int 0, .int 0, .int 0, .int 0, .int 0, .int 0, .int 0, .int 0, .int 0, .null, .null]))])) (va_Qv (fun (_ : Unit) => True) (fun _ t => B_c_X9_init G cy (va_A [(h0, .inr (9, [.int 0, .int 0, .int 0, .int 0, .int 0, .int 0, .int 0, .int 0, .int 0, .null, .null]))] sz) h0 t.heap) (va_A [(h0, .inr (9, [.int 0, .int 0, .int 0, .int 0, .int 0, .int 0, .int 0, .int 0, .int 0, .null, .null]))] sz)) 2 384 (va_A [(h0, .inr (9, [.int 0, .int 0, .int 0, .int 0, .int 0, .int 0, .int 0, .int 0, .int 0, .null, .null]))] sz) := by
  refine mt (by decide) (Nat.le_of_ble_eq_true rfl) ?_
  intro p e s m below meth c ls hx hb hr hml hts hown hlocks hin hsz hP hE hD hl
  subst hsz
  have hl : lv_has ls 1 [(0, .ref h0)] := hl
  have hD := hD.self (sz := s.heap.size)
  generalize hAe : va_A [(h0, .inr (9, [.int 0, .int 0, .int 0, .int 0, .int 0, .int 0, .int 0, .int 0, .int 0, .null, .null]))] s.heap.size = A at hD ⊢
  have hA : ∀ q : Nat, s.heap.size ≤ q → A q := fun q h => by rw [← hAe]; exact Or.inr h
  have hS : va_S A s.heap s.heap [] := va_S.rf
  refine lv_aload_n hx hb dX9_init_0 rfl (lv_at hl 0 rfl) ?_
  refine W.objInit hx hb hown (hts _ m_257) (hts _ m_107) (hts _ m_108) rfl (by rw [hml]; exact hl.1) rfl dX9_init_1 (Nat.le_of_ble_eq_true rfl) (Nat.le_of_ble_eq_true rfl) ?_
  refine W.eq (g2 := F0 m 4 ls []) rfl ?_
  refine lv_aload_n hx hb dX9_init_4 rfl (lv_at hl 0 rfl) ?_
  refine lv_iconst (v := 0) hx hb dX9_init_5 (by decide) ?_
  refine va_put (D := G) (ci := 9) (v := .int 0) (ty := .int) (C := RX9) (T := TX9) (N := 11) hx hb hts inB9 tyX9 tyX9_ok nmX9 hown hE.1 hP hD hS 0 rfl rfl 0 (by decide) (hts _ m_258) (fun _ h9 => h9) rfl (by decide +kernel) rfl rfl (Nat.le_of_ble_eq_true rfl) dX9_init_6 (fun H locs hP hD hS => ?_)
  have hP : va_P G classes [(h0, .inr (9, [.int 0, .int 0, .int 0, .int 0, .int 0, .int 0, .int 0, .int 0, .int 0, .null, .null]))] H := hP
  have hD : va_D A [(h0, .inr (9, [.int 0, .int 0, .int 0, .int 0, .int 0, .int 0, .int 0, .int 0, .int 0, .null, .null]))] := hD
  refine lv_aload_n hx hb dX9_init_9 rfl (lv_at hl 0 rfl) ?_
  refine lv_iconst (v := 0) hx hb dX9_init_10 (by decide) ?_
  refine va_put (D := G) (ci := 9) (v := .int 0) (ty := .int) (C := RX9) (T := TX9) (N := 11) hx hb hts inB9 tyX9 tyX9_ok nmX9 hown hE.1 hP hD hS 0 rfl rfl 1 (by decide) (hts _ m_260) (fun _ h9 => h9) rfl (by decide +kernel) rfl rfl (Nat.le_of_ble_eq_true rfl) dX9_init_11 (fun H locs hP hD hS => ?_)
  have hP : va_P G classes [(h0, .inr (9, [.int 0, .int 0, .int 0, .int 0, .int 0, .int 0, .int 0, .int 0, .int 0, .null, .null]))] H := hP
  have hD : va_D A [(h0, .inr (9, [.int 0, .int 0, .int 0, .int 0, .int 0, .int 0, .int 0, .int 0, .int 0, .null, .null]))] := hD
  refine lv_aload_n hx hb dX9_init_14 rfl (lv_at hl 0 rfl) ?_
  refine lv_iconst (v := 0) hx hb dX9_init_15 (by decide) ?_
  refine va_put (D := G) (ci := 9) (v := .int 0) (ty := .int) (C := RX9) (T := TX9) (N := 11) hx hb hts inB9 tyX9 tyX9_ok nmX9 hown hE.1 hP hD hS 0 rfl rfl 2 (by decide) (hts _ m_264) (fun _ h9 => h9) rfl (by decide +kernel) rfl rfl (Nat.le_of_ble_eq_true rfl) dX9_init_16 (fun H locs hP hD hS => ?_)
  have hP : va_P G classes [(h0, .inr (9, [.int 0, .int 0, .int 0, .int 0, .int 0, .int 0, .int 0, .int 0, .int 0, .null, .null]))] H := hP
  have hD : va_D A [(h0, .inr (9, [.int 0, .int 0, .int 0, .int 0, .int 0, .int 0, .int 0, .int 0, .int 0, .null, .null]))] := hD
  refine lv_aload_n hx hb dX9_init_19 rfl (lv_at hl 0 rfl) ?_
  refine lv_iconst (v := 5) hx hb dX9_init_20 (by decide) ?_
  refine va_put (D := G) (ci := 9) (v := .int 5) (ty := .int) (C := RX9) (T := TX9) (N := 11) hx hb hts inB9 tyX9 tyX9_ok nmX9 hown hE.1 hP hD hS 0 rfl rfl 3 (by decide) (hts _ m_267) (fun _ h9 => h9) rfl (by decide +kernel) rfl rfl (Nat.le_of_ble_eq_true rfl) dX9_init_21 (fun H locs hP hD hS => ?_)
  have hP : va_P G classes [(h0, .inr (9, [.int 0, .int 0, .int 0, .int 5, .int 0, .int 0, .int 0, .int 0, .int 0, .null, .null]))] H := hP
  have hD : va_D A [(h0, .inr (9, [.int 0, .int 0, .int 0, .int 5, .int 0, .int 0, .int 0, .int 0, .int 0, .null, .null]))] := hD
  refine lv_aload_n hx hb dX9_init_24 rfl (lv_at hl 0 rfl) ?_
  refine lv_bipush (v := 60) hx hb dX9_init_25 (by decide) ?_
  refine va_put (D := G) (ci := 9) (v := .int 60) (ty := .int) (C := RX9) (T := TX9) (N := 11) hx hb hts inB9 tyX9 tyX9_ok nmX9 hown hE.1 hP hD hS 0 rfl rfl 4 (by decide) (hts _ m_270) (fun _ h9 => h9) rfl (by decide +kernel) rfl rfl (Nat.le_of_ble_eq_true rfl) dX9_init_27 (fun H locs hP hD hS => ?_)
  have hP : va_P G classes [(h0, .inr (9, [.int 0, .int 0, .int 0, .int 5, .int 60, .int 0, .int 0, .int 0, .int 0, .null, .null]))] H := hP
  have hD : va_D A [(h0, .inr (9, [.int 0, .int 0, .int 0, .int 5, .int 60, .int 0, .int 0, .int 0, .int 0, .null, .null]))] := hD
  refine lv_aload_n hx hb dX9_init_30 rfl (lv_at hl 0 rfl) ?_
  refine lv_iconst (v := 0) hx hb dX9_init_31 (by decide) ?_
  refine va_put (D := G) (ci := 9) (v := .int 0) (ty := .int) (C := RX9) (T := TX9) (N := 11) hx hb hts inB9 tyX9 tyX9_ok nmX9 hown hE.1 hP hD hS 0 rfl rfl 5 (by decide) (hts _ m_272) (fun _ h9 => h9) rfl (by decide +kernel) rfl rfl (Nat.le_of_ble_eq_true rfl) dX9_init_32 (fun H locs hP hD hS => ?_)
  have hP : va_P G classes [(h0, .inr (9, [.int 0, .int 0, .int 0, .int 5, .int 60, .int 0, .int 0, .int 0, .int 0, .null, .null]))] H := hP
  have hD : va_D A [(h0, .inr (9, [.int 0, .int 0, .int 0, .int 5, .int 60, .int 0, .int 0, .int 0, .int 0, .null, .null]))] := hD
  refine lv_aload_n hx hb dX9_init_35 rfl (lv_at hl 0 rfl) ?_
  refine lv_iconst (v := 0) hx hb dX9_init_36 (by decide) ?_
  refine va_put (D := G) (ci := 9) (v := .int 0) (ty := .boolean) (C := RX9) (T := TX9) (N := 11) hx hb hts inB9 tyX9 tyX9_ok nmX9 hown hE.1 hP hD hS 0 rfl rfl 6 (by decide) (hts _ m_275) (fun _ h9 => h9) rfl (by decide +kernel) rfl rfl (Nat.le_of_ble_eq_true rfl) dX9_init_37 (fun H locs hP hD hS => ?_)
  have hP : va_P G classes [(h0, .inr (9, [.int 0, .int 0, .int 0, .int 5, .int 60, .int 0, .int 0, .int 0, .int 0, .null, .null]))] H := hP
  have hD : va_D A [(h0, .inr (9, [.int 0, .int 0, .int 0, .int 5, .int 60, .int 0, .int 0, .int 0, .int 0, .null, .null]))] := hD
  refine lv_aload_n hx hb dX9_init_40 rfl (lv_at hl 0 rfl) ?_
  refine lv_iconst (v := 0) hx hb dX9_init_41 (by decide) ?_
  refine va_put (D := G) (ci := 9) (v := .int 0) (ty := .int) (C := RX9) (T := TX9) (N := 11) hx hb hts inB9 tyX9 tyX9_ok nmX9 hown hE.1 hP hD hS 0 rfl rfl 7 (by decide) (hts _ m_278) (fun _ h9 => h9) rfl (by decide +kernel) rfl rfl (Nat.le_of_ble_eq_true rfl) dX9_init_42 (fun H locs hP hD hS => ?_)
  have hP : va_P G classes [(h0, .inr (9, [.int 0, .int 0, .int 0, .int 5, .int 60, .int 0, .int 0, .int 0, .int 0, .null, .null]))] H := hP
  have hD : va_D A [(h0, .inr (9, [.int 0, .int 0, .int 0, .int 5, .int 60, .int 0, .int 0, .int 0, .int 0, .null, .null]))] := hD
  refine lv_aload_n hx hb dX9_init_45 rfl (lv_at hl 0 rfl) ?_
  refine lv_iconst (v := 0) hx hb dX9_init_46 (by decide) ?_
  refine va_put (D := G) (ci := 9) (v := .int 0) (ty := .int) (C := RX9) (T := TX9) (N := 11) hx hb hts inB9 tyX9 tyX9_ok nmX9 hown hE.1 hP hD hS 0 rfl rfl 8 (by decide) (hts _ m_280) (fun _ h9 => h9) rfl (by decide +kernel) rfl rfl (Nat.le_of_ble_eq_true rfl) dX9_init_47 (fun H locs hP hD hS => ?_)
  have hP : va_P G classes [(h0, .inr (9, [.int 0, .int 0, .int 0, .int 5, .int 60, .int 0, .int 0, .int 0, .int 0, .null, .null]))] H := hP
  have hD : va_D A [(h0, .inr (9, [.int 0, .int 0, .int 0, .int 5, .int 60, .int 0, .int 0, .int 0, .int 0, .null, .null]))] := hD
  refine lv_aload_n hx hb dX9_init_50 rfl (lv_at hl 0 rfl) ?_
  refine lv_sipush (v := 192) hx hb dX9_init_51 (by decide) ?_
  refine nwI (n := 192) (N := 192) hx hb hts m_146 hE hP hD hS hA (by decide) (by decide) (Nat.le_of_ble_eq_true rfl) (Nat.le_of_ble_eq_true rfl) (Nat.le_of_ble_eq_true rfl) dX9_init_54 (fun nq1 H hP hD hS => ?_)
  have hP : va_P G classes [(h0, .inr (9, [.int 0, .int 0, .int 0, .int 5, .int 60, .int 0, .int 0, .int 0, .int 0, .null, .null])), (nq1, .inl (cy 0, 192, .inl (fun _ => 0)))] H := hP
  have hD : va_D A [(h0, .inr (9, [.int 0, .int 0, .int 0, .int 5, .int 60, .int 0, .int 0, .int 0, .int 0, .null, .null])), (nq1, .inl (cy 0, 192, .inl (fun _ => 0)))] := hD
  refine va_putF (D := G) (ci := 9) (v := .ref nq1) (ty := (.array .int)) (C := RX9) (T := TX9) (N := 11) hx hb hts inB9 tyX9 tyX9_ok nmX9 hown hE.1 hP hD hS 0 rfl rfl 9 (by decide) (hts _ m_282) (fun _ h9 => h9) rfl hin rfl (by decide +kernel) rfl rfl (Nat.le_of_ble_eq_true rfl) dX9_init_56 (fun H locs hP hD hS => ?_)
  have hP : va_P G classes [(h0, .inr (9, [.int 0, .int 0, .int 0, .int 5, .int 60, .int 0, .int 0, .int 0, .int 0, .ref nq1, .null])), (nq1, .inl (cy 0, 192, .inl (fun _ => 0)))] H := hP
  have hD : va_D A [(h0, .inr (9, [.int 0, .int 0, .int 0, .int 5, .int 60, .int 0, .int 0, .int 0, .int 0, .ref nq1, .null])), (nq1, .inl (cy 0, 192, .inl (fun _ => 0)))] := hD
  refine lv_aload_n hx hb dX9_init_59 rfl (lv_at hl 0 rfl) ?_
  refine lv_sipush (v := 192) hx hb dX9_init_60 (by decide) ?_
  refine nwI (n := 192) (N := 192) hx hb hts m_146 hE hP hD hS hA (by decide) (by decide) (Nat.le_of_ble_eq_true rfl) (Nat.le_of_ble_eq_true rfl) (Nat.le_of_ble_eq_true rfl) dX9_init_63 (fun nq2 H hP hD hS => ?_)
  have hP : va_P G classes [(h0, .inr (9, [.int 0, .int 0, .int 0, .int 5, .int 60, .int 0, .int 0, .int 0, .int 0, .ref nq1, .null])), (nq1, .inl (cy 0, 192, .inl (fun _ => 0))), (nq2, .inl (cy 0, 192, .inl (fun _ => 0)))] H := hP
  have hD : va_D A [(h0, .inr (9, [.int 0, .int 0, .int 0, .int 5, .int 60, .int 0, .int 0, .int 0, .int 0, .ref nq1, .null])), (nq1, .inl (cy 0, 192, .inl (fun _ => 0))), (nq2, .inl (cy 0, 192, .inl (fun _ => 0)))] := hD
  refine va_putF (D := G) (ci := 9) (v := .ref nq2) (ty := (.array .int)) (C := RX9) (T := TX9) (N := 11) hx hb hts inB9 tyX9 tyX9_ok nmX9 hown hE.1 hP hD hS 0 rfl rfl 10 (by decide) (hts _ m_284) (fun _ h9 => h9) rfl hin rfl (by decide +kernel) rfl rfl (Nat.le_of_ble_eq_true rfl) dX9_init_65 (fun H locs hP hD hS => ?_)
  have hP : va_P G classes [(h0, .inr (9, [.int 0, .int 0, .int 0, .int 5, .int 60, .int 0, .int 0, .int 0, .int 0, .ref nq1, .ref nq2])), (nq1, .inl (cy 0, 192, .inl (fun _ => 0))), (nq2, .inl (cy 0, 192, .inl (fun _ => 0)))] H := hP
  have hD : va_D A [(h0, .inr (9, [.int 0, .int 0, .int 0, .int 5, .int 60, .int 0, .int 0, .int 0, .int 0, .ref nq1, .ref nq2])), (nq1, .inl (cy 0, 192, .inl (fun _ => 0))), (nq2, .inl (cy 0, 192, .inl (fun _ => 0)))] := hD
  have hP9 := P_cut (wc := [(h0, .inr (9, [.int 0, .int 0, .int 0, .int 5, .int 60, .int 0, .int 0, .int 0, .int 0, .ref nq1, .ref nq2])), (nq1, .inl (cy 0, 192, .inl (fun _ => 0))), (nq2, .inl (cy 0, 192, .inl (fun _ => 0)))]) hP [0, 1, 2] rfl
  have hD9 := hD.sub (ws' := [(h0, .inr (9, [.int 0, .int 0, .int 0, .int 5, .int 60, .int 0, .int 0, .int 0, .int 0, .ref nq1, .ref nq2])), (nq1, .inl (cy 0, 192, .inl (fun _ => 0))), (nq2, .inl (cy 0, 192, .inl (fun _ => 0)))]) [0, 1, 2] (by decide) rfl
  refine W.widen (k := 2) (n := 384) (by first | exact Nat.le_of_ble_eq_true rfl | omega) (by first | exact Nat.le_of_ble_eq_true rfl | omega) ?_
  exact W.vret hx hb hr (fun t ht hW => ⟨⟨(), rfl, trivial, by dsimp only; rw [ht]; exact ⟨nq1, nq2, hP9, hD9⟩⟩, hS.F ht⟩) hS.2.2 dX9_init_68
set_option maxHeartbeats 4000000 in
set_option maxRecDepth 100000 in
theorem c_X9_begin (l : Launch) (G : va_G) (cy : Nat → ClassId) (sk : Nat → Nat) (sz : Nat) (wk : Nat) (ye : Nat) (no : Nat) (fy : Nat → Int32) (fn : Nat → Int32) (a : Int32) (b : Int32) (d : Int32)  : Met l yX9_begin (wsO yX9_begin cX9_begin 5 none) ({ frames := 0, cells := 0, slots := 0, locals := 0 }) (va_Pc [.ref wk, .int a, .int b, .int d] (PR G cy sk sz [(wk, .inr (9, [.int 0, .int 0, .int 0, .int 5, .int 60, .int 0, .int 0, .int 0, .int 0, .ref ye, .ref no])), (ye, .inl (cy 0, 192, .inl fy)), (no, .inl (cy 0, 192, .inl fn))])) (va_Qv (fun (_ : Unit) => True) (fun _ _ => True) (va_A [(wk, .inr (9, [.int 0, .int 0, .int 0, .int 5, .int 60, .int 0, .int 0, .int 0, .int 0, .ref ye, .ref no])), (ye, .inl (cy 0, 192, .inl fy)), (no, .inl (cy 0, 192, .inl fn))] sz)) 0 0 (va_A [(wk, .inr (9, [.int 0, .int 0, .int 0, .int 5, .int 60, .int 0, .int 0, .int 0, .int 0, .ref ye, .ref no])), (ye, .inl (cy 0, 192, .inl fy)), (no, .inl (cy 0, 192, .inl fn))] sz) := by
  refine mt (by decide) (Nat.le_of_ble_eq_true rfl) ?_
  intro p e s m below meth c ls hx hb hr hml hts hown hlocks hin hsz hP hE hD hl
  subst hsz
  have hl : lv_has ls 5 [(0, .ref wk), (1, .int a), (2, .int b), (3, .int d)] := hl
  have hD := hD.self (sz := s.heap.size)
  generalize hAe : va_A [(wk, .inr (9, [.int 0, .int 0, .int 0, .int 5, .int 60, .int 0, .int 0, .int 0, .int 0, .ref ye, .ref no])), (ye, .inl (cy 0, 192, .inl fy)), (no, .inl (cy 0, 192, .inl fn))] s.heap.size = A at hD ⊢
  have hA : ∀ q : Nat, s.heap.size ≤ q → A q := fun q h => by rw [← hAe]; exact Or.inr h
  have hS : va_S A s.heap s.heap [] := va_S.rf
  refine lv_aload_n hx hb dX9_begin_0 rfl (lv_at hl 0 rfl) ?_
  refine lv_iload_n hx hb dX9_begin_1 rfl (lv_at hl 1 rfl) ?_
  refine va_put (D := G) (ci := 9) (v := .int a) (ty := .int) (C := RX9) (T := TX9) (N := 11) hx hb hts inB9 tyX9 tyX9_ok nmX9 hown hE.1 hP hD hS 0 rfl rfl 0 (by decide) (hts _ m_258) (fun _ h9 => h9) rfl (by decide +kernel) rfl rfl (Nat.le_of_ble_eq_true rfl) dX9_begin_2 (fun H locs hP hD hS => ?_)
  have hP : va_P G classes [(wk, .inr (9, [.int a, .int 0, .int 0, .int 5, .int 60, .int 0, .int 0, .int 0, .int 0, .ref ye, .ref no])), (ye, .inl (cy 0, 192, .inl fy)), (no, .inl (cy 0, 192, .inl fn))] H := hP
  have hD : va_D A [(wk, .inr (9, [.int a, .int 0, .int 0, .int 5, .int 60, .int 0, .int 0, .int 0, .int 0, .ref ye, .ref no])), (ye, .inl (cy 0, 192, .inl fy)), (no, .inl (cy 0, 192, .inl fn))] := hD
  refine lv_aload_n hx hb dX9_begin_5 rfl (lv_at hl 0 rfl) ?_
  refine lv_iload_n hx hb dX9_begin_6 rfl (lv_at hl 2 rfl) ?_
  refine va_put (D := G) (ci := 9) (v := .int b) (ty := .int) (C := RX9) (T := TX9) (N := 11) hx hb hts inB9 tyX9 tyX9_ok nmX9 hown hE.1 hP hD hS 0 rfl rfl 1 (by decide) (hts _ m_260) (fun _ h9 => h9) rfl (by decide +kernel) rfl rfl (Nat.le_of_ble_eq_true rfl) dX9_begin_7 (fun H locs hP hD hS => ?_)
  have hP : va_P G classes [(wk, .inr (9, [.int a, .int b, .int 0, .int 5, .int 60, .int 0, .int 0, .int 0, .int 0, .ref ye, .ref no])), (ye, .inl (cy 0, 192, .inl fy)), (no, .inl (cy 0, 192, .inl fn))] H := hP
  have hD : va_D A [(wk, .inr (9, [.int a, .int b, .int 0, .int 5, .int 60, .int 0, .int 0, .int 0, .int 0, .ref ye, .ref no])), (ye, .inl (cy 0, 192, .inl fy)), (no, .inl (cy 0, 192, .inl fn))] := hD
  refine lv_aload_n hx hb dX9_begin_10 rfl (lv_at hl 0 rfl) ?_
  refine lv_iload_n hx hb dX9_begin_11 rfl (lv_at hl 3 rfl) ?_
  refine va_put (D := G) (ci := 9) (v := .int d) (ty := .int) (C := RX9) (T := TX9) (N := 11) hx hb hts inB9 tyX9 tyX9_ok nmX9 hown hE.1 hP hD hS 0 rfl rfl 2 (by decide) (hts _ m_264) (fun _ h9 => h9) rfl (by decide +kernel) rfl rfl (Nat.le_of_ble_eq_true rfl) dX9_begin_12 (fun H locs hP hD hS => ?_)
  have hP : va_P G classes [(wk, .inr (9, [.int a, .int b, .int d, .int 5, .int 60, .int 0, .int 0, .int 0, .int 0, .ref ye, .ref no])), (ye, .inl (cy 0, 192, .inl fy)), (no, .inl (cy 0, 192, .inl fn))] H := hP
  have hD : va_D A [(wk, .inr (9, [.int a, .int b, .int d, .int 5, .int 60, .int 0, .int 0, .int 0, .int 0, .ref ye, .ref no])), (ye, .inl (cy 0, 192, .inl fy)), (no, .inl (cy 0, 192, .inl fn))] := hD
  refine lv_aload_n hx hb dX9_begin_15 rfl (lv_at hl 0 rfl) ?_
  refine lv_iconst (v := 5) hx hb dX9_begin_16 (by decide) ?_
  refine va_put (D := G) (ci := 9) (v := .int 5) (ty := .int) (C := RX9) (T := TX9) (N := 11) hx hb hts inB9 tyX9 tyX9_ok nmX9 hown hE.1 hP hD hS 0 rfl rfl 3 (by decide) (hts _ m_267) (fun _ h9 => h9) rfl (by decide +kernel) rfl rfl (Nat.le_of_ble_eq_true rfl) dX9_begin_17 (fun H locs hP hD hS => ?_)
  have hP : va_P G classes [(wk, .inr (9, [.int a, .int b, .int d, .int 5, .int 60, .int 0, .int 0, .int 0, .int 0, .ref ye, .ref no])), (ye, .inl (cy 0, 192, .inl fy)), (no, .inl (cy 0, 192, .inl fn))] H := hP
  have hD : va_D A [(wk, .inr (9, [.int a, .int b, .int d, .int 5, .int 60, .int 0, .int 0, .int 0, .int 0, .ref ye, .ref no])), (ye, .inl (cy 0, 192, .inl fy)), (no, .inl (cy 0, 192, .inl fn))] := hD
  refine lv_aload_n hx hb dX9_begin_20 rfl (lv_at hl 0 rfl) ?_
  refine lv_bipush (v := 60) hx hb dX9_begin_21 (by decide) ?_
  refine va_put (D := G) (ci := 9) (v := .int 60) (ty := .int) (C := RX9) (T := TX9) (N := 11) hx hb hts inB9 tyX9 tyX9_ok nmX9 hown hE.1 hP hD hS 0 rfl rfl 4 (by decide) (hts _ m_270) (fun _ h9 => h9) rfl (by decide +kernel) rfl rfl (Nat.le_of_ble_eq_true rfl) dX9_begin_23 (fun H locs hP hD hS => ?_)
  have hP : va_P G classes [(wk, .inr (9, [.int a, .int b, .int d, .int 5, .int 60, .int 0, .int 0, .int 0, .int 0, .ref ye, .ref no])), (ye, .inl (cy 0, 192, .inl fy)), (no, .inl (cy 0, 192, .inl fn))] H := hP
  have hD : va_D A [(wk, .inr (9, [.int a, .int b, .int d, .int 5, .int 60, .int 0, .int 0, .int 0, .int 0, .ref ye, .ref no])), (ye, .inl (cy 0, 192, .inl fy)), (no, .inl (cy 0, 192, .inl fn))] := hD
  refine lv_aload_n hx hb dX9_begin_26 rfl (lv_at hl 0 rfl) ?_
  refine lv_iconst (v := 0) hx hb dX9_begin_27 (by decide) ?_
  refine va_put (D := G) (ci := 9) (v := .int 0) (ty := .int) (C := RX9) (T := TX9) (N := 11) hx hb hts inB9 tyX9 tyX9_ok nmX9 hown hE.1 hP hD hS 0 rfl rfl 5 (by decide) (hts _ m_272) (fun _ h9 => h9) rfl (by decide +kernel) rfl rfl (Nat.le_of_ble_eq_true rfl) dX9_begin_28 (fun H locs hP hD hS => ?_)
  have hP : va_P G classes [(wk, .inr (9, [.int a, .int b, .int d, .int 5, .int 60, .int 0, .int 0, .int 0, .int 0, .ref ye, .ref no])), (ye, .inl (cy 0, 192, .inl fy)), (no, .inl (cy 0, 192, .inl fn))] H := hP
  have hD : va_D A [(wk, .inr (9, [.int a, .int b, .int d, .int 5, .int 60, .int 0, .int 0, .int 0, .int 0, .ref ye, .ref no])), (ye, .inl (cy 0, 192, .inl fy)), (no, .inl (cy 0, 192, .inl fn))] := hD
  refine lv_aload_n hx hb dX9_begin_31 rfl (lv_at hl 0 rfl) ?_
  refine lv_iconst (v := 0) hx hb dX9_begin_32 (by decide) ?_
  refine va_put (D := G) (ci := 9) (v := .int 0) (ty := .boolean) (C := RX9) (T := TX9) (N := 11) hx hb hts inB9 tyX9 tyX9_ok nmX9 hown hE.1 hP hD hS 0 rfl rfl 6 (by decide) (hts _ m_275) (fun _ h9 => h9) rfl (by decide +kernel) rfl rfl (Nat.le_of_ble_eq_true rfl) dX9_begin_33 (fun H locs hP hD hS => ?_)
  have hP : va_P G classes [(wk, .inr (9, [.int a, .int b, .int d, .int 5, .int 60, .int 0, .int 0, .int 0, .int 0, .ref ye, .ref no])), (ye, .inl (cy 0, 192, .inl fy)), (no, .inl (cy 0, 192, .inl fn))] H := hP
  have hD : va_D A [(wk, .inr (9, [.int a, .int b, .int d, .int 5, .int 60, .int 0, .int 0, .int 0, .int 0, .ref ye, .ref no])), (ye, .inl (cy 0, 192, .inl fy)), (no, .inl (cy 0, 192, .inl fn))] := hD
  refine lv_aload_n hx hb dX9_begin_36 rfl (lv_at hl 0 rfl) ?_
  refine lv_iconst (v := 0) hx hb dX9_begin_37 (by decide) ?_
  refine va_put (D := G) (ci := 9) (v := .int 0) (ty := .int) (C := RX9) (T := TX9) (N := 11) hx hb hts inB9 tyX9 tyX9_ok nmX9 hown hE.1 hP hD hS 0 rfl rfl 7 (by decide) (hts _ m_278) (fun _ h9 => h9) rfl (by decide +kernel) rfl rfl (Nat.le_of_ble_eq_true rfl) dX9_begin_38 (fun H locs hP hD hS => ?_)
  have hP : va_P G classes [(wk, .inr (9, [.int a, .int b, .int d, .int 5, .int 60, .int 0, .int 0, .int 0, .int 0, .ref ye, .ref no])), (ye, .inl (cy 0, 192, .inl fy)), (no, .inl (cy 0, 192, .inl fn))] H := hP
  have hD : va_D A [(wk, .inr (9, [.int a, .int b, .int d, .int 5, .int 60, .int 0, .int 0, .int 0, .int 0, .ref ye, .ref no])), (ye, .inl (cy 0, 192, .inl fy)), (no, .inl (cy 0, 192, .inl fn))] := hD
  refine lv_aload_n hx hb dX9_begin_41 rfl (lv_at hl 0 rfl) ?_
  refine lv_iconst (v := 0) hx hb dX9_begin_42 (by decide) ?_
  refine va_put (D := G) (ci := 9) (v := .int 0) (ty := .int) (C := RX9) (T := TX9) (N := 11) hx hb hts inB9 tyX9 tyX9_ok nmX9 hown hE.1 hP hD hS 0 rfl rfl 8 (by decide) (hts _ m_280) (fun _ h9 => h9) rfl (by decide +kernel) rfl rfl (Nat.le_of_ble_eq_true rfl) dX9_begin_43 (fun H locs hP hD hS => ?_)
  have hP : va_P G classes [(wk, .inr (9, [.int a, .int b, .int d, .int 5, .int 60, .int 0, .int 0, .int 0, .int 0, .ref ye, .ref no])), (ye, .inl (cy 0, 192, .inl fy)), (no, .inl (cy 0, 192, .inl fn))] H := hP
  have hD : va_D A [(wk, .inr (9, [.int a, .int b, .int d, .int 5, .int 60, .int 0, .int 0, .int 0, .int 0, .ref ye, .ref no])), (ye, .inl (cy 0, 192, .inl fy)), (no, .inl (cy 0, 192, .inl fn))] := hD
  refine lv_iconst (v := 0) hx hb dX9_begin_46 (by decide) ?_
  refine lv_istore (lv' := [(4, .int 0), (0, .ref wk), (1, .int a), (2, .int b), (3, .int d)]) hx hb dX9_begin_47 hl (by decide) rfl (fun ls hl => ?_)
  have lp : ∀ (nn i : Nat), i ≤ 192 → 192 + 1 ≤ i + nn → ∀ (gy : Nat → Int32), ∀ (gn : Nat → Int32), ∀ (H : Heap) (locs : List Loc), va_P G classes [(wk, .inr (9, [.int a, .int b, .int d, .int 5, .int 60, .int 0, .int 0, .int 0, .int 0, .ref ye, .ref no])), (ye, .inl (cy 0, 192, .inl gy)), (no, .inl (cy 0, 192, .inl gn))] H → va_D A [(wk, .inr (9, [.int a, .int b, .int d, .int 5, .int 60, .int 0, .int 0, .int 0, .int 0, .ref ye, .ref no])), (ye, .inl (cy 0, 192, .inl gy)), (no, .inl (cy 0, 192, .inl gn))] → va_S A s.heap H locs → ∀ (ls : Array Slot), lv_has ls 5 [(4, .int (nI i)), (0, .ref wk), (1, .int a), (2, .int b), (3, .int d)] → W p l e (headSpec (wsO yX9_begin cX9_begin 5 none) ({ frames := 0, cells := 0, slots := 0, locals := 0 })).room s m [.ref wk, .int a, .int b, .int d].toArray below meth c H locs 0 0 (MQ below (va_Qv (fun (_ : Unit) => True) (fun _ _ => True) A) [.ref wk, .int a, .int b, .int d].toArray s 0 0 A) (F0 m 49 ls []) := by
    intro nn
    induction nn with
    | zero => intro i h1 h2; exact absurd h2 (by omega)
    | succ nn ih =>
      intro i hi hin0 gy gn H locs hP hD hS ls hl
      rcases Nat.lt_or_ge i 192 with hlt | hge
      · refine lv_iload hx hb dX9_begin_49 (lv_at hl 0 rfl) ?_
        refine lv_sipush (v := 192) hx hb dX9_begin_51 (by decide) ?_
        refine lv_icmp_ge (tgt := 79) hx hb dX9_begin_54 (by decide) (fun h9 => absurd h9 (nI_ge hlt (by decide))) (fun _ => ?_)
        refine lv_aload_n hx hb dX9_begin_57 rfl (lv_at hl 1 rfl) ?_
        refine va_get (D := G) (ci := 9) (v := .ref ye) (C := RX9) (T := TX9) (N := 11) hx hb hts inB9 hown hE.1 hP 0 rfl rfl 9 (by decide) (hts _ m_282) (fun _ h9 => h9) rfl dX9_begin_58 ?_
        refine lv_iload hx hb dX9_begin_61 (lv_at hl 0 rfl) ?_
        refine lv_iconst (v := 0) hx hb dX9_begin_63 (by decide) ?_
        refine va_iast hx hb hE.1 hP hD hS 1 0 rfl rfl (vp_in_nI hlt (by decide)) dX9_begin_64 (fun H locs hP hD hS => ?_)
        have hP : va_P G classes [(wk, .inr (9, [.int a, .int b, .int d, .int 5, .int 60, .int 0, .int 0, .int 0, .int 0, .ref ye, .ref no])), (ye, .inl (cy 0, 192, .inl (upd gy ((nI i)).toNatClampNeg 0))), (no, .inl (cy 0, 192, .inl gn))] H := hP
        have hD : va_D A [(wk, .inr (9, [.int a, .int b, .int d, .int 5, .int 60, .int 0, .int 0, .int 0, .int 0, .ref ye, .ref no])), (ye, .inl (cy 0, 192, .inl (upd gy ((nI i)).toNatClampNeg 0))), (no, .inl (cy 0, 192, .inl gn))] := hD
        refine lv_aload_n hx hb dX9_begin_65 rfl (lv_at hl 1 rfl) ?_
        refine va_get (D := G) (ci := 9) (v := .ref no) (C := RX9) (T := TX9) (N := 11) hx hb hts inB9 hown hE.1 hP 0 rfl rfl 10 (by decide) (hts _ m_284) (fun _ h9 => h9) rfl dX9_begin_66 ?_
        refine lv_iload hx hb dX9_begin_69 (lv_at hl 0 rfl) ?_
        refine lv_iconst (v := 0) hx hb dX9_begin_71 (by decide) ?_
        refine va_iast hx hb hE.1 hP hD hS 2 0 rfl rfl (vp_in_nI hlt (by decide)) dX9_begin_72 (fun H locs hP hD hS => ?_)
        have hP : va_P G classes [(wk, .inr (9, [.int a, .int b, .int d, .int 5, .int 60, .int 0, .int 0, .int 0, .int 0, .ref ye, .ref no])), (ye, .inl (cy 0, 192, .inl (upd gy ((nI i)).toNatClampNeg 0))), (no, .inl (cy 0, 192, .inl (upd gn ((nI i)).toNatClampNeg 0)))] H := hP
        have hD : va_D A [(wk, .inr (9, [.int a, .int b, .int d, .int 5, .int 60, .int 0, .int 0, .int 0, .int 0, .ref ye, .ref no])), (ye, .inl (cy 0, 192, .inl (upd gy ((nI i)).toNatClampNeg 0))), (no, .inl (cy 0, 192, .inl (upd gn ((nI i)).toNatClampNeg 0)))] := hD
        refine lv_iinc (v := (nI (i + 1))) (lv' := [(4, .int (nI (i + 1))), (0, .ref wk), (1, .int a), (2, .int b), (3, .int d)]) hx hb dX9_begin_73 hl (k := 0) rfl (nI_1 (i)) (by decide) rfl (fun ls hl => ?_)
        refine lv_goto (tgt := 49) hx hb dX9_begin_76 (by decide) ?_
        exact ih (i + 1) hlt (by omega) _ _ _ _ hP hD hS ls (lv_sub hl [0, 1, 2, 3, 4] rfl)
      · have hie : i = 192 := Nat.le_antisymm hi hge
        subst hie
        refine lv_iload hx hb dX9_begin_49 (lv_at hl 0 rfl) ?_
        refine lv_sipush (v := 192) hx hb dX9_begin_51 (by decide) ?_
        refine lv_icmp_ge (tgt := 79) hx hb dX9_begin_54 (by decide) (fun _ => ?_) (fun h9 => absurd (Int32.le_refl _) h9)
        refine W.widen (k := 0) (n := 0) (by first | exact Nat.le_of_ble_eq_true rfl | omega) (by first | exact Nat.le_of_ble_eq_true rfl | omega) ?_
        exact W.vret hx hb hr (fun t ht hW => ⟨⟨(), rfl, trivial, trivial⟩, hS.F ht⟩) hS.2.2 dX9_begin_79
  exact lp (192 + 1) 0 (Nat.zero_le _) (by omega) _ _ _ _ hP hD hS ls (lv_sub hl [0, 1, 2, 3, 4] rfl)
def B_c_X6_init (G : va_G) (cy : Nat → ClassId) (A : Nat → Prop) (h0 : Nat) (H : Heap) : Prop := ∃ (nu : Nat), va_P G classes [(h0, .inr (6, [.int 0, .int 0, .ref nu])), (nu, .inl (cy 0, 24, .inl (fun _ => 0)))] H ∧ va_D A [(h0, .inr (6, [.int 0, .int 0, .ref nu])), (nu, .inl (cy 0, 24, .inl (fun _ => 0)))]
set_option maxHeartbeats 4000000 in
set_option maxRecDepth 100000 in
theorem c_X6_init (l : Launch) (G : va_G) (cy : Nat → ClassId) (sk : Nat → Nat) (sz : Nat) (h0 : Nat)  : Met l yX6_init (wsO yX6_init cX6_init 1 none) ({ frames := 1, cells := 1, slots := 24, locals := 12 }) (va_Pc [.ref h0] (PR G cy sk sz [(h0, .inr (6, [.int 0, .int 0, .null]))])) (va_Qv (fun (_ : Unit) => True) (fun _ t => B_c_X6_init G cy (va_A [(h0, .inr (6, [.int 0, .int 0, .null]))] sz) h0 t.heap) (va_A [(h0, .inr (6, [.int 0, .int 0, .null]))] sz)) 1 24 (va_A [(h0, .inr (6, [.int 0, .int 0, .null]))] sz) := by
  refine mt (by decide) (Nat.le_of_ble_eq_true rfl) ?_
  intro p e s m below meth c ls hx hb hr hml hts hown hlocks hin hsz hP hE hD hl
  subst hsz
  have hl : lv_has ls 1 [(0, .ref h0)] := hl
  have hD := hD.self (sz := s.heap.size)
  generalize hAe : va_A [(h0, .inr (6, [.int 0, .int 0, .null]))] s.heap.size = A at hD ⊢
  have hA : ∀ q : Nat, s.heap.size ≤ q → A q := fun q h => by rw [← hAe]; exact Or.inr h
  have hS : va_S A s.heap s.heap [] := va_S.rf
  refine lv_aload_n hx hb dX6_init_0 rfl (lv_at hl 0 rfl) ?_
  refine W.objInit hx hb hown (hts _ m_444) (hts _ m_107) (hts _ m_108) rfl (by rw [hml]; exact hl.1) rfl dX6_init_1 (Nat.le_of_ble_eq_true rfl) (Nat.le_of_ble_eq_true rfl) ?_
  refine W.eq (g2 := F0 m 4 ls []) rfl ?_
  refine lv_aload_n hx hb dX6_init_4 rfl (lv_at hl 0 rfl) ?_
  refine lv_iconst (v := 0) hx hb dX6_init_5 (by decide) ?_
  refine va_put (D := G) (ci := 6) (v := .int 0) (ty := .int) (C := RX6) (T := TX6) (N := 3) hx hb hts inB6 tyX6 tyX6_ok nmX6 hown hE.1 hP hD hS 0 rfl rfl 0 (by decide) (hts _ m_445) (fun _ h9 => h9) rfl (by decide +kernel) rfl rfl (Nat.le_of_ble_eq_true rfl) dX6_init_6 (fun H locs hP hD hS => ?_)
  have hP : va_P G classes [(h0, .inr (6, [.int 0, .int 0, .null]))] H := hP
  have hD : va_D A [(h0, .inr (6, [.int 0, .int 0, .null]))] := hD
  refine lv_aload_n hx hb dX6_init_9 rfl (lv_at hl 0 rfl) ?_
  refine lv_iconst (v := 0) hx hb dX6_init_10 (by decide) ?_
  refine va_put (D := G) (ci := 6) (v := .int 0) (ty := .int) (C := RX6) (T := TX6) (N := 3) hx hb hts inB6 tyX6 tyX6_ok nmX6 hown hE.1 hP hD hS 0 rfl rfl 1 (by decide) (hts _ m_447) (fun _ h9 => h9) rfl (by decide +kernel) rfl rfl (Nat.le_of_ble_eq_true rfl) dX6_init_11 (fun H locs hP hD hS => ?_)
  have hP : va_P G classes [(h0, .inr (6, [.int 0, .int 0, .null]))] H := hP
  have hD : va_D A [(h0, .inr (6, [.int 0, .int 0, .null]))] := hD
  refine lv_aload_n hx hb dX6_init_14 rfl (lv_at hl 0 rfl) ?_
  refine lv_bipush (v := 24) hx hb dX6_init_15 (by decide) ?_
  refine nwI (n := 24) (N := 24) hx hb hts m_146 hE hP hD hS hA (by decide) (by decide) (Nat.le_of_ble_eq_true rfl) (Nat.le_of_ble_eq_true rfl) (Nat.le_of_ble_eq_true rfl) dX6_init_17 (fun nq1 H hP hD hS => ?_)
  have hP : va_P G classes [(h0, .inr (6, [.int 0, .int 0, .null])), (nq1, .inl (cy 0, 24, .inl (fun _ => 0)))] H := hP
  have hD : va_D A [(h0, .inr (6, [.int 0, .int 0, .null])), (nq1, .inl (cy 0, 24, .inl (fun _ => 0)))] := hD
  refine va_putF (D := G) (ci := 6) (v := .ref nq1) (ty := (.array .int)) (C := RX6) (T := TX6) (N := 3) hx hb hts inB6 tyX6 tyX6_ok nmX6 hown hE.1 hP hD hS 0 rfl rfl 2 (by decide) (hts _ m_450) (fun _ h9 => h9) rfl hin rfl (by decide +kernel) rfl rfl (Nat.le_of_ble_eq_true rfl) dX6_init_19 (fun H locs hP hD hS => ?_)
  have hP : va_P G classes [(h0, .inr (6, [.int 0, .int 0, .ref nq1])), (nq1, .inl (cy 0, 24, .inl (fun _ => 0)))] H := hP
  have hD : va_D A [(h0, .inr (6, [.int 0, .int 0, .ref nq1])), (nq1, .inl (cy 0, 24, .inl (fun _ => 0)))] := hD
  have hP9 := P_cut (wc := [(h0, .inr (6, [.int 0, .int 0, .ref nq1])), (nq1, .inl (cy 0, 24, .inl (fun _ => 0)))]) hP [0, 1] rfl
  have hD9 := hD.sub (ws' := [(h0, .inr (6, [.int 0, .int 0, .ref nq1])), (nq1, .inl (cy 0, 24, .inl (fun _ => 0)))]) [0, 1] (by decide) rfl
  refine W.widen (k := 1) (n := 24) (by first | exact Nat.le_of_ble_eq_true rfl | omega) (by first | exact Nat.le_of_ble_eq_true rfl | omega) ?_
  exact W.vret hx hb hr (fun t ht hW => ⟨⟨(), rfl, trivial, by dsimp only; rw [ht]; exact ⟨nq1, hP9, hD9⟩⟩, hS.F ht⟩) hS.2.2 dX6_init_22
set_option maxHeartbeats 4000000 in
set_option maxRecDepth 100000 in
theorem c_X6_isMissing (l : Launch) (G : va_G) (cy : Nat → ClassId) (sk : Nat → Nat) (sz : Nat) (sh : Nat) (nu : Nat)  : Met l yX6_isMissing (wsO yX6_isMissing cX6_isMissing 1 (some .boolean)) ({ frames := 0, cells := 0, slots := 0, locals := 0 }) (va_Pc [.ref sh] (PR G cy sk sz [(sh, .inr (6, [.int 0, .int 0, .ref nu]))])) (vp_Si (fun r => r = 1)) 0 0 (fun _ => False) := by
  refine mt (by decide) (Nat.le_of_ble_eq_true rfl) ?_
  intro p e s m below meth c ls hx hb hr hml hts hown hlocks hin hsz hP hE hD hl
  subst hsz
  have hl : lv_has ls 1 [(0, .ref sh)] := hl
  refine lv_aload_n hx hb dX6_isMissing_0 rfl (lv_at hl 0 rfl) ?_
  refine va_get (D := G) (ci := 6) (v := .int 0) (C := RX6) (T := TX6) (N := 3) hx hb hts inB6 hown hE.1 hP 0 rfl rfl 0 (by decide) (hts _ m_445) (fun _ h9 => h9) rfl dX6_isMissing_1 ?_
  refine lv_if_ne (tgt := 11) hx hb dX6_isMissing_4 (by decide) (fun h9 => absurd h9 (by decide)) (fun _ => ?_)
  refine lv_iconst (v := 1) hx hb dX6_isMissing_7 (by decide) ?_
  refine lv_goto (tgt := 12) hx hb dX6_isMissing_8 (by decide) ?_
  exact W.zret (v := 1) hx hb hr rfl (fun t ht hW => ⟨1, rfl, rfl, ht⟩) (fun _ h => by cases h) dX6_isMissing_12
set_option maxHeartbeats 4000000 in
set_option maxRecDepth 100000 in
theorem c_X6_drop (l : Launch) (G : va_G) (cy : Nat → ClassId) (sk : Nat → Nat) (sz : Nat) (sh : Nat) (nu : Nat)  : Met l yX6_drop (wsO yX6_drop cX6_drop 1 none) ({ frames := 0, cells := 0, slots := 0, locals := 0 }) (va_Pc [.ref sh] (PR G cy sk sz [(sh, .inr (6, [.int 0, .int 0, .ref nu]))])) (va_Qv (fun (_ : Unit) => True) (fun _ _ => True) (va_A [(sh, .inr (6, [.int 0, .int 0, .ref nu]))] sz)) 0 0 (va_A [(sh, .inr (6, [.int 0, .int 0, .ref nu]))] sz) := by
  refine mt (by decide) (Nat.le_of_ble_eq_true rfl) ?_
  intro p e s m below meth c ls hx hb hr hml hts hown hlocks hin hsz hP hE hD hl
  subst hsz
  have hl : lv_has ls 1 [(0, .ref sh)] := hl
  have hD := hD.self (sz := s.heap.size)
  generalize hAe : va_A [(sh, .inr (6, [.int 0, .int 0, .ref nu]))] s.heap.size = A at hD ⊢
  have hA : ∀ q : Nat, s.heap.size ≤ q → A q := fun q h => by rw [← hAe]; exact Or.inr h
  have hS : va_S A s.heap s.heap [] := va_S.rf
  refine lv_aload_n hx hb dX6_drop_0 rfl (lv_at hl 0 rfl) ?_
  refine lv_iconst (v := 0) hx hb dX6_drop_1 (by decide) ?_
  refine va_put (D := G) (ci := 6) (v := .int 0) (ty := .int) (C := RX6) (T := TX6) (N := 3) hx hb hts inB6 tyX6 tyX6_ok nmX6 hown hE.1 hP hD hS 0 rfl rfl 0 (by decide) (hts _ m_445) (fun _ h9 => h9) rfl (by decide +kernel) rfl rfl (Nat.le_of_ble_eq_true rfl) dX6_drop_2 (fun H locs hP hD hS => ?_)
  have hP : va_P G classes [(sh, .inr (6, [.int 0, .int 0, .ref nu]))] H := hP
  have hD : va_D A [(sh, .inr (6, [.int 0, .int 0, .ref nu]))] := hD
  refine lv_aload_n hx hb dX6_drop_5 rfl (lv_at hl 0 rfl) ?_
  refine lv_iconst (v := 0) hx hb dX6_drop_6 (by decide) ?_
  refine va_put (D := G) (ci := 6) (v := .int 0) (ty := .int) (C := RX6) (T := TX6) (N := 3) hx hb hts inB6 tyX6 tyX6_ok nmX6 hown hE.1 hP hD hS 0 rfl rfl 1 (by decide) (hts _ m_447) (fun _ h9 => h9) rfl (by decide +kernel) rfl rfl (Nat.le_of_ble_eq_true rfl) dX6_drop_7 (fun H locs hP hD hS => ?_)
  have hP : va_P G classes [(sh, .inr (6, [.int 0, .int 0, .ref nu]))] H := hP
  have hD : va_D A [(sh, .inr (6, [.int 0, .int 0, .ref nu]))] := hD
  refine W.widen (k := 0) (n := 0) (by first | exact Nat.le_of_ble_eq_true rfl | omega) (by first | exact Nat.le_of_ble_eq_true rfl | omega) ?_
  exact W.vret hx hb hr (fun t ht hW => ⟨⟨(), rfl, trivial, trivial⟩, hS.F ht⟩) hS.2.2 dX6_drop_10
set_option maxHeartbeats 4000000 in
set_option maxRecDepth 100000 in
theorem c_X6_begin (l : Launch) (G : va_G) (cy : Nat → ClassId) (sk : Nat → Nat) (sz : Nat) (sh : Nat) (nu : Nat) (fu : Nat → Int32) (bi : Int32) (n : Int32)  : Met l yX6_begin (wsO yX6_begin cX6_begin 4 none) ({ frames := 1, cells := 0, slots := 0, locals := 15 }) (va_Pc [.ref sh, .int bi, .int n] (PR G cy sk sz [(sh, .inr (6, [.int 0, .int 0, .ref nu])), (nu, .inl (cy 0, 24, .inl fu))])) (va_Qv (fun (_ : Unit) => True) (fun _ _ => True) (va_A [(sh, .inr (6, [.int 0, .int 0, .ref nu])), (nu, .inl (cy 0, 24, .inl fu))] sz)) 0 0 (va_A [(sh, .inr (6, [.int 0, .int 0, .ref nu])), (nu, .inl (cy 0, 24, .inl fu))] sz) := by
  refine mt (by decide) (Nat.le_of_ble_eq_true rfl) ?_
  intro p e s m below meth c ls hx hb hr hml hts hown hlocks hin hsz hP hE hD hl
  subst hsz
  have hl : lv_has ls 4 [(0, .ref sh), (1, .int bi), (2, .int n)] := hl
  have hD := hD.self (sz := s.heap.size)
  generalize hAe : va_A [(sh, .inr (6, [.int 0, .int 0, .ref nu])), (nu, .inl (cy 0, 24, .inl fu))] s.heap.size = A at hD ⊢
  have hA : ∀ q : Nat, s.heap.size ≤ q → A q := fun q h => by rw [← hAe]; exact Or.inr h
  have hS : va_S A s.heap s.heap [] := va_S.rf
  refine lv_aload_n hx hb dX6_begin_0 rfl (lv_at hl 0 rfl) ?_
  refine lv_iload_n hx hb dX6_begin_1 rfl (lv_at hl 1 rfl) ?_
  refine va_put (D := G) (ci := 6) (v := .int bi) (ty := .int) (C := RX6) (T := TX6) (N := 3) hx hb hts inB6 tyX6 tyX6_ok nmX6 hown hE.1 hP hD hS 0 rfl rfl 0 (by decide) (hts _ m_445) (fun _ h9 => h9) rfl (by decide +kernel) rfl rfl (Nat.le_of_ble_eq_true rfl) dX6_begin_2 (fun H locs hP hD hS => ?_)
  have hP : va_P G classes [(sh, .inr (6, [.int bi, .int 0, .ref nu])), (nu, .inl (cy 0, 24, .inl fu))] H := hP
  have hD : va_D A [(sh, .inr (6, [.int bi, .int 0, .ref nu])), (nu, .inl (cy 0, 24, .inl fu))] := hD
  refine lv_aload_n hx hb dX6_begin_5 rfl (lv_at hl 0 rfl) ?_
  refine lv_iconst (v := 0) hx hb dX6_begin_6 (by decide) ?_
  refine lv_bipush (v := 24) hx hb dX6_begin_7 (by decide) ?_
  refine lv_iload_n hx hb dX6_begin_9 rfl (lv_at hl 2 rfl) ?_
  refine va_mmin hx hb (hml.trans hl.1.symm) hown (hts _ m_1230) (hts _ m_770) (hts _ m_86) (hts _ m_771) (Nat.le_of_ble_eq_true rfl) (Nat.le_of_ble_eq_true rfl) (Nat.le_of_ble_eq_true rfl) (Nat.le_of_ble_eq_true rfl) dX6_begin_10 ?_
  refine tp (v := (if n < 24 then n else 24)) rfl ?_
  refine va_mmax hx hb (hml.trans hl.1.symm) hown (hts _ m_1231) (hts _ m_206) (hts _ m_86) (hts _ m_207) (Nat.le_of_ble_eq_true rfl) (Nat.le_of_ble_eq_true rfl) (Nat.le_of_ble_eq_true rfl) (Nat.le_of_ble_eq_true rfl) dX6_begin_13 ?_
  refine tp (v := (if 0 < (if n < 24 then n else 24) then (if n < 24 then n else 24) else 0)) rfl ?_
  refine va_put (D := G) (ci := 6) (v := .int (if 0 < (if n < 24 then n else 24) then (if n < 24 then n else 24) else 0)) (ty := .int) (C := RX6) (T := TX6) (N := 3) hx hb hts inB6 tyX6 tyX6_ok nmX6 hown hE.1 hP hD hS 0 rfl rfl 1 (by decide) (hts _ m_447) (fun _ h9 => h9) rfl (by decide +kernel) rfl rfl (Nat.le_of_ble_eq_true rfl) dX6_begin_16 (fun H locs hP hD hS => ?_)
  have hP : va_P G classes [(sh, .inr (6, [.int bi, .int (if 0 < (if n < 24 then n else 24) then (if n < 24 then n else 24) else 0), .ref nu])), (nu, .inl (cy 0, 24, .inl fu))] H := hP
  have hD : va_D A [(sh, .inr (6, [.int bi, .int (if 0 < (if n < 24 then n else 24) then (if n < 24 then n else 24) else 0), .ref nu])), (nu, .inl (cy 0, 24, .inl fu))] := hD
  refine lv_iconst (v := 0) hx hb dX6_begin_19 (by decide) ?_
  refine lv_istore_n (lv' := [(3, .int 0), (0, .ref sh), (1, .int bi), (2, .int n)]) hx hb dX6_begin_20 rfl hl (by decide) rfl (fun ls hl => ?_)
  have lp : ∀ (nn i : Nat), i ≤ 24 → 24 + 1 ≤ i + nn → ∀ (gu : Nat → Int32), ∀ (H : Heap) (locs : List Loc), va_P G classes [(sh, .inr (6, [.int bi, .int (if 0 < (if n < 24 then n else 24) then (if n < 24 then n else 24) else 0), .ref nu])), (nu, .inl (cy 0, 24, .inl gu))] H → va_D A [(sh, .inr (6, [.int bi, .int (if 0 < (if n < 24 then n else 24) then (if n < 24 then n else 24) else 0), .ref nu])), (nu, .inl (cy 0, 24, .inl gu))] → va_S A s.heap H locs → ∀ (ls : Array Slot), lv_has ls 4 [(3, .int (nI i)), (0, .ref sh), (1, .int bi), (2, .int n)] → W p l e (headSpec (wsO yX6_begin cX6_begin 4 none) ({ frames := 1, cells := 0, slots := 0, locals := 15 })).room s m [.ref sh, .int bi, .int n].toArray below meth c H locs 0 0 (MQ below (va_Qv (fun (_ : Unit) => True) (fun _ _ => True) A) [.ref sh, .int bi, .int n].toArray s 0 0 A) (F0 m 21 ls []) := by
    intro nn
    induction nn with
    | zero => intro i h1 h2; exact absurd h2 (by omega)
    | succ nn ih =>
      intro i hi hin0 gu H locs hP hD hS ls hl
      rcases Nat.lt_or_ge i 24 with hlt | hge
      · refine lv_iload_n hx hb dX6_begin_21 rfl (lv_at hl 0 rfl) ?_
        refine lv_bipush (v := 24) hx hb dX6_begin_22 (by decide) ?_
        refine lv_icmp_ge (tgt := 40) hx hb dX6_begin_24 (by decide) (fun h9 => absurd h9 (nI_ge hlt (by decide))) (fun _ => ?_)
        refine lv_aload_n hx hb dX6_begin_27 rfl (lv_at hl 1 rfl) ?_
        refine va_get (D := G) (ci := 6) (v := .ref nu) (C := RX6) (T := TX6) (N := 3) hx hb hts inB6 hown hE.1 hP 0 rfl rfl 2 (by decide) (hts _ m_450) (fun _ h9 => h9) rfl dX6_begin_28 ?_
        refine lv_iload_n hx hb dX6_begin_31 rfl (lv_at hl 0 rfl) ?_
        refine lv_iconst (v := 0) hx hb dX6_begin_32 (by decide) ?_
        refine va_iast hx hb hE.1 hP hD hS 1 0 rfl rfl (vp_in_nI hlt (by decide)) dX6_begin_33 (fun H locs hP hD hS => ?_)
        have hP : va_P G classes [(sh, .inr (6, [.int bi, .int (if 0 < (if n < 24 then n else 24) then (if n < 24 then n else 24) else 0), .ref nu])), (nu, .inl (cy 0, 24, .inl (upd gu ((nI i)).toNatClampNeg 0)))] H := hP
        have hD : va_D A [(sh, .inr (6, [.int bi, .int (if 0 < (if n < 24 then n else 24) then (if n < 24 then n else 24) else 0), .ref nu])), (nu, .inl (cy 0, 24, .inl (upd gu ((nI i)).toNatClampNeg 0)))] := hD
        refine lv_iinc (v := (nI (i + 1))) (lv' := [(3, .int (nI (i + 1))), (0, .ref sh), (1, .int bi), (2, .int n)]) hx hb dX6_begin_34 hl (k := 0) rfl (nI_1 (i)) (by decide) rfl (fun ls hl => ?_)
        refine lv_goto (tgt := 21) hx hb dX6_begin_37 (by decide) ?_
        exact ih (i + 1) hlt (by omega) _ _ _ hP hD hS ls (lv_sub hl [0, 1, 2, 3] rfl)
      · have hie : i = 24 := Nat.le_antisymm hi hge
        subst hie
        refine lv_iload_n hx hb dX6_begin_21 rfl (lv_at hl 0 rfl) ?_
        refine lv_bipush (v := 24) hx hb dX6_begin_22 (by decide) ?_
        refine lv_icmp_ge (tgt := 40) hx hb dX6_begin_24 (by decide) (fun _ => ?_) (fun h9 => absurd (Int32.le_refl _) h9)
        refine W.widen (k := 0) (n := 0) (by first | exact Nat.le_of_ble_eq_true rfl | omega) (by first | exact Nat.le_of_ble_eq_true rfl | omega) ?_
        exact W.vret hx hb hr (fun t ht hW => ⟨⟨(), rfl, trivial, trivial⟩, hS.F ht⟩) hS.2.2 dX6_begin_40
  exact lp (24 + 1) 0 (Nat.zero_le _) (by omega) _ _ _ hP hD hS ls (lv_sub hl [0, 1, 2, 3] rfl)
def B_c_X3_init (G : va_G) (cy : Nat → ClassId) (A : Nat → Prop) (h0 : Nat) (H : Heap) : Prop := ∃ (te : Nat) (ne : Nat) (mi : Nat) (tr : Nat) (be : Nat) (rta : Nat) (rba : Nat), va_P G classes [(h0, .inr (3, [.ref te, .ref ne, .ref mi, .int 0, .ref tr, .ref be, .int 0, .int 0, .int 0])), (te, .inl (cy 0, 7, .inl (fun _ => 0))), (ne, .inl (cy 0, 7, .inl (fun _ => 0))), (mi, .inl (cy 0, 7, .inl (fun _ => 0))), (tr, .inr (5, [.ref rta, .int 0])), (rta, .inl (cy 0, 7, .inl (fun _ => 0))), (be, .inr (5, [.ref rba, .int 0])), (rba, .inl (cy 0, 7, .inl (fun _ => 0)))] H ∧ va_D A [(h0, .inr (3, [.ref te, .ref ne, .ref mi, .int 0, .ref tr, .ref be, .int 0, .int 0, .int 0])), (te, .inl (cy 0, 7, .inl (fun _ => 0))), (ne, .inl (cy 0, 7, .inl (fun _ => 0))), (mi, .inl (cy 0, 7, .inl (fun _ => 0))), (tr, .inr (5, [.ref rta, .int 0])), (rta, .inl (cy 0, 7, .inl (fun _ => 0))), (be, .inr (5, [.ref rba, .int 0])), (rba, .inl (cy 0, 7, .inl (fun _ => 0)))]
set_option maxHeartbeats 4000000 in
set_option maxRecDepth 100000 in
theorem c_X3_init (l : Launch) (G : va_G) (cy : Nat → ClassId) (sk : Nat → Nat) (sz : Nat) (h0 : Nat)  : Met l yX3_init (wsO yX3_init cX3_init 1 none) ({ frames := 2, cells := 7, slots := 225, locals := 35 }) (va_Pc [.ref h0] (PR G cy sk sz [(h0, .inr (3, [.null, .null, .null, .int 0, .null, .null, .int 0, .int 0, .int 0]))])) (va_Qv (fun (_ : Unit) => True) (fun _ t => B_c_X3_init G cy (va_A [(h0, .inr (3, [.null, .null, .null, .int 0, .null, .null, .int 0, .int 0, .int 0]))] sz) h0 t.heap) (va_A [(h0, .inr (3, [.null, .null, .null, .int 0, .null, .null, .int 0, .int 0, .int 0]))] sz)) 7 225 (va_A [(h0, .inr (3, [.null, .null, .null, .int 0, .null, .null, .int 0, .int 0, .int 0]))] sz) := by
  refine mt (by decide) (Nat.le_of_ble_eq_true rfl) ?_
  intro p e s m below meth c ls hx hb hr hml hts hown hlocks hin hsz hP hE hD hl
  subst hsz
  have hl : lv_has ls 1 [(0, .ref h0)] := hl
  have hD := hD.self (sz := s.heap.size)
  generalize hAe : va_A [(h0, .inr (3, [.null, .null, .null, .int 0, .null, .null, .int 0, .int 0, .int 0]))] s.heap.size = A at hD ⊢
  have hA : ∀ q : Nat, s.heap.size ≤ q → A q := fun q h => by rw [← hAe]; exact Or.inr h
  have hS : va_S A s.heap s.heap [] := va_S.rf
  refine lv_aload_n hx hb dX3_init_0 rfl (lv_at hl 0 rfl) ?_
  refine W.objInit hx hb hown (hts _ m_198) (hts _ m_107) (hts _ m_108) rfl (by rw [hml]; exact hl.1) rfl dX3_init_1 (Nat.le_of_ble_eq_true rfl) (Nat.le_of_ble_eq_true rfl) ?_
  refine W.eq (g2 := F0 m 4 ls []) rfl ?_
  refine lv_aload_n hx hb dX3_init_4 rfl (lv_at hl 0 rfl) ?_
  refine lv_bipush (v := 7) hx hb dX3_init_5 (by decide) ?_
  refine nwI (n := 7) (N := 7) hx hb hts m_146 hE hP hD hS hA (by decide) (by decide) (Nat.le_of_ble_eq_true rfl) (Nat.le_of_ble_eq_true rfl) (Nat.le_of_ble_eq_true rfl) dX3_init_7 (fun nq1 H hP hD hS => ?_)
  have hP : va_P G classes [(h0, .inr (3, [.null, .null, .null, .int 0, .null, .null, .int 0, .int 0, .int 0])), (nq1, .inl (cy 0, 7, .inl (fun _ => 0)))] H := hP
  have hD : va_D A [(h0, .inr (3, [.null, .null, .null, .int 0, .null, .null, .int 0, .int 0, .int 0])), (nq1, .inl (cy 0, 7, .inl (fun _ => 0)))] := hD
  refine va_putF (D := G) (ci := 3) (v := .ref nq1) (ty := (.array .int)) (C := RX3) (T := TX3) (N := 9) hx hb hts inB3 tyX3 tyX3_ok nmX3 hown hE.1 hP hD hS 0 rfl rfl 0 (by decide) (hts _ m_218) (fun _ h9 => h9) rfl hin rfl (by decide +kernel) rfl rfl (Nat.le_of_ble_eq_true rfl) dX3_init_9 (fun H locs hP hD hS => ?_)
  have hP : va_P G classes [(h0, .inr (3, [.ref nq1, .null, .null, .int 0, .null, .null, .int 0, .int 0, .int 0])), (nq1, .inl (cy 0, 7, .inl (fun _ => 0)))] H := hP
  have hD : va_D A [(h0, .inr (3, [.ref nq1, .null, .null, .int 0, .null, .null, .int 0, .int 0, .int 0])), (nq1, .inl (cy 0, 7, .inl (fun _ => 0)))] := hD
  refine lv_aload_n hx hb dX3_init_12 rfl (lv_at hl 0 rfl) ?_
  refine lv_bipush (v := 7) hx hb dX3_init_13 (by decide) ?_
  refine nwI (n := 7) (N := 7) hx hb hts m_146 hE hP hD hS hA (by decide) (by decide) (Nat.le_of_ble_eq_true rfl) (Nat.le_of_ble_eq_true rfl) (Nat.le_of_ble_eq_true rfl) dX3_init_15 (fun nq2 H hP hD hS => ?_)
  have hP : va_P G classes [(h0, .inr (3, [.ref nq1, .null, .null, .int 0, .null, .null, .int 0, .int 0, .int 0])), (nq1, .inl (cy 0, 7, .inl (fun _ => 0))), (nq2, .inl (cy 0, 7, .inl (fun _ => 0)))] H := hP
  have hD : va_D A [(h0, .inr (3, [.ref nq1, .null, .null, .int 0, .null, .null, .int 0, .int 0, .int 0])), (nq1, .inl (cy 0, 7, .inl (fun _ => 0))), (nq2, .inl (cy 0, 7, .inl (fun _ => 0)))] := hD
  refine va_putF (D := G) (ci := 3) (v := .ref nq2) (ty := (.array .int)) (C := RX3) (T := TX3) (N := 9) hx hb hts inB3 tyX3 tyX3_ok nmX3 hown hE.1 hP hD hS 0 rfl rfl 1 (by decide) (hts _ m_219) (fun _ h9 => h9) rfl hin rfl (by decide +kernel) rfl rfl (Nat.le_of_ble_eq_true rfl) dX3_init_17 (fun H locs hP hD hS => ?_)
  have hP : va_P G classes [(h0, .inr (3, [.ref nq1, .ref nq2, .null, .int 0, .null, .null, .int 0, .int 0, .int 0])), (nq1, .inl (cy 0, 7, .inl (fun _ => 0))), (nq2, .inl (cy 0, 7, .inl (fun _ => 0)))] H := hP
  have hD : va_D A [(h0, .inr (3, [.ref nq1, .ref nq2, .null, .int 0, .null, .null, .int 0, .int 0, .int 0])), (nq1, .inl (cy 0, 7, .inl (fun _ => 0))), (nq2, .inl (cy 0, 7, .inl (fun _ => 0)))] := hD
  refine lv_aload_n hx hb dX3_init_20 rfl (lv_at hl 0 rfl) ?_
  refine lv_bipush (v := 7) hx hb dX3_init_21 (by decide) ?_
  refine nwI (n := 7) (N := 7) hx hb hts m_146 hE hP hD hS hA (by decide) (by decide) (Nat.le_of_ble_eq_true rfl) (Nat.le_of_ble_eq_true rfl) (Nat.le_of_ble_eq_true rfl) dX3_init_23 (fun nq3 H hP hD hS => ?_)
  have hP : va_P G classes [(h0, .inr (3, [.ref nq1, .ref nq2, .null, .int 0, .null, .null, .int 0, .int 0, .int 0])), (nq1, .inl (cy 0, 7, .inl (fun _ => 0))), (nq2, .inl (cy 0, 7, .inl (fun _ => 0))), (nq3, .inl (cy 0, 7, .inl (fun _ => 0)))] H := hP
  have hD : va_D A [(h0, .inr (3, [.ref nq1, .ref nq2, .null, .int 0, .null, .null, .int 0, .int 0, .int 0])), (nq1, .inl (cy 0, 7, .inl (fun _ => 0))), (nq2, .inl (cy 0, 7, .inl (fun _ => 0))), (nq3, .inl (cy 0, 7, .inl (fun _ => 0)))] := hD
  refine va_putF (D := G) (ci := 3) (v := .ref nq3) (ty := (.array .int)) (C := RX3) (T := TX3) (N := 9) hx hb hts inB3 tyX3 tyX3_ok nmX3 hown hE.1 hP hD hS 0 rfl rfl 2 (by decide) (hts _ m_220) (fun _ h9 => h9) rfl hin rfl (by decide +kernel) rfl rfl (Nat.le_of_ble_eq_true rfl) dX3_init_25 (fun H locs hP hD hS => ?_)
  have hP : va_P G classes [(h0, .inr (3, [.ref nq1, .ref nq2, .ref nq3, .int 0, .null, .null, .int 0, .int 0, .int 0])), (nq1, .inl (cy 0, 7, .inl (fun _ => 0))), (nq2, .inl (cy 0, 7, .inl (fun _ => 0))), (nq3, .inl (cy 0, 7, .inl (fun _ => 0)))] H := hP
  have hD : va_D A [(h0, .inr (3, [.ref nq1, .ref nq2, .ref nq3, .int 0, .null, .null, .int 0, .int 0, .int 0])), (nq1, .inl (cy 0, 7, .inl (fun _ => 0))), (nq2, .inl (cy 0, 7, .inl (fun _ => 0))), (nq3, .inl (cy 0, 7, .inl (fun _ => 0)))] := hD
  refine lv_aload_n hx hb dX3_init_28 rfl (lv_at hl 0 rfl) ?_
  refine lv_iconst (v := 0) hx hb dX3_init_29 (by decide) ?_
  refine va_put (D := G) (ci := 3) (v := .int 0) (ty := .int) (C := RX3) (T := TX3) (N := 9) hx hb hts inB3 tyX3 tyX3_ok nmX3 hown hE.1 hP hD hS 0 rfl rfl 3 (by decide) (hts _ m_221) (fun _ h9 => h9) rfl (by decide +kernel) rfl rfl (Nat.le_of_ble_eq_true rfl) dX3_init_30 (fun H locs hP hD hS => ?_)
  have hP : va_P G classes [(h0, .inr (3, [.ref nq1, .ref nq2, .ref nq3, .int 0, .null, .null, .int 0, .int 0, .int 0])), (nq1, .inl (cy 0, 7, .inl (fun _ => 0))), (nq2, .inl (cy 0, 7, .inl (fun _ => 0))), (nq3, .inl (cy 0, 7, .inl (fun _ => 0)))] H := hP
  have hD : va_D A [(h0, .inr (3, [.ref nq1, .ref nq2, .ref nq3, .int 0, .null, .null, .int 0, .int 0, .int 0])), (nq1, .inl (cy 0, 7, .inl (fun _ => 0))), (nq2, .inl (cy 0, 7, .inl (fun _ => 0))), (nq3, .inl (cy 0, 7, .inl (fun _ => 0)))] := hD
  refine lv_aload_n hx hb dX3_init_33 rfl (lv_at hl 0 rfl) ?_
  refine va_new (ci := 5) (fs := [.null, .int 0]) (C := RX5) (T := TX5) (N := 2) hx hb hts inB5 tyX5 tyX5_ok hown (hts _ m_199) (hts _ m_200) (hts _ m_85) hE.1 hP hD hS hA rfl df5 (Nat.le_of_ble_eq_true rfl) (Nat.le_of_ble_eq_true rfl) dX3_init_34 (fun nq4 H hP hD hS => ?_)
  have hP : va_P G classes [(h0, .inr (3, [.ref nq1, .ref nq2, .ref nq3, .int 0, .null, .null, .int 0, .int 0, .int 0])), (nq1, .inl (cy 0, 7, .inl (fun _ => 0))), (nq2, .inl (cy 0, 7, .inl (fun _ => 0))), (nq3, .inl (cy 0, 7, .inl (fun _ => 0))), (nq4, .inr (5, [.null, .int 0]))] H := hP
  have hD : va_D A [(h0, .inr (3, [.ref nq1, .ref nq2, .ref nq3, .int 0, .null, .null, .int 0, .int 0, .int 0])), (nq1, .inl (cy 0, 7, .inl (fun _ => 0))), (nq2, .inl (cy 0, 7, .inl (fun _ => 0))), (nq3, .inl (cy 0, 7, .inl (fun _ => 0))), (nq4, .inr (5, [.null, .int 0]))] := hD
  refine lv_dup hx hb dX3_init_37 rfl ?_
  refine lv_bipush (v := 7) hx hb dX3_init_38 (by decide) ?_
  refine wI (B := (B_c_X5_init G cy (va_A [(nq4, .inr (5, [.null, .int 0]))] H.size) nq4 7 7)) (wr := [(h0, .inr (3, [.ref nq1, .ref nq2, .ref nq3, .int 0, .null, .null, .int 0, .int 0, .int 0])), (nq1, .inl (cy 0, 7, .inl (fun _ => 0))), (nq2, .inl (cy 0, 7, .inl (fun _ => 0))), (nq3, .inl (cy 0, 7, .inl (fun _ => 0)))]) (rest := [.ref nq4, .ref h0]) hx hb hml hown hts hE (c_X5_init l G cy sk H.size nq4 7 7 rfl (by decide)) kI_X5_init m_201 rfl rfl ⟨(Nat.le_of_ble_eq_true rfl), (Nat.le_of_ble_eq_true rfl)⟩ hP hD hS hA [4] [0, 1, 2, 3] rfl rfl rfl rfl (by decide) rfl rfl hl.1 (Nat.le_of_ble_eq_true rfl) dX3_init_40 ⟨(Nat.le_of_ble_eq_true rfl), (Nat.le_of_ble_eq_true rfl)⟩ (fun H locs haf hS => ?_)
  obtain ⟨xq6, hP1, hD1⟩ := haf.1
  obtain ⟨hP, hD⟩ := haf.2.1 _ hP1 hD1
  have hP : va_P G classes [(h0, .inr (3, [.ref nq1, .ref nq2, .ref nq3, .int 0, .null, .null, .int 0, .int 0, .int 0])), (nq1, .inl (cy 0, 7, .inl (fun _ => 0))), (nq2, .inl (cy 0, 7, .inl (fun _ => 0))), (nq3, .inl (cy 0, 7, .inl (fun _ => 0))), (nq4, .inr (5, [.ref xq6, .int 0])), (xq6, .inl (cy 0, 7, .inl (fun _ => 0)))] H := hP
  have hD : va_D A [(h0, .inr (3, [.ref nq1, .ref nq2, .ref nq3, .int 0, .null, .null, .int 0, .int 0, .int 0])), (nq1, .inl (cy 0, 7, .inl (fun _ => 0))), (nq2, .inl (cy 0, 7, .inl (fun _ => 0))), (nq3, .inl (cy 0, 7, .inl (fun _ => 0))), (nq4, .inr (5, [.ref xq6, .int 0])), (xq6, .inl (cy 0, 7, .inl (fun _ => 0)))] := hD
  refine va_putF (D := G) (ci := 3) (v := .ref nq4) (ty := (.object "ClickStreet$Row")) (C := RX3) (T := TX3) (N := 9) hx hb hts inB3 tyX3 tyX3_ok nmX3 hown hE.1 hP hD hS 0 rfl rfl 4 (by decide) (hts _ m_223) (fun _ h9 => h9) rfl hin rfl (by decide +kernel) rfl rfl (Nat.le_of_ble_eq_true rfl) dX3_init_43 (fun H locs hP hD hS => ?_)
  have hP : va_P G classes [(h0, .inr (3, [.ref nq1, .ref nq2, .ref nq3, .int 0, .ref nq4, .null, .int 0, .int 0, .int 0])), (nq1, .inl (cy 0, 7, .inl (fun _ => 0))), (nq2, .inl (cy 0, 7, .inl (fun _ => 0))), (nq3, .inl (cy 0, 7, .inl (fun _ => 0))), (nq4, .inr (5, [.ref xq6, .int 0])), (xq6, .inl (cy 0, 7, .inl (fun _ => 0)))] H := hP
  have hD : va_D A [(h0, .inr (3, [.ref nq1, .ref nq2, .ref nq3, .int 0, .ref nq4, .null, .int 0, .int 0, .int 0])), (nq1, .inl (cy 0, 7, .inl (fun _ => 0))), (nq2, .inl (cy 0, 7, .inl (fun _ => 0))), (nq3, .inl (cy 0, 7, .inl (fun _ => 0))), (nq4, .inr (5, [.ref xq6, .int 0])), (xq6, .inl (cy 0, 7, .inl (fun _ => 0)))] := hD
  refine lv_aload_n hx hb dX3_init_46 rfl (lv_at hl 0 rfl) ?_
  refine va_new (ci := 5) (fs := [.null, .int 0]) (C := RX5) (T := TX5) (N := 2) hx hb hts inB5 tyX5 tyX5_ok hown (hts _ m_199) (hts _ m_200) (hts _ m_85) hE.1 hP hD hS hA rfl df5 (Nat.le_of_ble_eq_true rfl) (Nat.le_of_ble_eq_true rfl) dX3_init_47 (fun nq7 H hP hD hS => ?_)
  have hP : va_P G classes [(h0, .inr (3, [.ref nq1, .ref nq2, .ref nq3, .int 0, .ref nq4, .null, .int 0, .int 0, .int 0])), (nq1, .inl (cy 0, 7, .inl (fun _ => 0))), (nq2, .inl (cy 0, 7, .inl (fun _ => 0))), (nq3, .inl (cy 0, 7, .inl (fun _ => 0))), (nq4, .inr (5, [.ref xq6, .int 0])), (xq6, .inl (cy 0, 7, .inl (fun _ => 0))), (nq7, .inr (5, [.null, .int 0]))] H := hP
  have hD : va_D A [(h0, .inr (3, [.ref nq1, .ref nq2, .ref nq3, .int 0, .ref nq4, .null, .int 0, .int 0, .int 0])), (nq1, .inl (cy 0, 7, .inl (fun _ => 0))), (nq2, .inl (cy 0, 7, .inl (fun _ => 0))), (nq3, .inl (cy 0, 7, .inl (fun _ => 0))), (nq4, .inr (5, [.ref xq6, .int 0])), (xq6, .inl (cy 0, 7, .inl (fun _ => 0))), (nq7, .inr (5, [.null, .int 0]))] := hD
  refine lv_dup hx hb dX3_init_50 rfl ?_
  refine lv_bipush (v := 7) hx hb dX3_init_51 (by decide) ?_
  refine wI (B := (B_c_X5_init G cy (va_A [(nq7, .inr (5, [.null, .int 0]))] H.size) nq7 7 7)) (wr := [(h0, .inr (3, [.ref nq1, .ref nq2, .ref nq3, .int 0, .ref nq4, .null, .int 0, .int 0, .int 0])), (nq1, .inl (cy 0, 7, .inl (fun _ => 0))), (nq2, .inl (cy 0, 7, .inl (fun _ => 0))), (nq3, .inl (cy 0, 7, .inl (fun _ => 0))), (nq4, .inr (5, [.ref xq6, .int 0])), (xq6, .inl (cy 0, 7, .inl (fun _ => 0)))]) (rest := [.ref nq7, .ref h0]) hx hb hml hown hts hE (c_X5_init l G cy sk H.size nq7 7 7 rfl (by decide)) kI_X5_init m_201 rfl rfl ⟨(Nat.le_of_ble_eq_true rfl), (Nat.le_of_ble_eq_true rfl)⟩ hP hD hS hA [6] [0, 1, 2, 3, 4, 5] rfl rfl rfl rfl (by decide) rfl rfl hl.1 (Nat.le_of_ble_eq_true rfl) dX3_init_53 ⟨(Nat.le_of_ble_eq_true rfl), (Nat.le_of_ble_eq_true rfl)⟩ (fun H locs haf hS => ?_)
  obtain ⟨xq9, hP1, hD1⟩ := haf.1
  obtain ⟨hP, hD⟩ := haf.2.1 _ hP1 hD1
  have hP : va_P G classes [(h0, .inr (3, [.ref nq1, .ref nq2, .ref nq3, .int 0, .ref nq4, .null, .int 0, .int 0, .int 0])), (nq1, .inl (cy 0, 7, .inl (fun _ => 0))), (nq2, .inl (cy 0, 7, .inl (fun _ => 0))), (nq3, .inl (cy 0, 7, .inl (fun _ => 0))), (nq4, .inr (5, [.ref xq6, .int 0])), (xq6, .inl (cy 0, 7, .inl (fun _ => 0))), (nq7, .inr (5, [.ref xq9, .int 0])), (xq9, .inl (cy 0, 7, .inl (fun _ => 0)))] H := hP
  have hD : va_D A [(h0, .inr (3, [.ref nq1, .ref nq2, .ref nq3, .int 0, .ref nq4, .null, .int 0, .int 0, .int 0])), (nq1, .inl (cy 0, 7, .inl (fun _ => 0))), (nq2, .inl (cy 0, 7, .inl (fun _ => 0))), (nq3, .inl (cy 0, 7, .inl (fun _ => 0))), (nq4, .inr (5, [.ref xq6, .int 0])), (xq6, .inl (cy 0, 7, .inl (fun _ => 0))), (nq7, .inr (5, [.ref xq9, .int 0])), (xq9, .inl (cy 0, 7, .inl (fun _ => 0)))] := hD
  refine va_putF (D := G) (ci := 3) (v := .ref nq7) (ty := (.object "ClickStreet$Row")) (C := RX3) (T := TX3) (N := 9) hx hb hts inB3 tyX3 tyX3_ok nmX3 hown hE.1 hP hD hS 0 rfl rfl 5 (by decide) (hts _ m_224) (fun _ h9 => h9) rfl hin rfl (by decide +kernel) rfl rfl (Nat.le_of_ble_eq_true rfl) dX3_init_56 (fun H locs hP hD hS => ?_)
  have hP : va_P G classes [(h0, .inr (3, [.ref nq1, .ref nq2, .ref nq3, .int 0, .ref nq4, .ref nq7, .int 0, .int 0, .int 0])), (nq1, .inl (cy 0, 7, .inl (fun _ => 0))), (nq2, .inl (cy 0, 7, .inl (fun _ => 0))), (nq3, .inl (cy 0, 7, .inl (fun _ => 0))), (nq4, .inr (5, [.ref xq6, .int 0])), (xq6, .inl (cy 0, 7, .inl (fun _ => 0))), (nq7, .inr (5, [.ref xq9, .int 0])), (xq9, .inl (cy 0, 7, .inl (fun _ => 0)))] H := hP
  have hD : va_D A [(h0, .inr (3, [.ref nq1, .ref nq2, .ref nq3, .int 0, .ref nq4, .ref nq7, .int 0, .int 0, .int 0])), (nq1, .inl (cy 0, 7, .inl (fun _ => 0))), (nq2, .inl (cy 0, 7, .inl (fun _ => 0))), (nq3, .inl (cy 0, 7, .inl (fun _ => 0))), (nq4, .inr (5, [.ref xq6, .int 0])), (xq6, .inl (cy 0, 7, .inl (fun _ => 0))), (nq7, .inr (5, [.ref xq9, .int 0])), (xq9, .inl (cy 0, 7, .inl (fun _ => 0)))] := hD
  refine lv_aload_n hx hb dX3_init_59 rfl (lv_at hl 0 rfl) ?_
  refine lv_iconst (v := 0) hx hb dX3_init_60 (by decide) ?_
  refine va_put (D := G) (ci := 3) (v := .int 0) (ty := .int) (C := RX3) (T := TX3) (N := 9) hx hb hts inB3 tyX3 tyX3_ok nmX3 hown hE.1 hP hD hS 0 rfl rfl 6 (by decide) (hts _ m_226) (fun _ h9 => h9) rfl (by decide +kernel) rfl rfl (Nat.le_of_ble_eq_true rfl) dX3_init_61 (fun H locs hP hD hS => ?_)
  have hP : va_P G classes [(h0, .inr (3, [.ref nq1, .ref nq2, .ref nq3, .int 0, .ref nq4, .ref nq7, .int 0, .int 0, .int 0])), (nq1, .inl (cy 0, 7, .inl (fun _ => 0))), (nq2, .inl (cy 0, 7, .inl (fun _ => 0))), (nq3, .inl (cy 0, 7, .inl (fun _ => 0))), (nq4, .inr (5, [.ref xq6, .int 0])), (xq6, .inl (cy 0, 7, .inl (fun _ => 0))), (nq7, .inr (5, [.ref xq9, .int 0])), (xq9, .inl (cy 0, 7, .inl (fun _ => 0)))] H := hP
  have hD : va_D A [(h0, .inr (3, [.ref nq1, .ref nq2, .ref nq3, .int 0, .ref nq4, .ref nq7, .int 0, .int 0, .int 0])), (nq1, .inl (cy 0, 7, .inl (fun _ => 0))), (nq2, .inl (cy 0, 7, .inl (fun _ => 0))), (nq3, .inl (cy 0, 7, .inl (fun _ => 0))), (nq4, .inr (5, [.ref xq6, .int 0])), (xq6, .inl (cy 0, 7, .inl (fun _ => 0))), (nq7, .inr (5, [.ref xq9, .int 0])), (xq9, .inl (cy 0, 7, .inl (fun _ => 0)))] := hD
  refine lv_aload_n hx hb dX3_init_64 rfl (lv_at hl 0 rfl) ?_
  refine lv_iconst (v := 0) hx hb dX3_init_65 (by decide) ?_
  refine va_put (D := G) (ci := 3) (v := .int 0) (ty := .int) (C := RX3) (T := TX3) (N := 9) hx hb hts inB3 tyX3 tyX3_ok nmX3 hown hE.1 hP hD hS 0 rfl rfl 7 (by decide) (hts _ m_227) (fun _ h9 => h9) rfl (by decide +kernel) rfl rfl (Nat.le_of_ble_eq_true rfl) dX3_init_66 (fun H locs hP hD hS => ?_)
  have hP : va_P G classes [(h0, .inr (3, [.ref nq1, .ref nq2, .ref nq3, .int 0, .ref nq4, .ref nq7, .int 0, .int 0, .int 0])), (nq1, .inl (cy 0, 7, .inl (fun _ => 0))), (nq2, .inl (cy 0, 7, .inl (fun _ => 0))), (nq3, .inl (cy 0, 7, .inl (fun _ => 0))), (nq4, .inr (5, [.ref xq6, .int 0])), (xq6, .inl (cy 0, 7, .inl (fun _ => 0))), (nq7, .inr (5, [.ref xq9, .int 0])), (xq9, .inl (cy 0, 7, .inl (fun _ => 0)))] H := hP
  have hD : va_D A [(h0, .inr (3, [.ref nq1, .ref nq2, .ref nq3, .int 0, .ref nq4, .ref nq7, .int 0, .int 0, .int 0])), (nq1, .inl (cy 0, 7, .inl (fun _ => 0))), (nq2, .inl (cy 0, 7, .inl (fun _ => 0))), (nq3, .inl (cy 0, 7, .inl (fun _ => 0))), (nq4, .inr (5, [.ref xq6, .int 0])), (xq6, .inl (cy 0, 7, .inl (fun _ => 0))), (nq7, .inr (5, [.ref xq9, .int 0])), (xq9, .inl (cy 0, 7, .inl (fun _ => 0)))] := hD
  refine lv_aload_n hx hb dX3_init_69 rfl (lv_at hl 0 rfl) ?_
  refine lv_iconst (v := 0) hx hb dX3_init_70 (by decide) ?_
  refine va_put (D := G) (ci := 3) (v := .int 0) (ty := .boolean) (C := RX3) (T := TX3) (N := 9) hx hb hts inB3 tyX3 tyX3_ok nmX3 hown hE.1 hP hD hS 0 rfl rfl 8 (by decide) (hts _ m_229) (fun _ h9 => h9) rfl (by decide +kernel) rfl rfl (Nat.le_of_ble_eq_true rfl) dX3_init_71 (fun H locs hP hD hS => ?_)
  have hP : va_P G classes [(h0, .inr (3, [.ref nq1, .ref nq2, .ref nq3, .int 0, .ref nq4, .ref nq7, .int 0, .int 0, .int 0])), (nq1, .inl (cy 0, 7, .inl (fun _ => 0))), (nq2, .inl (cy 0, 7, .inl (fun _ => 0))), (nq3, .inl (cy 0, 7, .inl (fun _ => 0))), (nq4, .inr (5, [.ref xq6, .int 0])), (xq6, .inl (cy 0, 7, .inl (fun _ => 0))), (nq7, .inr (5, [.ref xq9, .int 0])), (xq9, .inl (cy 0, 7, .inl (fun _ => 0)))] H := hP
  have hD : va_D A [(h0, .inr (3, [.ref nq1, .ref nq2, .ref nq3, .int 0, .ref nq4, .ref nq7, .int 0, .int 0, .int 0])), (nq1, .inl (cy 0, 7, .inl (fun _ => 0))), (nq2, .inl (cy 0, 7, .inl (fun _ => 0))), (nq3, .inl (cy 0, 7, .inl (fun _ => 0))), (nq4, .inr (5, [.ref xq6, .int 0])), (xq6, .inl (cy 0, 7, .inl (fun _ => 0))), (nq7, .inr (5, [.ref xq9, .int 0])), (xq9, .inl (cy 0, 7, .inl (fun _ => 0)))] := hD
  have hP9 := P_cut (wc := [(h0, .inr (3, [.ref nq1, .ref nq2, .ref nq3, .int 0, .ref nq4, .ref nq7, .int 0, .int 0, .int 0])), (nq1, .inl (cy 0, 7, .inl (fun _ => 0))), (nq2, .inl (cy 0, 7, .inl (fun _ => 0))), (nq3, .inl (cy 0, 7, .inl (fun _ => 0))), (nq4, .inr (5, [.ref xq6, .int 0])), (xq6, .inl (cy 0, 7, .inl (fun _ => 0))), (nq7, .inr (5, [.ref xq9, .int 0])), (xq9, .inl (cy 0, 7, .inl (fun _ => 0)))]) hP [0, 1, 2, 3, 4, 5, 6, 7] rfl
  have hD9 := hD.sub (ws' := [(h0, .inr (3, [.ref nq1, .ref nq2, .ref nq3, .int 0, .ref nq4, .ref nq7, .int 0, .int 0, .int 0])), (nq1, .inl (cy 0, 7, .inl (fun _ => 0))), (nq2, .inl (cy 0, 7, .inl (fun _ => 0))), (nq3, .inl (cy 0, 7, .inl (fun _ => 0))), (nq4, .inr (5, [.ref xq6, .int 0])), (xq6, .inl (cy 0, 7, .inl (fun _ => 0))), (nq7, .inr (5, [.ref xq9, .int 0])), (xq9, .inl (cy 0, 7, .inl (fun _ => 0)))]) [0, 1, 2, 3, 4, 5, 6, 7] (by decide) rfl
  refine W.widen (k := 7) (n := 225) (by first | exact Nat.le_of_ble_eq_true rfl | omega) (by first | exact Nat.le_of_ble_eq_true rfl | omega) ?_
  exact W.vret hx hb hr (fun t ht hW => ⟨⟨(), rfl, trivial, by dsimp only; rw [ht]; exact ⟨nq1, nq2, nq3, nq4, nq7, xq6, xq9, hP9, hD9⟩⟩, hS.F ht⟩) hS.2.2 dX3_init_74
set_option maxHeartbeats 4000000 in
set_option maxRecDepth 100000 in
theorem c_X3_hasRoom (l : Launch) (G : va_G) (cy : Nat → ClassId) (sk : Nat → Nat) (sz : Nat) (le : Nat) (te : Nat) (ne : Nat) (mi : Nat) (tr : Nat) (be : Nat) (rta : Nat) (rba : Nat)  : Met l yX3_hasRoom (wsO yX3_hasRoom cX3_hasRoom 1 (some .boolean)) ({ frames := 0, cells := 0, slots := 0, locals := 0 }) (va_Pc [.ref le] (PR G cy sk sz [(le, .inr (3, [.ref te, .ref ne, .ref mi, .int 0, .ref tr, .ref be, .int 0, .int 0, .int 0]))])) (vp_Si (fun r => r = 1)) 0 0 (fun _ => False) := by
  refine mt (by decide) (Nat.le_of_ble_eq_true rfl) ?_
  intro p e s m below meth c ls hx hb hr hml hts hown hlocks hin hsz hP hE hD hl
  subst hsz
  have hl : lv_has ls 1 [(0, .ref le)] := hl
  refine lv_aload_n hx hb dX3_hasRoom_0 rfl (lv_at hl 0 rfl) ?_
  refine va_get (D := G) (ci := 3) (v := .int 0) (C := RX3) (T := TX3) (N := 9) hx hb hts inB3 hown hE.1 hP 0 rfl rfl 3 (by decide) (hts _ m_221) (fun _ h9 => h9) rfl dX3_hasRoom_1 ?_
  refine lv_bipush (v := 7) hx hb dX3_hasRoom_4 (by decide) ?_
  refine lv_icmp_ge (tgt := 13) hx hb dX3_hasRoom_6 (by decide) (fun h9 => absurd h9 (by decide)) (fun _ => ?_)
  refine lv_iconst (v := 1) hx hb dX3_hasRoom_9 (by decide) ?_
  refine lv_goto (tgt := 14) hx hb dX3_hasRoom_10 (by decide) ?_
  exact W.zret (v := 1) hx hb hr rfl (fun t ht hW => ⟨1, rfl, rfl, ht⟩) (fun _ h => by cases h) dX3_hasRoom_14
set_option maxHeartbeats 4000000 in
set_option maxRecDepth 100000 in
theorem c_X3_add (l : Launch) (G : va_G) (cy : Nat → ClassId) (sk : Nat → Nat) (sz : Nat) (le : Nat) (te : Nat) (ne : Nat) (mi : Nat) (tr : Nat) (be : Nat) (rta : Nat) (rba : Nat) (fte : Nat → Int32) (fne : Nat → Int32) (fmi : Nat → Int32) (a : Int32) (b : Int32) (d : Int32)  : Met l yX3_add (wsO yX3_add cX3_add 5 (some .int)) ({ frames := 0, cells := 0, slots := 0, locals := 0 }) (va_Pc [.ref le, .int a, .int b, .int d] (PR G cy sk sz [(le, .inr (3, [.ref te, .ref ne, .ref mi, .int 0, .ref tr, .ref be, .int 0, .int 0, .int 0])), (te, .inl (cy 0, 7, .inl fte)), (ne, .inl (cy 0, 7, .inl fne)), (mi, .inl (cy 0, 7, .inl fmi))])) (va_Qi (fun r (_ : Unit) => r = 0) (fun _ _ => True) (va_A [(le, .inr (3, [.ref te, .ref ne, .ref mi, .int 0, .ref tr, .ref be, .int 0, .int 0, .int 0])), (te, .inl (cy 0, 7, .inl fte)), (ne, .inl (cy 0, 7, .inl fne)), (mi, .inl (cy 0, 7, .inl fmi))] sz)) 0 0 (va_A [(le, .inr (3, [.ref te, .ref ne, .ref mi, .int 0, .ref tr, .ref be, .int 0, .int 0, .int 0])), (te, .inl (cy 0, 7, .inl fte)), (ne, .inl (cy 0, 7, .inl fne)), (mi, .inl (cy 0, 7, .inl fmi))] sz) := by
  refine mt (by decide) (Nat.le_of_ble_eq_true rfl) ?_
  intro p e s m below meth c ls hx hb hr hml hts hown hlocks hin hsz hP hE hD hl
  subst hsz
  have hl : lv_has ls 5 [(0, .ref le), (1, .int a), (2, .int b), (3, .int d)] := hl
  have hD := hD.self (sz := s.heap.size)
  generalize hAe : va_A [(le, .inr (3, [.ref te, .ref ne, .ref mi, .int 0, .ref tr, .ref be, .int 0, .int 0, .int 0])), (te, .inl (cy 0, 7, .inl fte)), (ne, .inl (cy 0, 7, .inl fne)), (mi, .inl (cy 0, 7, .inl fmi))] s.heap.size = A at hD ⊢
  have hA : ∀ q : Nat, s.heap.size ≤ q → A q := fun q h => by rw [← hAe]; exact Or.inr h
  have hS : va_S A s.heap s.heap [] := va_S.rf
  refine lv_aload_n hx hb dX3_add_0 rfl (lv_at hl 0 rfl) ?_
  refine va_get (D := G) (ci := 3) (v := .int 0) (C := RX3) (T := TX3) (N := 9) hx hb hts inB3 hown hE.1 hP 0 rfl rfl 3 (by decide) (hts _ m_221) (fun _ h9 => h9) rfl dX3_add_1 ?_
  refine lv_istore (lv' := [(4, .int 0), (0, .ref le), (1, .int a), (2, .int b), (3, .int d)]) hx hb dX3_add_4 hl (by decide) rfl (fun ls hl => ?_)
  refine lv_iload hx hb dX3_add_6 (lv_at hl 0 rfl) ?_
  refine lv_if_lt (tgt := 18) hx hb dX3_add_8 (by decide) (fun h9 => absurd h9 (by decide)) (fun _ => ?_)
  refine lv_iload hx hb dX3_add_11 (lv_at hl 0 rfl) ?_
  refine lv_bipush (v := 7) hx hb dX3_add_13 (by decide) ?_
  refine lv_icmp_lt (tgt := 20) hx hb dX3_add_15 (by decide) (fun _ => ?_) (fun h9 => absurd h9 (by decide))
  refine lv_aload_n hx hb dX3_add_20 rfl (lv_at hl 1 rfl) ?_
  refine va_get (D := G) (ci := 3) (v := .ref te) (C := RX3) (T := TX3) (N := 9) hx hb hts inB3 hown hE.1 hP 0 rfl rfl 0 (by decide) (hts _ m_218) (fun _ h9 => h9) rfl dX3_add_21 ?_
  refine lv_iload hx hb dX3_add_24 (lv_at hl 0 rfl) ?_
  refine lv_iload_n hx hb dX3_add_26 rfl (lv_at hl 2 rfl) ?_
  refine va_iast hx hb hE.1 hP hD hS 1 0 rfl rfl (vinL (by decide)) dX3_add_27 (fun H locs hP hD hS => ?_)
  have hP : va_P G classes [(le, .inr (3, [.ref te, .ref ne, .ref mi, .int 0, .ref tr, .ref be, .int 0, .int 0, .int 0])), (te, .inl (cy 0, 7, .inl (upd fte 0 a))), (ne, .inl (cy 0, 7, .inl fne)), (mi, .inl (cy 0, 7, .inl fmi))] H := hP
  have hD : va_D A [(le, .inr (3, [.ref te, .ref ne, .ref mi, .int 0, .ref tr, .ref be, .int 0, .int 0, .int 0])), (te, .inl (cy 0, 7, .inl (upd fte 0 a))), (ne, .inl (cy 0, 7, .inl fne)), (mi, .inl (cy 0, 7, .inl fmi))] := hD
  refine lv_aload_n hx hb dX3_add_28 rfl (lv_at hl 1 rfl) ?_
  refine va_get (D := G) (ci := 3) (v := .ref ne) (C := RX3) (T := TX3) (N := 9) hx hb hts inB3 hown hE.1 hP 0 rfl rfl 1 (by decide) (hts _ m_219) (fun _ h9 => h9) rfl dX3_add_29 ?_
  refine lv_iload hx hb dX3_add_32 (lv_at hl 0 rfl) ?_
  refine lv_iload_n hx hb dX3_add_34 rfl (lv_at hl 3 rfl) ?_
  refine va_iast hx hb hE.1 hP hD hS 2 0 rfl rfl (vinL (by decide)) dX3_add_35 (fun H locs hP hD hS => ?_)
  have hP : va_P G classes [(le, .inr (3, [.ref te, .ref ne, .ref mi, .int 0, .ref tr, .ref be, .int 0, .int 0, .int 0])), (te, .inl (cy 0, 7, .inl (upd fte 0 a))), (ne, .inl (cy 0, 7, .inl (upd fne 0 b))), (mi, .inl (cy 0, 7, .inl fmi))] H := hP
  have hD : va_D A [(le, .inr (3, [.ref te, .ref ne, .ref mi, .int 0, .ref tr, .ref be, .int 0, .int 0, .int 0])), (te, .inl (cy 0, 7, .inl (upd fte 0 a))), (ne, .inl (cy 0, 7, .inl (upd fne 0 b))), (mi, .inl (cy 0, 7, .inl fmi))] := hD
  refine lv_aload_n hx hb dX3_add_36 rfl (lv_at hl 1 rfl) ?_
  refine va_get (D := G) (ci := 3) (v := .ref mi) (C := RX3) (T := TX3) (N := 9) hx hb hts inB3 hown hE.1 hP 0 rfl rfl 2 (by decide) (hts _ m_220) (fun _ h9 => h9) rfl dX3_add_37 ?_
  refine lv_iload hx hb dX3_add_40 (lv_at hl 0 rfl) ?_
  refine lv_iload_n hx hb dX3_add_42 rfl (lv_at hl 4 rfl) ?_
  refine va_iast hx hb hE.1 hP hD hS 3 0 rfl rfl (vinL (by decide)) dX3_add_43 (fun H locs hP hD hS => ?_)
  have hP : va_P G classes [(le, .inr (3, [.ref te, .ref ne, .ref mi, .int 0, .ref tr, .ref be, .int 0, .int 0, .int 0])), (te, .inl (cy 0, 7, .inl (upd fte 0 a))), (ne, .inl (cy 0, 7, .inl (upd fne 0 b))), (mi, .inl (cy 0, 7, .inl (upd fmi 0 d)))] H := hP
  have hD : va_D A [(le, .inr (3, [.ref te, .ref ne, .ref mi, .int 0, .ref tr, .ref be, .int 0, .int 0, .int 0])), (te, .inl (cy 0, 7, .inl (upd fte 0 a))), (ne, .inl (cy 0, 7, .inl (upd fne 0 b))), (mi, .inl (cy 0, 7, .inl (upd fmi 0 d)))] := hD
  refine lv_aload_n hx hb dX3_add_44 rfl (lv_at hl 1 rfl) ?_
  refine lv_dup hx hb dX3_add_45 rfl ?_
  refine va_get (D := G) (ci := 3) (v := .int 0) (C := RX3) (T := TX3) (N := 9) hx hb hts inB3 hown hE.1 hP 0 rfl rfl 3 (by decide) (hts _ m_221) (fun _ h9 => h9) rfl dX3_add_46 ?_
  refine lv_iconst (v := 1) hx hb dX3_add_49 (by decide) ?_
  refine lv_iadd hx hb dX3_add_50 ?_
  refine tp (v := 1) (by decide) ?_
  refine va_put (D := G) (ci := 3) (v := .int 1) (ty := .int) (C := RX3) (T := TX3) (N := 9) hx hb hts inB3 tyX3 tyX3_ok nmX3 hown hE.1 hP hD hS 0 rfl rfl 3 (by decide) (hts _ m_221) (fun _ h9 => h9) rfl (by decide +kernel) rfl rfl (Nat.le_of_ble_eq_true rfl) dX3_add_51 (fun H locs hP hD hS => ?_)
  have hP : va_P G classes [(le, .inr (3, [.ref te, .ref ne, .ref mi, .int 1, .ref tr, .ref be, .int 0, .int 0, .int 0])), (te, .inl (cy 0, 7, .inl (upd fte 0 a))), (ne, .inl (cy 0, 7, .inl (upd fne 0 b))), (mi, .inl (cy 0, 7, .inl (upd fmi 0 d)))] H := hP
  have hD : va_D A [(le, .inr (3, [.ref te, .ref ne, .ref mi, .int 1, .ref tr, .ref be, .int 0, .int 0, .int 0])), (te, .inl (cy 0, 7, .inl (upd fte 0 a))), (ne, .inl (cy 0, 7, .inl (upd fne 0 b))), (mi, .inl (cy 0, 7, .inl (upd fmi 0 d)))] := hD
  refine lv_iload hx hb dX3_add_54 (lv_at hl 0 rfl) ?_
  refine W.widen (k := 0) (n := 0) (by first | exact Nat.le_of_ble_eq_true rfl | omega) (by first | exact Nat.le_of_ble_eq_true rfl | omega) ?_
  exact W.iret (v := 0) hx hb hr (fun t ht hW => ⟨⟨0, (), rfl, rfl, trivial⟩, hS.F ht⟩) hS.2.2 dX3_add_56
