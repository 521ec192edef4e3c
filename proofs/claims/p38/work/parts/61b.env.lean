def gAt : Jvm.Cond → List Bool → Jvm.Cond
  | .and a _, true :: p => gAt a p
  | .and _ b, false :: p => gAt b p
  | c, _ => c
theorem gAt_before {args : Array Value} {s : State} : ∀ (p : List Bool) (T : Jvm.Cond), T.before args s = true → (gAt T p).before args s = true
  | [], T, h => by cases T <;> exact h
  | q :: p, T, h => by
    cases T with
    | and a b =>
      rw [Cond.before_and, Bool.and_eq_true] at h
      cases q
      · exact gAt_before p b h.2
      · exact gAt_before p a h.1
    | _ => exact h
theorem gpath {args : Array Value} {s : State} (h : (Jvm.Cond.and given_1 narrow_1).before args s = true) (p : List Bool) {c : Jvm.Cond} (e : gAt (Jvm.Cond.and given_1 narrow_1) p = c) : c.before args s = true := e ▸ gAt_before p _ h
theorem known_all {s : State} {args : Array Value} (hts : ∀ w ∈ BASE, w.before args s = true) : ∀ k : Nat, ∃ d : ClassId × (Nat → Nat), ∀ q : vw_C, classes[k]? = some q → u_Kn s q.1 q.2.1 q.2.2 d.1 d.2 := by
  intro k
  match k with
  | 0 => obtain ⟨c, i, h⟩ := u_known (C := RX0) (T := TX0) (N := 6) hts inB0 (hts _ m_383); exact ⟨(c, i), fun q hq => by cases hq; exact h⟩
  | 1 => obtain ⟨c, i, h⟩ := u_known (C := RX1) (T := TX1) (N := 3) hts inB1 (hts _ m_155); exact ⟨(c, i), fun q hq => by cases hq; exact h⟩
  | 2 => obtain ⟨c, i, h⟩ := u_known (C := RX2) (T := TX2) (N := 7) hts inB2 (hts _ m_148); exact ⟨(c, i), fun q hq => by cases hq; exact h⟩
  | 3 => obtain ⟨c, i, h⟩ := u_known (C := RX3) (T := TX3) (N := 9) hts inB3 (hts _ m_194); exact ⟨(c, i), fun q hq => by cases hq; exact h⟩
  | 4 => obtain ⟨c, i, h⟩ := u_known (C := RX4) (T := TX4) (N := 7) hts inB4 (hts _ m_348); exact ⟨(c, i), fun q hq => by cases hq; exact h⟩
  | 5 => obtain ⟨c, i, h⟩ := u_known (C := RX5) (T := TX5) (N := 2) hts inB5 (hts _ m_200); exact ⟨(c, i), fun q hq => by cases hq; exact h⟩
  | 6 => obtain ⟨c, i, h⟩ := u_known (C := RX6) (T := TX6) (N := 3) hts inB6 (hts _ m_440); exact ⟨(c, i), fun q hq => by cases hq; exact h⟩
  | 7 => obtain ⟨c, i, h⟩ := u_known (C := RX7) (T := TX7) (N := 6) hts inB7 (hts _ m_116); exact ⟨(c, i), fun q hq => by cases hq; exact h⟩
  | 8 => obtain ⟨c, i, h⟩ := u_known (C := RX8) (T := TX8) (N := 6) hts inB8 (hts _ m_412); exact ⟨(c, i), fun q hq => by cases hq; exact h⟩
  | 9 => obtain ⟨c, i, h⟩ := u_known (C := RX9) (T := TX9) (N := 11) hts inB9 (hts _ m_253); exact ⟨(c, i), fun q hq => by cases hq; exact h⟩
  | 10 => obtain ⟨c, i, h⟩ := u_known (C := RX10) (T := TX10) (N := 8) hts inB10 (hts _ m_110); exact ⟨(c, i), fun q hq => by cases hq; exact h⟩
  | 11 => obtain ⟨c, i, h⟩ := u_known (C := RX11) (T := TX11) (N := 9) hts inB11 (hts _ m_102); exact ⟨(c, i), fun q hq => by cases hq; exact h⟩
  | 12 => obtain ⟨c, i, h⟩ := u_known (C := RX12) (T := TX12) (N := 33) hts inB12 (hts _ m_1313); exact ⟨(c, i), fun q hq => by cases hq; exact h⟩
  | k + 13 => exact ⟨(0, fun _ => 0), fun q hq => by simp [classes] at hq⟩
abbrev TL : List FieldType := [.int, .boolean, .long, .object "ClickStreet$Formula", .object "ClickStreet$Walker", .object "ClickStreet$Sheet", .object "java/lang/String"]
theorem arr_p {s : State} {args : Array Value} {ty : FieldType} (h : (Cond.arrayClass ty).before args s = true) : ∃ cA : ClassId, ArrOfT s cA ty ∧ s.vm.findClass ("[" ++ ty.toString) = some cA := by
  obtain ⟨c, kA, comp, h1, h2, h3⟩ := Cond.arrayClass_spec (args := args) (first := s) (o := none) (s := s) (idx := []) h
  exact ⟨c, fun n z => ⟨(fun k q => by cases q), kA, h2, comp, h3⟩, h1⟩
theorem arr_q {s : State} {args : Array Value} {C : String} (h : (Cond.arrayOver (.object C)).before args s = true) : ∃ cA : ClassId, ArrOfT s cA (.object C) ∧ va_RA s cA (.object C) := by
  obtain ⟨comp, c, kA, h1, h2, h3, h4, h5⟩ := Cond.arrayOver_spec (args := args) (first := s) (o := none) (s := s) (idx := []) h
  exact ⟨c, fun n z => ⟨(fun k q => by cases q), kA, h3, comp, h4⟩, kA, comp, h3, h4, h1, h5⟩
theorem arr_all {s : State} {args : Array Value} (hts : ∀ w ∈ BASE, w.before args s = true) (hAO : ∀ C ∈ AOs, (Cond.arrayOver (.object C)).before args s = true) : ∀ k : Nat, ∃ cA : ClassId, ∀ ty : FieldType, TL[k]? = some ty → ArrOfT s cA ty ∧ va_RA s cA ty := by
  intro k
  match k with
  | 0 => obtain ⟨c, h1, h2⟩ := arr_p (hts _ m_146); exact ⟨c, fun q hq => by cases hq; exact ⟨h1, h2⟩⟩
  | 1 => obtain ⟨c, h1, h2⟩ := arr_p (hts _ m_409); exact ⟨c, fun q hq => by cases hq; exact ⟨h1, h2⟩⟩
  | 2 => obtain ⟨c, h1, h2⟩ := arr_p (hts _ m_410); exact ⟨c, fun q hq => by cases hq; exact ⟨h1, h2⟩⟩
  | 3 => obtain ⟨c, h1, h2⟩ := arr_q (hAO "ClickStreet$Formula" (by decide)); exact ⟨c, fun q hq => by cases hq; exact ⟨h1, h2⟩⟩
  | 4 => obtain ⟨c, h1, h2⟩ := arr_q (hAO "ClickStreet$Walker" (by decide)); exact ⟨c, fun q hq => by cases hq; exact ⟨h1, h2⟩⟩
  | 5 => obtain ⟨c, h1, h2⟩ := arr_q (hAO "ClickStreet$Sheet" (by decide)); exact ⟨c, fun q hq => by cases hq; exact ⟨h1, h2⟩⟩
  | 6 => obtain ⟨c, h1, h2⟩ := arr_q (hAO "java/lang/String" (by decide)); exact ⟨c, fun q hq => by cases hq; exact ⟨h1, h2⟩⟩
  | k + 7 => exact ⟨0, fun q hq => by simp [TL] at hq⟩
theorem nf_in : ∀ q ∈ NFs, Cond.fieldLinkNest q.1 q.2.1 q.2.2.1 q.2.2.2.1 q.2.2.2.2.1 q.2.2.2.2.2 ∈ lw_tbl := by
  have h : NFs.map (fun (q : String × Nat × String × String × String × String) => Cond.fieldLinkNest q.1 q.2.1 q.2.2.1 q.2.2.2.1 q.2.2.2.2.1 q.2.2.2.2.2) = ([122, 123, 125, 127, 129, 131, 176, 210, 211, 212, 222, 225, 228, 259, 261, 262, 263, 265, 266, 268, 269, 271, 273, 274, 276, 277, 279, 281, 283, 285, 310, 311, 313, 314, 316, 318, 320, 322, 323, 325, 327, 359, 393, 395, 421, 426, 446, 448, 449, 451] : List Nat).filterMap (fun i => lw_tbl[i]?) := by decide +kernel
  intro q hq
  have h1 := List.mem_map_of_mem (f := fun (q : String × Nat × String × String × String × String) => Cond.fieldLinkNest q.1 q.2.1 q.2.2.1 q.2.2.2.1 q.2.2.2.2.1 q.2.2.2.2.2) hq
  rw [h] at h1
  obtain ⟨i, -, hi⟩ := List.mem_filterMap.mp h1
  exact List.mem_of_getElem? hi
theorem nm_in : ∀ q ∈ NMs, Cond.methodLinkNest q.1 q.2.1 q.2.2.1 q.2.2.2 ∈ lw_tbl := by
  have h : NMs.map (fun (q : String × Nat × MethodName × String) => Cond.methodLinkNest q.1 q.2.1 q.2.2.1 q.2.2.2) = ([156, 195, 254, 349, 354, 384, 413, 441, 656] : List Nat).filterMap (fun i => lw_tbl[i]?) := by decide +kernel
  intro q hq
  have h1 := List.mem_map_of_mem (f := fun (q : String × Nat × MethodName × String) => Cond.methodLinkNest q.1 q.2.1 q.2.2.1 q.2.2.2) hq
  rw [h] at h1
  obtain ⟨i, -, hi⟩ := List.mem_filterMap.mp h1
  exact List.mem_of_getElem? hi
theorem ns_in : ∀ q ∈ NSs, Cond.stringRef q.1 q.2.1 q.2.2 ∈ lw_tbl := by
  have h : NSs.map (fun (q : String × Nat × String) => Cond.stringRef q.1 q.2.1 q.2.2) = ([357, 685, 686, 687, 1320, 1321, 1322] : List Nat).filterMap (fun i => lw_tbl[i]?) := by decide +kernel
  intro q hq
  have h1 := List.mem_map_of_mem (f := fun (q : String × Nat × String) => Cond.stringRef q.1 q.2.1 q.2.2) hq
  rw [h] at h1
  obtain ⟨i, -, hi⟩ := List.mem_filterMap.mp h1
  exact List.mem_of_getElem? hi
theorem ao_in : ∀ q ∈ AOs, Cond.arrayOver (.object q) ∈ lw_tbl := by
  have h : AOs.map (fun (q : String) => Cond.arrayOver (.object q)) = ([154, 252, 346, 1319] : List Nat).filterMap (fun i => lw_tbl[i]?) := by decide +kernel
  intro q hq
  have h1 := List.mem_map_of_mem (f := fun (q : String) => Cond.arrayOver (.object q)) hq
  rw [h] at h1
  obtain ⟨i, -, hi⟩ := List.mem_filterMap.mp h1
  exact List.mem_of_getElem? hi
theorem str_0 {s : State} {args : Array Value} (hts : ∀ w ∈ lw_tbl, w.before args s = true) (hgv : (Jvm.Cond.and given_1 narrow_1).before args s = true) : ∃ a t : Nat, (∀ q : String × Nat × String, NSs[0]? = some q → vk_R q.1 q.2.1 q.2.2 a s) ∧ va_O "java/lang/String" a (fun q => s.heap.size ≤ q) s s.heap ∧ va_OF "java/lang/String" "coder" "B" (.int 0) a (fun q => s.heap.size ≤ q) s s.heap ∧ va_OF "java/lang/String" "value" "[B" (.ref t) a (fun q => s.heap.size ≤ q) s s.heap ∧ va_T .byte t 0 (fun j => .int (([] : List Int32).getD j 0)) (fun q => s.heap.size ≤ q) s s.heap := by
  have hs := flat_of_before _ hgv
  have hex : (Cond.exactly (.string "ClickStreet$Reader" 25) "java/lang/String").before args s = true := gpath hgv [false, false, true, false, true, true, false, false, false] rfl
  obtain ⟨a, c, cA, kA, q1, -⟩ := Cond.exactly_spec (args := args) (first := s) (o := none) (s := s) (idx := []) (t := .string "ClickStreet$Reader" 25) (cls := "java/lang/String") hex
  obtain ⟨t, h1, h2⟩ := va_Tof (A := (fun q => s.heap.size ≤ q)) (tm := .field (.string "ClickStreet$Reader" 25) "java/lang/String" "value" "[B") (ty := .byte) (N := 0) (f := fun j => .int (([] : List Int32).getD j 0)) (by decide) (gpath hgv [false, false, true, false, true, false, true, false, true] rfl) (va_eqt (z := 0) (gpath hgv [false, false, true, false, true, false, true, false, false] rfl)) (fun j hj => by
    exact absurd hj (by omega)) (fun a h => Nat.not_le.mpr h)
  exact ⟨a, t, fun q hq => by cases hq; exact vk_R.of (hts _ (ns_in _ (by decide))) q1, va_Oof hex q1 (fun a h => Nat.not_le.mpr h), vk_OFof q1 (va_eqt (z := 0) (gpath hgv [false, false, true, false, true, false, true, true] rfl)) (fun a h => Nat.not_le.mpr h), vk_OFof q1 h1 (fun a h => Nat.not_le.mpr h), h2⟩
theorem str_1 {s : State} {args : Array Value} (hts : ∀ w ∈ lw_tbl, w.before args s = true) (hgv : (Jvm.Cond.and given_1 narrow_1).before args s = true) : ∃ a t : Nat, (∀ q : String × Nat × String, NSs[1]? = some q → vk_R q.1 q.2.1 q.2.2 a s) ∧ va_O "java/lang/String" a (fun q => s.heap.size ≤ q) s s.heap ∧ va_OF "java/lang/String" "coder" "B" (.int 0) a (fun q => s.heap.size ≤ q) s s.heap ∧ va_OF "java/lang/String" "value" "[B" (.ref t) a (fun q => s.heap.size ≤ q) s s.heap ∧ va_T .byte t 4 (fun j => .int (([108, 111, 121, 112] : List Int32).getD j 0)) (fun q => s.heap.size ≤ q) s s.heap := by
  have hs := flat_of_before _ hgv
  have hex : (Cond.exactly (.string "ClickStreet$Reader" 44) "java/lang/String").before args s = true := gpath hgv [false, false, true, false, true, false, false, true, true] rfl
  obtain ⟨a, c, cA, kA, q1, -⟩ := Cond.exactly_spec (args := args) (first := s) (o := none) (s := s) (idx := []) (t := .string "ClickStreet$Reader" 44) (cls := "java/lang/String") hex
  obtain ⟨t, h1, h2⟩ := va_Tof (A := (fun q => s.heap.size ≤ q)) (tm := .field (.string "ClickStreet$Reader" 44) "java/lang/String" "value" "[B") (ty := .byte) (N := 4) (f := fun j => .int (([108, 111, 121, 112] : List Int32).getD j 0)) (by decide) (gpath hgv [false, false, true, false, true, false, false, false, true] rfl) (va_eqt (z := 4) (gpath hgv [false, false, true, false, true, false, false, false, false] rfl)) (fun j hj => by
    match j, hj with
    | 0, _ => exact va_eqt (t := .elem (.field (.string "ClickStreet$Reader" 44) "java/lang/String" "value" "[B") (.int (0 : Int32))) (z := 108) (gpath hgv [false, false, true, false, false, true, true, true] rfl)
    | 1, _ => exact va_eqt (t := .elem (.field (.string "ClickStreet$Reader" 44) "java/lang/String" "value" "[B") (.int (1 : Int32))) (z := 111) (gpath hgv [false, false, true, false, false, true, true, false, true] rfl)
    | 2, _ => exact va_eqt (t := .elem (.field (.string "ClickStreet$Reader" 44) "java/lang/String" "value" "[B") (.int (2 : Int32))) (z := 121) (gpath hgv [false, false, true, false, false, true, true, false, false] rfl)
    | 3, _ => exact va_eqt (t := .elem (.field (.string "ClickStreet$Reader" 44) "java/lang/String" "value" "[B") (.int (3 : Int32))) (z := 112) (gpath hgv [false, false, true, false, false, true, false, true, true] rfl)
    | j + 4, h => exact absurd h (by omega)) (fun a h => Nat.not_le.mpr h)
  exact ⟨a, t, fun q hq => by cases hq; exact vk_R.of (hts _ (ns_in _ (by decide))) q1, va_Oof hex q1 (fun a h => Nat.not_le.mpr h), vk_OFof q1 (va_eqt (z := 0) (gpath hgv [false, false, true, false, true, false, false, true, false] rfl)) (fun a h => Nat.not_le.mpr h), vk_OFof q1 h1 (fun a h => Nat.not_le.mpr h), h2⟩
theorem str_2 {s : State} {args : Array Value} (hts : ∀ w ∈ lw_tbl, w.before args s = true) (hgv : (Jvm.Cond.and given_1 narrow_1).before args s = true) : ∃ a t : Nat, (∀ q : String × Nat × String, NSs[2]? = some q → vk_R q.1 q.2.1 q.2.2 a s) ∧ va_O "java/lang/String" a (fun q => s.heap.size ≤ q) s s.heap ∧ va_OF "java/lang/String" "coder" "B" (.int 0) a (fun q => s.heap.size ≤ q) s s.heap ∧ va_OF "java/lang/String" "value" "[B" (.ref t) a (fun q => s.heap.size ≤ q) s s.heap ∧ va_T .byte t 3 (fun j => .int (([115, 110, 116] : List Int32).getD j 0)) (fun q => s.heap.size ≤ q) s s.heap := by
  have hs := flat_of_before _ hgv
  have hex : (Cond.exactly (.string "ClickStreet$Reader" 48) "java/lang/String").before args s = true := gpath hgv [false, false, true, false, false, true, false, false, true] rfl
  obtain ⟨a, c, cA, kA, q1, -⟩ := Cond.exactly_spec (args := args) (first := s) (o := none) (s := s) (idx := []) (t := .string "ClickStreet$Reader" 48) (cls := "java/lang/String") hex
  obtain ⟨t, h1, h2⟩ := va_Tof (A := (fun q => s.heap.size ≤ q)) (tm := .field (.string "ClickStreet$Reader" 48) "java/lang/String" "value" "[B") (ty := .byte) (N := 3) (f := fun j => .int (([115, 110, 116] : List Int32).getD j 0)) (by decide) (gpath hgv [false, false, true, false, false, false, true, true, true] rfl) (va_eqt (z := 3) (gpath hgv [false, false, true, false, false, false, true, true, false] rfl)) (fun j hj => by
    match j, hj with
    | 0, _ => exact va_eqt (t := .elem (.field (.string "ClickStreet$Reader" 48) "java/lang/String" "value" "[B") (.int (0 : Int32))) (z := 115) (gpath hgv [false, false, true, false, false, false, true, false, true] rfl)
    | 1, _ => exact va_eqt (t := .elem (.field (.string "ClickStreet$Reader" 48) "java/lang/String" "value" "[B") (.int (1 : Int32))) (z := 110) (gpath hgv [false, false, true, false, false, false, true, false, false] rfl)
    | 2, _ => exact va_eqt (t := .elem (.field (.string "ClickStreet$Reader" 48) "java/lang/String" "value" "[B") (.int (2 : Int32))) (z := 116) (gpath hgv [false, false, true, false, false, false, false, true, true] rfl)
    | j + 3, h => exact absurd h (by omega)) (fun a h => Nat.not_le.mpr h)
  exact ⟨a, t, fun q hq => by cases hq; exact vk_R.of (hts _ (ns_in _ (by decide))) q1, va_Oof hex q1 (fun a h => Nat.not_le.mpr h), vk_OFof q1 (va_eqt (z := 0) (gpath hgv [false, false, true, false, false, true, false, false, false] rfl)) (fun a h => Nat.not_le.mpr h), vk_OFof q1 h1 (fun a h => Nat.not_le.mpr h), h2⟩
theorem str_3 {s : State} {args : Array Value} (hts : ∀ w ∈ lw_tbl, w.before args s = true) (hgv : (Jvm.Cond.and given_1 narrow_1).before args s = true) : ∃ a t : Nat, (∀ q : String × Nat × String, NSs[3]? = some q → vk_R q.1 q.2.1 q.2.2 a s) ∧ va_O "java/lang/String" a (fun q => s.heap.size ≤ q) s s.heap ∧ va_OF "java/lang/String" "coder" "B" (.int 0) a (fun q => s.heap.size ≤ q) s s.heap ∧ va_OF "java/lang/String" "value" "[B" (.ref t) a (fun q => s.heap.size ≤ q) s s.heap ∧ va_T .byte t 5 (fun j => .int (([102, 108, 114, 98, 116] : List Int32).getD j 0)) (fun q => s.heap.size ≤ q) s s.heap := by
  have hs := flat_of_before _ hgv
  have hex : (Cond.exactly (.string "ClickStreet$Reader" 50) "java/lang/String").before args s = true := gpath hgv [false, false, true, false, false, false, false, false, false] rfl
  obtain ⟨a, c, cA, kA, q1, -⟩ := Cond.exactly_spec (args := args) (first := s) (o := none) (s := s) (idx := []) (t := .string "ClickStreet$Reader" 50) (cls := "java/lang/String") hex
  obtain ⟨t, h1, h2⟩ := va_Tof (A := (fun q => s.heap.size ≤ q)) (tm := .field (.string "ClickStreet$Reader" 50) "java/lang/String" "value" "[B") (ty := .byte) (N := 5) (f := fun j => .int (([102, 108, 114, 98, 116] : List Int32).getD j 0)) (by decide) (gpath hgv [false, false, false, true, true, true, true, false, true] rfl) (va_eqt (z := 5) (gpath hgv [false, false, false, true, true, true, true, false, false] rfl)) (fun j hj => by
    match j, hj with
    | 0, _ => exact va_eqt (t := .elem (.field (.string "ClickStreet$Reader" 50) "java/lang/String" "value" "[B") (.int (0 : Int32))) (z := 102) (gpath hgv [false, false, false, true, true, true, false, true, true] rfl)
    | 1, _ => exact va_eqt (t := .elem (.field (.string "ClickStreet$Reader" 50) "java/lang/String" "value" "[B") (.int (1 : Int32))) (z := 108) (gpath hgv [false, false, false, true, true, true, false, true, false] rfl)
    | 2, _ => exact va_eqt (t := .elem (.field (.string "ClickStreet$Reader" 50) "java/lang/String" "value" "[B") (.int (2 : Int32))) (z := 114) (gpath hgv [false, false, false, true, true, true, false, false, true] rfl)
    | 3, _ => exact va_eqt (t := .elem (.field (.string "ClickStreet$Reader" 50) "java/lang/String" "value" "[B") (.int (3 : Int32))) (z := 98) (gpath hgv [false, false, false, true, true, true, false, false, false] rfl)
    | 4, _ => exact va_eqt (t := .elem (.field (.string "ClickStreet$Reader" 50) "java/lang/String" "value" "[B") (.int (4 : Int32))) (z := 116) (gpath hgv [false, false, false, true, true, false, true, true] rfl)
    | j + 5, h => exact absurd h (by omega)) (fun a h => Nat.not_le.mpr h)
  exact ⟨a, t, fun q hq => by cases hq; exact vk_R.of (hts _ (ns_in _ (by decide))) q1, va_Oof hex q1 (fun a h => Nat.not_le.mpr h), vk_OFof q1 (va_eqt (z := 0) (gpath hgv [false, false, false, true, true, true, true, true] rfl)) (fun a h => Nat.not_le.mpr h), vk_OFof q1 h1 (fun a h => Nat.not_le.mpr h), h2⟩
theorem str_4 {s : State} {args : Array Value} (hts : ∀ w ∈ lw_tbl, w.before args s = true) (hgv : (Jvm.Cond.and given_1 narrow_1).before args s = true) : ∃ a t : Nat, (∀ q : String × Nat × String, NSs[4]? = some q → vk_R q.1 q.2.1 q.2.2 a s) ∧ va_O "java/lang/String" a (fun q => s.heap.size ≤ q) s s.heap ∧ va_OF "java/lang/String" "coder" "B" (.int 0) a (fun q => s.heap.size ≤ q) s s.heap ∧ va_OF "java/lang/String" "value" "[B" (.ref t) a (fun q => s.heap.size ≤ q) s s.heap ∧ va_T .byte t 4 (fun j => .int (([108, 111, 121, 112] : List Int32).getD j 0)) (fun q => s.heap.size ≤ q) s s.heap := by
  have hs := flat_of_before _ hgv
  have hex : (Cond.exactly (.string "ClickStreetModel" 34) "java/lang/String").before args s = true := gpath hgv [false, false, false, true, true, false, false, true, false] rfl
  obtain ⟨a, c, cA, kA, q1, -⟩ := Cond.exactly_spec (args := args) (first := s) (o := none) (s := s) (idx := []) (t := .string "ClickStreetModel" 34) (cls := "java/lang/String") hex
  obtain ⟨t, h1, h2⟩ := va_Tof (A := (fun q => s.heap.size ≤ q)) (tm := .field (.string "ClickStreetModel" 34) "java/lang/String" "value" "[B") (ty := .byte) (N := 4) (f := fun j => .int (([108, 111, 121, 112] : List Int32).getD j 0)) (by decide) (gpath hgv [false, false, false, true, true, false, false, false, false] rfl) (va_eqt (z := 4) (gpath hgv [false, false, false, true, false, true, true, true] rfl)) (fun j hj => by
    match j, hj with
    | 0, _ => exact va_eqt (t := .elem (.field (.string "ClickStreetModel" 34) "java/lang/String" "value" "[B") (.int (0 : Int32))) (z := 108) (gpath hgv [false, false, false, true, false, true, true, false, true] rfl)
    | 1, _ => exact va_eqt (t := .elem (.field (.string "ClickStreetModel" 34) "java/lang/String" "value" "[B") (.int (1 : Int32))) (z := 111) (gpath hgv [false, false, false, true, false, true, true, false, false] rfl)
    | 2, _ => exact va_eqt (t := .elem (.field (.string "ClickStreetModel" 34) "java/lang/String" "value" "[B") (.int (2 : Int32))) (z := 121) (gpath hgv [false, false, false, true, false, true, false, true, true] rfl)
    | 3, _ => exact va_eqt (t := .elem (.field (.string "ClickStreetModel" 34) "java/lang/String" "value" "[B") (.int (3 : Int32))) (z := 112) (gpath hgv [false, false, false, true, false, true, false, true, false] rfl)
    | j + 4, h => exact absurd h (by omega)) (fun a h => Nat.not_le.mpr h)
  exact ⟨a, t, fun q hq => by cases hq; exact vk_R.of (hts _ (ns_in _ (by decide))) q1, va_Oof hex q1 (fun a h => Nat.not_le.mpr h), vk_OFof q1 (va_eqt (z := 0) (gpath hgv [false, false, false, true, true, false, false, false, true] rfl)) (fun a h => Nat.not_le.mpr h), vk_OFof q1 h1 (fun a h => Nat.not_le.mpr h), h2⟩
theorem str_5 {s : State} {args : Array Value} (hts : ∀ w ∈ lw_tbl, w.before args s = true) (hgv : (Jvm.Cond.and given_1 narrow_1).before args s = true) : ∃ a t : Nat, (∀ q : String × Nat × String, NSs[5]? = some q → vk_R q.1 q.2.1 q.2.2 a s) ∧ va_O "java/lang/String" a (fun q => s.heap.size ≤ q) s s.heap ∧ va_OF "java/lang/String" "coder" "B" (.int 0) a (fun q => s.heap.size ≤ q) s s.heap ∧ va_OF "java/lang/String" "value" "[B" (.ref t) a (fun q => s.heap.size ≤ q) s s.heap ∧ va_T .byte t 3 (fun j => .int (([115, 110, 116] : List Int32).getD j 0)) (fun q => s.heap.size ≤ q) s s.heap := by
  have hs := flat_of_before _ hgv
  have hex : (Cond.exactly (.string "ClickStreetModel" 36) "java/lang/String").before args s = true := gpath hgv [false, false, false, true, false, false, true, false, false] rfl
  obtain ⟨a, c, cA, kA, q1, -⟩ := Cond.exactly_spec (args := args) (first := s) (o := none) (s := s) (idx := []) (t := .string "ClickStreetModel" 36) (cls := "java/lang/String") hex
  obtain ⟨t, h1, h2⟩ := va_Tof (A := (fun q => s.heap.size ≤ q)) (tm := .field (.string "ClickStreetModel" 36) "java/lang/String" "value" "[B") (ty := .byte) (N := 3) (f := fun j => .int (([115, 110, 116] : List Int32).getD j 0)) (by decide) (gpath hgv [false, false, false, true, false, false, false, true, false] rfl) (va_eqt (z := 3) (gpath hgv [false, false, false, true, false, false, false, false, true] rfl)) (fun j hj => by
    match j, hj with
    | 0, _ => exact va_eqt (t := .elem (.field (.string "ClickStreetModel" 36) "java/lang/String" "value" "[B") (.int (0 : Int32))) (z := 115) (gpath hgv [false, false, false, true, false, false, false, false, false] rfl)
    | 1, _ => exact va_eqt (t := .elem (.field (.string "ClickStreetModel" 36) "java/lang/String" "value" "[B") (.int (1 : Int32))) (z := 110) (gpath hgv [false, false, false, false, true, true, true, true] rfl)
    | 2, _ => exact va_eqt (t := .elem (.field (.string "ClickStreetModel" 36) "java/lang/String" "value" "[B") (.int (2 : Int32))) (z := 116) (gpath hgv [false, false, false, false, true, true, true, false, true] rfl)
    | j + 3, h => exact absurd h (by omega)) (fun a h => Nat.not_le.mpr h)
  exact ⟨a, t, fun q hq => by cases hq; exact vk_R.of (hts _ (ns_in _ (by decide))) q1, va_Oof hex q1 (fun a h => Nat.not_le.mpr h), vk_OFof q1 (va_eqt (z := 0) (gpath hgv [false, false, false, true, false, false, false, true, true] rfl)) (fun a h => Nat.not_le.mpr h), vk_OFof q1 h1 (fun a h => Nat.not_le.mpr h), h2⟩
theorem str_6 {s : State} {args : Array Value} (hts : ∀ w ∈ lw_tbl, w.before args s = true) (hgv : (Jvm.Cond.and given_1 narrow_1).before args s = true) : ∃ a t : Nat, (∀ q : String × Nat × String, NSs[6]? = some q → vk_R q.1 q.2.1 q.2.2 a s) ∧ va_O "java/lang/String" a (fun q => s.heap.size ≤ q) s s.heap ∧ va_OF "java/lang/String" "coder" "B" (.int 0) a (fun q => s.heap.size ≤ q) s s.heap ∧ va_OF "java/lang/String" "value" "[B" (.ref t) a (fun q => s.heap.size ≤ q) s s.heap ∧ va_T .byte t 5 (fun j => .int (([102, 108, 114, 98, 116] : List Int32).getD j 0)) (fun q => s.heap.size ≤ q) s s.heap := by
  have hs := flat_of_before _ hgv
  have hex : (Cond.exactly (.string "ClickStreetModel" 38) "java/lang/String").before args s = true := gpath hgv [false, false, false, false, true, false, true, true] rfl
  obtain ⟨a, c, cA, kA, q1, -⟩ := Cond.exactly_spec (args := args) (first := s) (o := none) (s := s) (idx := []) (t := .string "ClickStreetModel" 38) (cls := "java/lang/String") hex
  obtain ⟨t, h1, h2⟩ := va_Tof (A := (fun q => s.heap.size ≤ q)) (tm := .field (.string "ClickStreetModel" 38) "java/lang/String" "value" "[B") (ty := .byte) (N := 5) (f := fun j => .int (([102, 108, 114, 98, 116] : List Int32).getD j 0)) (by decide) (gpath hgv [false, false, false, false, true, false, true, false, false] rfl) (va_eqt (z := 5) (gpath hgv [false, false, false, false, true, false, false, true, true] rfl)) (fun j hj => by
    match j, hj with
    | 0, _ => exact va_eqt (t := .elem (.field (.string "ClickStreetModel" 38) "java/lang/String" "value" "[B") (.int (0 : Int32))) (z := 102) (gpath hgv [false, false, false, false, true, false, false, true, false] rfl)
    | 1, _ => exact va_eqt (t := .elem (.field (.string "ClickStreetModel" 38) "java/lang/String" "value" "[B") (.int (1 : Int32))) (z := 108) (gpath hgv [false, false, false, false, true, false, false, false, true] rfl)
    | 2, _ => exact va_eqt (t := .elem (.field (.string "ClickStreetModel" 38) "java/lang/String" "value" "[B") (.int (2 : Int32))) (z := 114) (gpath hgv [false, false, false, false, true, false, false, false, false] rfl)
    | 3, _ => exact va_eqt (t := .elem (.field (.string "ClickStreetModel" 38) "java/lang/String" "value" "[B") (.int (3 : Int32))) (z := 98) (gpath hgv [false, false, false, false, false, true, true, true] rfl)
    | 4, _ => exact va_eqt (t := .elem (.field (.string "ClickStreetModel" 38) "java/lang/String" "value" "[B") (.int (4 : Int32))) (z := 116) (gpath hgv [false, false, false, false, false, true, true, false, true] rfl)
    | j + 5, h => exact absurd h (by omega)) (fun a h => Nat.not_le.mpr h)
  exact ⟨a, t, fun q hq => by cases hq; exact vk_R.of (hts _ (ns_in _ (by decide))) q1, va_Oof hex q1 (fun a h => Nat.not_le.mpr h), vk_OFof q1 (va_eqt (z := 0) (gpath hgv [false, false, false, false, true, false, true, false, true] rfl)) (fun a h => Nat.not_le.mpr h), vk_OFof q1 h1 (fun a h => Nat.not_le.mpr h), h2⟩
theorem sta_0 {s : State} {args : Array Value} (hts : ∀ w ∈ lw_tbl, w.before args s = true) (hgv : (Jvm.Cond.and given_1 narrow_1).before args s = true) : ∃ t : Nat, va_Z RX9 "REACHES" "[I" (.ref t) (fun q => s.heap.size ≤ q) s s.heap ∧ va_T .int t 8 (fun j => .int (([3, 12, 1, 6, 0, 6, 5, 10] : List Int32).getD j 0)) (fun q => s.heap.size ≤ q) s s.heap := by
  have hs := flat_of_before _ hgv
  obtain ⟨t, h1, h2⟩ := va_Tof (A := (fun q => s.heap.size ≤ q)) (tm := .static "ClickStreet$Walker" "REACHES" "[I") (ty := .int) (N := 8) (f := fun j => .int (([3, 12, 1, 6, 0, 6, 5, 10] : List Int32).getD j 0)) (by decide) (gpath hgv [false, true, true, true, true, true, false, true, true] rfl) (va_eqt (z := 8) (gpath hgv [false, true, true, true, true, true, false, true, false] rfl)) (fun j hj => by
    match j, hj with
    | 0, _ => exact va_eqt (t := .elem (.static "ClickStreet$Walker" "REACHES" "[I") (.int (0 : Int32))) (z := 3) (gpath hgv [false, true, true, true, true, true, false, false, true] rfl)
    | 1, _ => exact va_eqt (t := .elem (.static "ClickStreet$Walker" "REACHES" "[I") (.int (1 : Int32))) (z := 12) (gpath hgv [false, true, true, true, true, true, false, false, false] rfl)
    | 2, _ => exact va_eqt (t := .elem (.static "ClickStreet$Walker" "REACHES" "[I") (.int (2 : Int32))) (z := 1) (gpath hgv [false, true, true, true, true, false, true, true] rfl)
    | 3, _ => exact va_eqt (t := .elem (.static "ClickStreet$Walker" "REACHES" "[I") (.int (3 : Int32))) (z := 6) (gpath hgv [false, true, true, true, true, false, true, false, true] rfl)
    | 4, _ => exact va_eqt (t := .elem (.static "ClickStreet$Walker" "REACHES" "[I") (.int (4 : Int32))) (z := 0) (gpath hgv [false, true, true, true, true, false, true, false, false] rfl)
    | 5, _ => exact va_eqt (t := .elem (.static "ClickStreet$Walker" "REACHES" "[I") (.int (5 : Int32))) (z := 6) (gpath hgv [false, true, true, true, true, false, false, true, true] rfl)
    | 6, _ => exact va_eqt (t := .elem (.static "ClickStreet$Walker" "REACHES" "[I") (.int (6 : Int32))) (z := 5) (gpath hgv [false, true, true, true, true, false, false, true, false] rfl)
    | 7, _ => exact va_eqt (t := .elem (.static "ClickStreet$Walker" "REACHES" "[I") (.int (7 : Int32))) (z := 10) (gpath hgv [false, true, true, true, true, false, false, false, true] rfl)
    | j + 8, h => exact absurd h (by omega)) (fun a h => Nat.not_le.mpr h)
  exact ⟨t, va_Zref (hts (Cond.laysStatic RX9 "REACHES" "[I") (List.mem_append_right _ (tbM3 64 rfl))) (hts _ (List.mem_filter.mp m_87).1) h1 (fun a h => Nat.not_le.mpr h), h2⟩
theorem sta_1 {s : State} {args : Array Value} (hts : ∀ w ∈ lw_tbl, w.before args s = true) (hgv : (Jvm.Cond.and given_1 narrow_1).before args s = true) : ∃ t : Nat, va_Z RX9 "SPEEDS" "[I" (.ref t) (fun q => s.heap.size ≤ q) s s.heap ∧ va_T .int t 8 (fun j => .int (([1, 1, 1, 1, 1, 1, 1, 2] : List Int32).getD j 0)) (fun q => s.heap.size ≤ q) s s.heap := by
  have hs := flat_of_before _ hgv
  obtain ⟨t, h1, h2⟩ := va_Tof (A := (fun q => s.heap.size ≤ q)) (tm := .static "ClickStreet$Walker" "SPEEDS" "[I") (ty := .int) (N := 8) (f := fun j => .int (([1, 1, 1, 1, 1, 1, 1, 2] : List Int32).getD j 0)) (by decide) (gpath hgv [false, true, true, true, false, true, true, true] rfl) (va_eqt (z := 8) (gpath hgv [false, true, true, true, false, true, true, false, true] rfl)) (fun j hj => by
    match j, hj with
    | 0, _ => exact va_eqt (t := .elem (.static "ClickStreet$Walker" "SPEEDS" "[I") (.int (0 : Int32))) (z := 1) (gpath hgv [false, true, true, true, false, true, true, false, false] rfl)
    | 1, _ => exact va_eqt (t := .elem (.static "ClickStreet$Walker" "SPEEDS" "[I") (.int (1 : Int32))) (z := 1) (gpath hgv [false, true, true, true, false, true, false, true, true] rfl)
    | 2, _ => exact va_eqt (t := .elem (.static "ClickStreet$Walker" "SPEEDS" "[I") (.int (2 : Int32))) (z := 1) (gpath hgv [false, true, true, true, false, true, false, true, false] rfl)
    | 3, _ => exact va_eqt (t := .elem (.static "ClickStreet$Walker" "SPEEDS" "[I") (.int (3 : Int32))) (z := 1) (gpath hgv [false, true, true, true, false, true, false, false, true] rfl)
    | 4, _ => exact va_eqt (t := .elem (.static "ClickStreet$Walker" "SPEEDS" "[I") (.int (4 : Int32))) (z := 1) (gpath hgv [false, true, true, true, false, true, false, false, false] rfl)
    | 5, _ => exact va_eqt (t := .elem (.static "ClickStreet$Walker" "SPEEDS" "[I") (.int (5 : Int32))) (z := 1) (gpath hgv [false, true, true, true, false, false, true, true] rfl)
    | 6, _ => exact va_eqt (t := .elem (.static "ClickStreet$Walker" "SPEEDS" "[I") (.int (6 : Int32))) (z := 1) (gpath hgv [false, true, true, true, false, false, true, false, true] rfl)
    | 7, _ => exact va_eqt (t := .elem (.static "ClickStreet$Walker" "SPEEDS" "[I") (.int (7 : Int32))) (z := 2) (gpath hgv [false, true, true, true, false, false, true, false, false] rfl)
    | j + 8, h => exact absurd h (by omega)) (fun a h => Nat.not_le.mpr h)
  exact ⟨t, va_Zref (hts (Cond.laysStatic RX9 "SPEEDS" "[I") (List.mem_append_right _ (tbM3 70 rfl))) (hts _ (List.mem_filter.mp m_87).1) h1 (fun a h => Nat.not_le.mpr h), h2⟩
theorem sta_2 {s : State} {args : Array Value} (hts : ∀ w ∈ lw_tbl, w.before args s = true) (hgv : (Jvm.Cond.and given_1 narrow_1).before args s = true) : ∃ t : Nat, va_Z RX9 "HEARS_TO" "[I" (.ref t) (fun q => s.heap.size ≤ q) s s.heap ∧ va_T .int t 8 (fun j => .int (([9, 9, 9, 9, 9, 9, 5, 9] : List Int32).getD j 0)) (fun q => s.heap.size ≤ q) s s.heap := by
  have hs := flat_of_before _ hgv
  obtain ⟨t, h1, h2⟩ := va_Tof (A := (fun q => s.heap.size ≤ q)) (tm := .static "ClickStreet$Walker" "HEARS_TO" "[I") (ty := .int) (N := 8) (f := fun j => .int (([9, 9, 9, 9, 9, 9, 5, 9] : List Int32).getD j 0)) (by decide) (gpath hgv [false, true, true, true, false, false, false, true, false] rfl) (va_eqt (z := 8) (gpath hgv [false, true, true, true, false, false, false, false, true] rfl)) (fun j hj => by
    match j, hj with
    | 0, _ => exact va_eqt (t := .elem (.static "ClickStreet$Walker" "HEARS_TO" "[I") (.int (0 : Int32))) (z := 9) (gpath hgv [false, true, true, true, false, false, false, false, false] rfl)
    | 1, _ => exact va_eqt (t := .elem (.static "ClickStreet$Walker" "HEARS_TO" "[I") (.int (1 : Int32))) (z := 9) (gpath hgv [false, true, true, false, true, true, true, true] rfl)
    | 2, _ => exact va_eqt (t := .elem (.static "ClickStreet$Walker" "HEARS_TO" "[I") (.int (2 : Int32))) (z := 9) (gpath hgv [false, true, true, false, true, true, true, false, true] rfl)
    | 3, _ => exact va_eqt (t := .elem (.static "ClickStreet$Walker" "HEARS_TO" "[I") (.int (3 : Int32))) (z := 9) (gpath hgv [false, true, true, false, true, true, true, false, false] rfl)
    | 4, _ => exact va_eqt (t := .elem (.static "ClickStreet$Walker" "HEARS_TO" "[I") (.int (4 : Int32))) (z := 9) (gpath hgv [false, true, true, false, true, true, false, true, true] rfl)
    | 5, _ => exact va_eqt (t := .elem (.static "ClickStreet$Walker" "HEARS_TO" "[I") (.int (5 : Int32))) (z := 9) (gpath hgv [false, true, true, false, true, true, false, true, false] rfl)
    | 6, _ => exact va_eqt (t := .elem (.static "ClickStreet$Walker" "HEARS_TO" "[I") (.int (6 : Int32))) (z := 5) (gpath hgv [false, true, true, false, true, true, false, false, true] rfl)
    | 7, _ => exact va_eqt (t := .elem (.static "ClickStreet$Walker" "HEARS_TO" "[I") (.int (7 : Int32))) (z := 9) (gpath hgv [false, true, true, false, true, true, false, false, false] rfl)
    | j + 8, h => exact absurd h (by omega)) (fun a h => Nat.not_le.mpr h)
  exact ⟨t, va_Zref (hts (Cond.laysStatic RX9 "HEARS_TO" "[I") (List.mem_append_right _ (tbM3 76 rfl))) (hts _ (List.mem_filter.mp m_87).1) h1 (fun a h => Nat.not_le.mpr h), h2⟩
theorem sta_3 {s : State} {args : Array Value} (hts : ∀ w ∈ lw_tbl, w.before args s = true) (hgv : (Jvm.Cond.and given_1 narrow_1).before args s = true) : ∃ t : Nat, va_Z RX9 "ABOVE" "[I" (.ref t) (fun q => s.heap.size ≤ q) s s.heap ∧ va_T .int t 8 (fun j => .int (([-1, 0, 0, 0, 0, 1, 3, 1] : List Int32).getD j 0)) (fun q => s.heap.size ≤ q) s s.heap := by
  have hs := flat_of_before _ hgv
  obtain ⟨t, h1, h2⟩ := va_Tof (A := (fun q => s.heap.size ≤ q)) (tm := .static "ClickStreet$Walker" "ABOVE" "[I") (ty := .int) (N := 8) (f := fun j => .int (([-1, 0, 0, 0, 0, 1, 3, 1] : List Int32).getD j 0)) (by decide) (gpath hgv [false, true, true, false, true, false, true, false, true] rfl) (va_eqt (z := 8) (gpath hgv [false, true, true, false, true, false, true, false, false] rfl)) (fun j hj => by
    match j, hj with
    | 0, _ => exact va_eqt (t := .elem (.static "ClickStreet$Walker" "ABOVE" "[I") (.int (0 : Int32))) (z := (-1)) (gpath hgv [false, true, true, false, true, false, false, true, true] rfl)
    | 1, _ => exact va_eqt (t := .elem (.static "ClickStreet$Walker" "ABOVE" "[I") (.int (1 : Int32))) (z := 0) (gpath hgv [false, true, true, false, true, false, false, true, false] rfl)
    | 2, _ => exact va_eqt (t := .elem (.static "ClickStreet$Walker" "ABOVE" "[I") (.int (2 : Int32))) (z := 0) (gpath hgv [false, true, true, false, true, false, false, false, true] rfl)
    | 3, _ => exact va_eqt (t := .elem (.static "ClickStreet$Walker" "ABOVE" "[I") (.int (3 : Int32))) (z := 0) (gpath hgv [false, true, true, false, true, false, false, false, false] rfl)
    | 4, _ => exact va_eqt (t := .elem (.static "ClickStreet$Walker" "ABOVE" "[I") (.int (4 : Int32))) (z := 0) (gpath hgv [false, true, true, false, false, true, true, true] rfl)
    | 5, _ => exact va_eqt (t := .elem (.static "ClickStreet$Walker" "ABOVE" "[I") (.int (5 : Int32))) (z := 1) (gpath hgv [false, true, true, false, false, true, true, false, true] rfl)
    | 6, _ => exact va_eqt (t := .elem (.static "ClickStreet$Walker" "ABOVE" "[I") (.int (6 : Int32))) (z := 3) (gpath hgv [false, true, true, false, false, true, true, false, false] rfl)
    | 7, _ => exact va_eqt (t := .elem (.static "ClickStreet$Walker" "ABOVE" "[I") (.int (7 : Int32))) (z := 1) (gpath hgv [false, true, true, false, false, true, false, true, true] rfl)
    | j + 8, h => exact absurd h (by omega)) (fun a h => Nat.not_le.mpr h)
  exact ⟨t, va_Zref (hts (Cond.laysStatic RX9 "ABOVE" "[I") (List.mem_append_right _ (tbM3 89 rfl))) (hts _ (List.mem_filter.mp m_87).1) h1 (fun a h => Nat.not_le.mpr h), h2⟩
theorem sta_4 {s : State} {args : Array Value} (hts : ∀ w ∈ lw_tbl, w.before args s = true) (hgv : (Jvm.Cond.and given_1 narrow_1).before args s = true) : ∃ t : Nat, va_Z RX7 "EAST" "[I" (.ref t) (fun q => s.heap.size ≤ q) s s.heap ∧ va_T .int t 8 (fun j => .int (([0, 1, 1, 1, 0, -1, -1, -1] : List Int32).getD j 0)) (fun q => s.heap.size ≤ q) s s.heap := by
  have hs := flat_of_before _ hgv
  obtain ⟨t, h1, h2⟩ := va_Tof (A := (fun q => s.heap.size ≤ q)) (tm := .static "ClickStreet$Street" "EAST" "[I") (ty := .int) (N := 8) (f := fun j => .int (([0, 1, 1, 1, 0, -1, -1, -1] : List Int32).getD j 0)) (by decide) (gpath hgv [false, true, true, false, false, false, false, true, true] rfl) (va_eqt (z := 8) (gpath hgv [false, true, true, false, false, false, false, true, false] rfl)) (fun j hj => by
    match j, hj with
    | 0, _ => exact va_eqt (t := .elem (.static "ClickStreet$Street" "EAST" "[I") (.int (0 : Int32))) (z := 0) (gpath hgv [false, true, true, false, false, false, false, false, true] rfl)
    | 1, _ => exact va_eqt (t := .elem (.static "ClickStreet$Street" "EAST" "[I") (.int (1 : Int32))) (z := 1) (gpath hgv [false, true, true, false, false, false, false, false, false] rfl)
    | 2, _ => exact va_eqt (t := .elem (.static "ClickStreet$Street" "EAST" "[I") (.int (2 : Int32))) (z := 1) (gpath hgv [false, true, false, true, true, true, true, true] rfl)
    | 3, _ => exact va_eqt (t := .elem (.static "ClickStreet$Street" "EAST" "[I") (.int (3 : Int32))) (z := 1) (gpath hgv [false, true, false, true, true, true, true, false, true] rfl)
    | 4, _ => exact va_eqt (t := .elem (.static "ClickStreet$Street" "EAST" "[I") (.int (4 : Int32))) (z := 0) (gpath hgv [false, true, false, true, true, true, true, false, false] rfl)
    | 5, _ => exact va_eqt (t := .elem (.static "ClickStreet$Street" "EAST" "[I") (.int (5 : Int32))) (z := (-1)) (gpath hgv [false, true, false, true, true, true, false, true, true] rfl)
    | 6, _ => exact va_eqt (t := .elem (.static "ClickStreet$Street" "EAST" "[I") (.int (6 : Int32))) (z := (-1)) (gpath hgv [false, true, false, true, true, true, false, true, false] rfl)
    | 7, _ => exact va_eqt (t := .elem (.static "ClickStreet$Street" "EAST" "[I") (.int (7 : Int32))) (z := (-1)) (gpath hgv [false, true, false, true, true, true, false, false, true] rfl)
    | j + 8, h => exact absurd h (by omega)) (fun a h => Nat.not_le.mpr h)
  exact ⟨t, va_Zref (hts (Cond.laysStatic RX7 "EAST" "[I") (List.mem_append_right _ (tbM4 56 rfl))) (hts _ (List.mem_filter.mp m_81).1) h1 (fun a h => Nat.not_le.mpr h), h2⟩
theorem sta_5 {s : State} {args : Array Value} (hts : ∀ w ∈ lw_tbl, w.before args s = true) (hgv : (Jvm.Cond.and given_1 narrow_1).before args s = true) : ∃ t : Nat, va_Z RX7 "SOUTH" "[I" (.ref t) (fun q => s.heap.size ≤ q) s s.heap ∧ va_T .int t 8 (fun j => .int (([-1, -1, 0, 1, 1, 1, 0, -1] : List Int32).getD j 0)) (fun q => s.heap.size ≤ q) s s.heap := by
  have hs := flat_of_before _ hgv
  obtain ⟨t, h1, h2⟩ := va_Tof (A := (fun q => s.heap.size ≤ q)) (tm := .static "ClickStreet$Street" "SOUTH" "[I") (ty := .int) (N := 8) (f := fun j => .int (([-1, -1, 0, 1, 1, 1, 0, -1] : List Int32).getD j 0)) (by decide) (gpath hgv [false, true, false, true, true, false, true, true] rfl) (va_eqt (z := 8) (gpath hgv [false, true, false, true, true, false, true, false, true] rfl)) (fun j hj => by
    match j, hj with
    | 0, _ => exact va_eqt (t := .elem (.static "ClickStreet$Street" "SOUTH" "[I") (.int (0 : Int32))) (z := (-1)) (gpath hgv [false, true, false, true, true, false, true, false, false] rfl)
    | 1, _ => exact va_eqt (t := .elem (.static "ClickStreet$Street" "SOUTH" "[I") (.int (1 : Int32))) (z := (-1)) (gpath hgv [false, true, false, true, true, false, false, true, true] rfl)
    | 2, _ => exact va_eqt (t := .elem (.static "ClickStreet$Street" "SOUTH" "[I") (.int (2 : Int32))) (z := 0) (gpath hgv [false, true, false, true, true, false, false, true, false] rfl)
    | 3, _ => exact va_eqt (t := .elem (.static "ClickStreet$Street" "SOUTH" "[I") (.int (3 : Int32))) (z := 1) (gpath hgv [false, true, false, true, true, false, false, false, true] rfl)
    | 4, _ => exact va_eqt (t := .elem (.static "ClickStreet$Street" "SOUTH" "[I") (.int (4 : Int32))) (z := 1) (gpath hgv [false, true, false, true, true, false, false, false, false] rfl)
    | 5, _ => exact va_eqt (t := .elem (.static "ClickStreet$Street" "SOUTH" "[I") (.int (5 : Int32))) (z := 1) (gpath hgv [false, true, false, true, false, true, true, true] rfl)
    | 6, _ => exact va_eqt (t := .elem (.static "ClickStreet$Street" "SOUTH" "[I") (.int (6 : Int32))) (z := 0) (gpath hgv [false, true, false, true, false, true, true, false, true] rfl)
    | 7, _ => exact va_eqt (t := .elem (.static "ClickStreet$Street" "SOUTH" "[I") (.int (7 : Int32))) (z := (-1)) (gpath hgv [false, true, false, true, false, true, true, false, false] rfl)
    | j + 8, h => exact absurd h (by omega)) (fun a h => Nat.not_le.mpr h)
  exact ⟨t, va_Zref (hts (Cond.laysStatic RX7 "SOUTH" "[I") (List.mem_append_right _ (tbM4 58 rfl))) (hts _ (List.mem_filter.mp m_81).1) h1 (fun a h => Nat.not_le.mpr h), h2⟩
theorem sta_6 {s : State} {args : Array Value} (hts : ∀ w ∈ lw_tbl, w.before args s = true) (hgv : (Jvm.Cond.and given_1 narrow_1).before args s = true) : ∃ t : Nat, va_Z RX8 "BODIES" "[I" (.ref t) (fun q => s.heap.size ≤ q) s s.heap ∧ va_T .int t 32 (fun j => .int (([10, 11, 12, 13, 20, 0, 0, 21, 0, 30, 0, 0, 40, 0, 41, 0, 0, 0, 50, 0, 0, 60, 0, 0, 0, 70, 71, 0, 0, 0, 0, 80] : List Int32).getD j 0)) (fun q => s.heap.size ≤ q) s s.heap := by
  have hs := flat_of_before _ hgv
  obtain ⟨t, h1, h2⟩ := va_Tof (A := (fun q => s.heap.size ≤ q)) (tm := .static "ClickStreet$Voices" "BODIES" "[I") (ty := .int) (N := 32) (f := fun j => .int (([10, 11, 12, 13, 20, 0, 0, 21, 0, 30, 0, 0, 40, 0, 41, 0, 0, 0, 50, 0, 0, 60, 0, 0, 0, 70, 71, 0, 0, 0, 0, 80] : List Int32).getD j 0)) (by decide) (gpath hgv [false, true, false, true, false, true, false, true, false] rfl) (va_eqt (z := 32) (gpath hgv [false, true, false, true, false, true, false, false, true] rfl)) (fun j hj => by
    match j, hj with
    | 0, _ => exact va_eqt (t := .elem (.static "ClickStreet$Voices" "BODIES" "[I") (.int (0 : Int32))) (z := 10) (gpath hgv [false, true, false, true, false, true, false, false, false] rfl)
    | 1, _ => exact va_eqt (t := .elem (.static "ClickStreet$Voices" "BODIES" "[I") (.int (1 : Int32))) (z := 11) (gpath hgv [false, true, false, true, false, false, true, true] rfl)
    | 2, _ => exact va_eqt (t := .elem (.static "ClickStreet$Voices" "BODIES" "[I") (.int (2 : Int32))) (z := 12) (gpath hgv [false, true, false, true, false, false, true, false, true] rfl)
    | 3, _ => exact va_eqt (t := .elem (.static "ClickStreet$Voices" "BODIES" "[I") (.int (3 : Int32))) (z := 13) (gpath hgv [false, true, false, true, false, false, true, false, false] rfl)
    | 4, _ => exact va_eqt (t := .elem (.static "ClickStreet$Voices" "BODIES" "[I") (.int (4 : Int32))) (z := 20) (gpath hgv [false, true, false, true, false, false, false, true, true] rfl)
    | 5, _ => exact va_eqt (t := .elem (.static "ClickStreet$Voices" "BODIES" "[I") (.int (5 : Int32))) (z := 0) (gpath hgv [false, true, false, true, false, false, false, true, false] rfl)
    | 6, _ => exact va_eqt (t := .elem (.static "ClickStreet$Voices" "BODIES" "[I") (.int (6 : Int32))) (z := 0) (gpath hgv [false, true, false, true, false, false, false, false, true] rfl)
    | 7, _ => exact va_eqt (t := .elem (.static "ClickStreet$Voices" "BODIES" "[I") (.int (7 : Int32))) (z := 21) (gpath hgv [false, true, false, true, false, false, false, false, false] rfl)
    | 8, _ => exact va_eqt (t := .elem (.static "ClickStreet$Voices" "BODIES" "[I") (.int (8 : Int32))) (z := 0) (gpath hgv [false, true, false, false, true, true, true, true] rfl)
    | 9, _ => exact va_eqt (t := .elem (.static "ClickStreet$Voices" "BODIES" "[I") (.int (9 : Int32))) (z := 30) (gpath hgv [false, true, false, false, true, true, true, false, true] rfl)
    | 10, _ => exact va_eqt (t := .elem (.static "ClickStreet$Voices" "BODIES" "[I") (.int (10 : Int32))) (z := 0) (gpath hgv [false, true, false, false, true, true, true, false, false] rfl)
    | 11, _ => exact va_eqt (t := .elem (.static "ClickStreet$Voices" "BODIES" "[I") (.int (11 : Int32))) (z := 0) (gpath hgv [false, true, false, false, true, true, false, true, true] rfl)
    | 12, _ => exact va_eqt (t := .elem (.static "ClickStreet$Voices" "BODIES" "[I") (.int (12 : Int32))) (z := 40) (gpath hgv [false, true, false, false, true, true, false, true, false] rfl)
    | 13, _ => exact va_eqt (t := .elem (.static "ClickStreet$Voices" "BODIES" "[I") (.int (13 : Int32))) (z := 0) (gpath hgv [false, true, false, false, true, true, false, false, true] rfl)
    | 14, _ => exact va_eqt (t := .elem (.static "ClickStreet$Voices" "BODIES" "[I") (.int (14 : Int32))) (z := 41) (gpath hgv [false, true, false, false, true, true, false, false, false] rfl)
    | 15, _ => exact va_eqt (t := .elem (.static "ClickStreet$Voices" "BODIES" "[I") (.int (15 : Int32))) (z := 0) (gpath hgv [false, true, false, false, true, false, true, true] rfl)
    | 16, _ => exact va_eqt (t := .elem (.static "ClickStreet$Voices" "BODIES" "[I") (.int (16 : Int32))) (z := 0) (gpath hgv [false, true, false, false, true, false, true, false, true] rfl)
    | 17, _ => exact va_eqt (t := .elem (.static "ClickStreet$Voices" "BODIES" "[I") (.int (17 : Int32))) (z := 0) (gpath hgv [false, true, false, false, true, false, true, false, false] rfl)
    | 18, _ => exact va_eqt (t := .elem (.static "ClickStreet$Voices" "BODIES" "[I") (.int (18 : Int32))) (z := 50) (gpath hgv [false, true, false, false, true, false, false, true, true] rfl)
    | 19, _ => exact va_eqt (t := .elem (.static "ClickStreet$Voices" "BODIES" "[I") (.int (19 : Int32))) (z := 0) (gpath hgv [false, true, false, false, true, false, false, true, false] rfl)
    | 20, _ => exact va_eqt (t := .elem (.static "ClickStreet$Voices" "BODIES" "[I") (.int (20 : Int32))) (z := 0) (gpath hgv [false, true, false, false, true, false, false, false, true] rfl)
    | 21, _ => exact va_eqt (t := .elem (.static "ClickStreet$Voices" "BODIES" "[I") (.int (21 : Int32))) (z := 60) (gpath hgv [false, true, false, false, true, false, false, false, false] rfl)
    | 22, _ => exact va_eqt (t := .elem (.static "ClickStreet$Voices" "BODIES" "[I") (.int (22 : Int32))) (z := 0) (gpath hgv [false, true, false, false, false, true, true, true] rfl)
    | 23, _ => exact va_eqt (t := .elem (.static "ClickStreet$Voices" "BODIES" "[I") (.int (23 : Int32))) (z := 0) (gpath hgv [false, true, false, false, false, true, true, false, true] rfl)
    | 24, _ => exact va_eqt (t := .elem (.static "ClickStreet$Voices" "BODIES" "[I") (.int (24 : Int32))) (z := 0) (gpath hgv [false, true, false, false, false, true, true, false, false] rfl)
    | 25, _ => exact va_eqt (t := .elem (.static "ClickStreet$Voices" "BODIES" "[I") (.int (25 : Int32))) (z := 70) (gpath hgv [false, true, false, false, false, true, false, true, true] rfl)
    | 26, _ => exact va_eqt (t := .elem (.static "ClickStreet$Voices" "BODIES" "[I") (.int (26 : Int32))) (z := 71) (gpath hgv [false, true, false, false, false, true, false, true, false] rfl)
    | 27, _ => exact va_eqt (t := .elem (.static "ClickStreet$Voices" "BODIES" "[I") (.int (27 : Int32))) (z := 0) (gpath hgv [false, true, false, false, false, true, false, false, true] rfl)
    | 28, _ => exact va_eqt (t := .elem (.static "ClickStreet$Voices" "BODIES" "[I") (.int (28 : Int32))) (z := 0) (gpath hgv [false, true, false, false, false, true, false, false, false] rfl)
    | 29, _ => exact va_eqt (t := .elem (.static "ClickStreet$Voices" "BODIES" "[I") (.int (29 : Int32))) (z := 0) (gpath hgv [false, true, false, false, false, false, true, true, true] rfl)
    | 30, _ => exact va_eqt (t := .elem (.static "ClickStreet$Voices" "BODIES" "[I") (.int (30 : Int32))) (z := 0) (gpath hgv [false, true, false, false, false, false, true, true, false] rfl)
    | 31, _ => exact va_eqt (t := .elem (.static "ClickStreet$Voices" "BODIES" "[I") (.int (31 : Int32))) (z := 80) (gpath hgv [false, true, false, false, false, false, true, false, true] rfl)
    | j + 32, h => exact absurd h (by omega)) (fun a h => Nat.not_le.mpr h)
  exact ⟨t, va_Zref (hts (Cond.laysStatic RX8 "BODIES" "[I") (List.mem_append_right _ (tbM5 152 rfl))) (hts _ (List.mem_filter.mp m_90).1) h1 (fun a h => Nat.not_le.mpr h), h2⟩
theorem env_of {s : State} {args : Array Value} (hts : ∀ w ∈ lw_tbl, w.before args s = true) (hgv : (Jvm.Cond.and given_1 narrow_1).before args s = true) : ∃ (G : va_G) (cy : Nat → ClassId) (sk sa : Nat → Nat), EN G cy sk s ∧ STAT sa sk (fun q => s.heap.size ≤ q) s s.heap := by
  have htB : ∀ w ∈ BASE, w.before args s = true := fun w h => hts w (List.mem_filter.mp h).1
  have hAO : ∀ C ∈ AOs, (Cond.arrayOver (.object C)).before args s = true := fun C hC => hts _ (ao_in C hC)
  have hs := flat_of_before _ hgv
  obtain ⟨D, hD⟩ := Classical.axiomOfChoice (known_all htB)
  obtain ⟨cy, hcy⟩ := Classical.axiomOfChoice (arr_all htB hAO)
  obtain ⟨a0, t0, r0, o0, f0, g0, v0⟩ := str_0 hts hgv
  obtain ⟨a1, t1, r1, o1, f1, g1, v1⟩ := str_1 hts hgv
  obtain ⟨a2, t2, r2, o2, f2, g2, v2⟩ := str_2 hts hgv
  obtain ⟨a3, t3, r3, o3, f3, g3, v3⟩ := str_3 hts hgv
  obtain ⟨a4, t4, r4, o4, f4, g4, v4⟩ := str_4 hts hgv
  obtain ⟨a5, t5, r5, o5, f5, g5, v5⟩ := str_5 hts hgv
  obtain ⟨a6, t6, r6, o6, f6, g6, v6⟩ := str_6 hts hgv
  obtain ⟨u0, z0, w0⟩ := sta_0 hts hgv
  obtain ⟨u1, z1, w1⟩ := sta_1 hts hgv
  obtain ⟨u2, z2, w2⟩ := sta_2 hts hgv
  obtain ⟨u3, z3, w3⟩ := sta_3 hts hgv
  obtain ⟨u4, z4, w4⟩ := sta_4 hts hgv
  obtain ⟨u5, z5, w5⟩ := sta_5 hts hgv
  obtain ⟨u6, z6, w6⟩ := sta_6 hts hgv
  refine ⟨(fun k => (D k).1, fun k => (D k).2), cy, (fun k => ([a0, a1, a2, a3, a4, a5, a6] : List Nat).getD k 0), (fun k => ([u0, u1, u2, u3, u4, u5, u6, 0, 0, 0, t0, t1, t2, t3, t4, t5, t6] : List Nat).getD k 0), ⟨⟨fun c q hq => hD c q hq, fun k q hq => ?_⟩, fun q hq => va_Nw.of rfl (hts _ (nf_in q hq)), fun q hq => va_Nw.of rfl (hts _ (nm_in q hq)), fun k q hq => ?_, fun C hC => va_AO.of (hAO C hC)⟩, ⟨fun k q hq => ?_, va_Zof (hts (Cond.laysStatic "java/lang/String" "COMPACT_STRINGS" "Z") (List.mem_append_right _ (tbM3 195 rfl))) (htB _ m_93) (va_eqi (hs _ (by decide +kernel))) (fun a h => Nat.not_le.mpr h), fun k q hq => ?_, va_Zqof (hts (Cond.laysStatic "jdk/internal/util/Preconditions" "SIOOBE_FORMATTER" "Ljava/util/function/BiFunction;") (List.mem_append_right _ (tbM3 236 rfl))) (htB _ m_96) (hs _ (by decide +kernel)) (fun a h => Nat.not_le.mpr h)⟩⟩
  · match k, hq with
    | 0, hq => cases hq; exact hcy 0 _ rfl
    | 1, hq => cases hq; exact hcy 1 _ rfl
    | 2, hq => cases hq; exact hcy 2 _ rfl
    | 3, hq => cases hq; exact hcy 3 _ rfl
    | 4, hq => cases hq; exact hcy 4 _ rfl
    | 5, hq => cases hq; exact hcy 5 _ rfl
    | 6, hq => cases hq; exact hcy 6 _ rfl
    | k + 7, hq => simp [TYS] at hq
  · match k, hq with
    | 0, hq => exact r0 q hq
    | 1, hq => exact r1 q hq
    | 2, hq => exact r2 q hq
    | 3, hq => exact r3 q hq
    | 4, hq => exact r4 q hq
    | 5, hq => exact r5 q hq
    | 6, hq => exact r6 q hq
    | k + 7, hq => simp [NSs] at hq
  · match k, hq with
    | 0, hq => cases hq; exact ⟨z0, w0⟩
    | 1, hq => cases hq; exact ⟨z1, w1⟩
    | 2, hq => cases hq; exact ⟨z2, w2⟩
    | 3, hq => cases hq; exact ⟨z3, w3⟩
    | 4, hq => cases hq; exact ⟨z4, w4⟩
    | 5, hq => cases hq; exact ⟨z5, w5⟩
    | 6, hq => cases hq; exact ⟨z6, w6⟩
    | k + 7, hq => simp [STs] at hq
  · match k, hq with
    | 0, hq => cases hq; exact ⟨o0, f0, g0, v0⟩
    | 1, hq => cases hq; exact ⟨o1, f1, g1, v1⟩
    | 2, hq => cases hq; exact ⟨o2, f2, g2, v2⟩
    | 3, hq => cases hq; exact ⟨o3, f3, g3, v3⟩
    | 4, hq => cases hq; exact ⟨o4, f4, g4, v4⟩
    | 5, hq => cases hq; exact ⟨o5, f5, g5, v5⟩
    | 6, hq => cases hq; exact ⟨o6, f6, g6, v6⟩
    | k + 7, hq => simp [SBs] at hq
