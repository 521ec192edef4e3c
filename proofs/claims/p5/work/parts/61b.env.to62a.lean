section
theorem known_all {s : State} {args : Array Value} (hts : ∀ w ∈ BASE, w.before args s = true) : ∀ k : Nat, ∃ d : ClassId × (Nat → Nat), ∀ q : vw_C, classes[k]? = some q → u_Kn s q.1 q.2.1 q.2.2 d.1 d.2 := by
  intro k
  match k with
  | 0 => obtain ⟨c, i, h⟩ := u_known (C := RX0) (T := TX0) (N := 6) hts inB0 (hts _ m_383); exact ⟨(c, i), fun q hq => by cases hq; exact h⟩
  | 1 => obtain ⟨c, i, h⟩ := u_known (C := RX1) (T := TX1) (N := 3) hts inB1 (hts _ m_155); exact ⟨(c, i), fun q hq => by cases hq; exact h⟩
  | 2 => obtain ⟨c, i, h⟩ := u_known (C := RX2) (T := TX2) (N := 7) hts inB2 (hts _ m_148); exact ⟨(c, i), fun q hq => by cases hq; exact h⟩
  | 3 => obtain ⟨c, i, h⟩ := u_known (C := RX3) (T := TX3) (N := 9) hts inB3 (hts _ m_194); exact ⟨(c, i), fun q hq => by cases hq; exact h⟩
  | 4 => obtain ⟨c, i, h⟩ := u_known (C := RX4) (T := TX4) (N := 7) hts inB4 (hts _ m_348); exact ⟨(c, i), fun q hq => by cases hq; exact h⟩
  | 5 => obtain ⟨c, i, h⟩ := u_known (C := RX5) (T := TX5) (N := 2) hts inB5 (hts _ m_200); exact ⟨(c, i), fun q hq => by cases hq; exact h⟩
  | 6 => obtain ⟨c, i, h⟩ := u_known (C := RX6) (T := TX6) (N := 3) hts inB6 (hts _ m_440); exact ⟨(c, i), fun q hq => by cases hq; exact h⟩
  | 7 => obtain ⟨c, i, h⟩ := u_known (C := RX7) (T := TX7) (N := 6) hts inB7 (hts _ m_116); exact ⟨(c, i), fun q hq => by cases hq; exact h⟩
  | 8 => obtain ⟨c, i, h⟩ := u_known (C := RX8) (T := TX8) (N := 6) hts inB8 (hts _ m_412); exact ⟨(c, i), fun q hq => by cases hq; exact h⟩
  | 9 => obtain ⟨c, i, h⟩ := u_known (C := RX9) (T := TX9) (N := 11) hts inB9 (hts _ m_253); exact ⟨(c, i), fun q hq => by cases hq; exact h⟩
  | 10 => obtain ⟨c, i, h⟩ := u_known (C := RX10) (T := TX10) (N := 8) hts inB10 (hts _ m_110); exact ⟨(c, i), fun q hq => by cases hq; exact h⟩
  | 11 => obtain ⟨c, i, h⟩ := u_known (C := RX11) (T := TX11) (N := 9) hts inB11 (hts _ m_102); exact ⟨(c, i), fun q hq => by cases hq; exact h⟩
  | 12 => obtain ⟨c, i, h⟩ := u_known (C := RX12) (T := TX12) (N := 33) hts inB12 (hts _ m_1313); exact ⟨(c, i), fun q hq => by cases hq; exact h⟩
  | k + 13 => exact ⟨(0, fun _ => 0), fun q hq => by simp [classes] at hq⟩
abbrev TL : List FieldType := [.int, .boolean, .long, .object "ClickStreet$Formula", .object "ClickStreet$Walker", .object "ClickStreet$Sheet", .object "java/lang/String"]
theorem arr_p {s : State} {args : Array Value} {ty : FieldType} (h : (Cond.arrayClass ty).before args s = true) : ∃ cA : ClassId, ArrOfT s cA ty ∧ s.vm.findClass ("[" ++ ty.toString) = some cA := by
  obtain ⟨c, kA, comp, h1, h2, h3⟩ := Cond.arrayClass_spec (args := args) (first := s) (o := none) (s := s) (idx := []) h
  exact ⟨c, fun n z => ⟨(fun k q => by cases q), kA, h2, comp, h3⟩, h1⟩
theorem arr_q {s : State} {args : Array Value} {C : String} (h : (Cond.arrayOver (.object C)).before args s = true) : ∃ cA : ClassId, ArrOfT s cA (.object C) ∧ va_RA s cA (.object C) := by
  obtain ⟨comp, c, kA, h1, h2, h3, h4, h5⟩ := Cond.arrayOver_spec (args := args) (first := s) (o := none) (s := s) (idx := []) h
  exact ⟨c, fun n z => ⟨(fun k q => by cases q), kA, h3, comp, h4⟩, kA, comp, h3, h4, h1, h5⟩
theorem arr_all {s : State} {args : Array Value} (hts : ∀ w ∈ BASE, w.before args s = true) (hAO : ∀ C ∈ AOs, (Cond.arrayOver (.object C)).before args s = true) : ∀ k : Nat, ∃ cA : ClassId, ∀ ty : FieldType, TL[k]? = some ty → ArrOfT s cA ty ∧ va_RA s cA ty := by
  intro k
  match k with
  | 0 => obtain ⟨c, h1, h2⟩ := arr_p (hts _ m_146); exact ⟨c, fun q hq => by cases hq; exact ⟨h1, h2⟩⟩
  | 1 => obtain ⟨c, h1, h2⟩ := arr_p (hts _ m_409); exact ⟨c, fun q hq => by cases hq; exact ⟨h1, h2⟩⟩
  | 2 => obtain ⟨c, h1, h2⟩ := arr_p (hts _ m_410); exact ⟨c, fun q hq => by cases hq; exact ⟨h1, h2⟩⟩
  | 3 => obtain ⟨c, h1, h2⟩ := arr_q (hAO "ClickStreet$Formula" (by decide)); exact ⟨c, fun q hq => by cases hq; exact ⟨h1, h2⟩⟩
  | 4 => obtain ⟨c, h1, h2⟩ := arr_q (hAO "ClickStreet$Walker" (by decide)); exact ⟨c, fun q hq => by cases hq; exact ⟨h1, h2⟩⟩
  | 5 => obtain ⟨c, h1, h2⟩ := arr_q (hAO "ClickStreet$Sheet" (by decide)); exact ⟨c, fun q hq => by cases hq; exact ⟨h1, h2⟩⟩
  | 6 => obtain ⟨c, h1, h2⟩ := arr_q (hAO "java/lang/String" (by decide)); exact ⟨c, fun q hq => by cases hq; exact ⟨h1, h2⟩⟩
  | k + 7 => exact ⟨0, fun q hq => by simp [TL] at hq⟩
theorem nf_in : ∀ q ∈ NFs, Cond.fieldLinkNest q.1 q.2.1 q.2.2.1 q.2.2.2.1 q.2.2.2.2.1 q.2.2.2.2.2 ∈ lw_tbl := by
  have h : NFs.map (fun (q : String × Nat × String × String × String × String) => Cond.fieldLinkNest q.1 q.2.1 q.2.2.1 q.2.2.2.1 q.2.2.2.2.1 q.2.2.2.2.2) = ([122, 123, 125, 127, 129, 131, 176, 210, 211, 212, 222, 225, 228, 259, 261, 262, 263, 265, 266, 268, 269, 271, 273, 274, 276, 277, 279, 281, 283, 285, 310, 311, 313, 314, 316, 318, 320, 322, 323, 325, 327, 359, 393, 395, 421, 426, 446, 448, 449, 451] : List Nat).filterMap (fun i => lw_tbl[i]?) := by decide +kernel
  intro q hq
  have h1 := List.mem_map_of_mem (f := fun (q : String × Nat × String × String × String × String) => Cond.fieldLinkNest q.1 q.2.1 q.2.2.1 q.2.2.2.1 q.2.2.2.2.1 q.2.2.2.2.2) hq
  rw [h] at h1
  obtain ⟨i, -, hi⟩ := List.mem_filterMap.mp h1
  exact List.mem_of_getElem? hi
theorem nm_in : ∀ q ∈ NMs, Cond.methodLinkNest q.1 q.2.1 q.2.2.1 q.2.2.2 ∈ lw_tbl := by
  have h : NMs.map (fun (q : String × Nat × MethodName × String) => Cond.methodLinkNest q.1 q.2.1 q.2.2.1 q.2.2.2) = ([156, 195, 254, 349, 354, 384, 413, 441, 656] : List Nat).filterMap (fun i => lw_tbl[i]?) := by decide +kernel
  intro q hq
  have h1 := List.mem_map_of_mem (f := fun (q : String × Nat × MethodName × String) => Cond.methodLinkNest q.1 q.2.1 q.2.2.1 q.2.2.2) hq
  rw [h] at h1
  obtain ⟨i, -, hi⟩ := List.mem_filterMap.mp h1
  exact List.mem_of_getElem? hi
theorem ns_in : ∀ q ∈ NSs, Cond.stringRef q.1 q.2.1 q.2.2 ∈ lw_tbl := by
  have h : NSs.map (fun (q : String × Nat × String) => Cond.stringRef q.1 q.2.1 q.2.2) = ([357, 685, 686, 687, 1320, 1321, 1322] : List Nat).filterMap (fun i => lw_tbl[i]?) := by decide +kernel
  intro q hq
  have h1 := List.mem_map_of_mem (f := fun (q : String × Nat × String) => Cond.stringRef q.1 q.2.1 q.2.2) hq
  rw [h] at h1
  obtain ⟨i, -, hi⟩ := List.mem_filterMap.mp h1
  exact List.mem_of_getElem? hi
theorem ao_in : ∀ q ∈ AOs, Cond.arrayOver (.object q) ∈ lw_tbl := by
  have h : AOs.map (fun (q : String) => Cond.arrayOver (.object q)) = ([154, 252, 346, 1319] : List Nat).filterMap (fun i => lw_tbl[i]?) := by decide +kernel
  intro q hq
  have h1 := List.mem_map_of_mem (f := fun (q : String) => Cond.arrayOver (.object q)) hq
  rw [h] at h1
  obtain ⟨i, -, hi⟩ := List.mem_filterMap.mp h1
  exact List.mem_of_getElem? hi
theorem str_0 {s : State} {args : Array Value} (hts : ∀ w ∈ lw_tbl, w.before args s = true) (hgv : (Jvm.Cond.and given_1 narrow_1).before args s = true) : ∃ a t : Nat, (∀ q : String × Nat × String, NSs[0]? = some q → vk_R q.1 q.2.1 q.2.2 a s) ∧ va_O "java/lang/String" a (fun q => s.heap.size ≤ q) s s.heap ∧ va_OF "java/lang/String" "coder" "B" (.int 0) a (fun q => s.heap.size ≤ q) s s.heap ∧ va_OF "java/lang/String" "value" "[B" (.ref t) a (fun q => s.heap.size ≤ q) s s.heap ∧ va_T .byte t 0 (fun j => .int (([] : List Int32).getD j 0)) (fun q => s.heap.size ≤ q) s s.heap := by
  have hs := flat_of_before _ hgv
  have hex : (Cond.exactly (.string "ClickStreet$Reader" 25) "java/lang/String").before args s = true := hs _ (by decide +kernel)
  obtain ⟨a, c, cA, kA, q1, -⟩ := Cond.exactly_spec (args := args) (first := s) (o := none) (s := s) (idx := []) (t := .string "ClickStreet$Reader" 25) (cls := "java/lang/String") hex
  obtain ⟨t, h1, h2⟩ := va_Tof (A := (fun q => s.heap.size ≤ q)) (tm := .field (.string "ClickStreet$Reader" 25) "java/lang/String" "value" "[B") (ty := .byte) (N := 0) (f := fun j => .int (([] : List Int32).getD j 0)) (by decide) (hs _ (by decide +kernel)) (va_eqt (z := 0) (hs _ (by decide +kernel))) (fun j hj => by
    exact absurd hj (by omega)) (fun a h => Nat.not_le.mpr h)
  exact ⟨a, t, fun q hq => by cases hq; exact vk_R.of (hts _ (ns_in _ (by decide))) q1, va_Oof hex q1 (fun a h => Nat.not_le.mpr h), vk_OFof q1 (va_eqt (z := 0) (hs _ (by decide +kernel))) (fun a h => Nat.not_le.mpr h), vk_OFof q1 h1 (fun a h => Nat.not_le.mpr h), h2⟩
theorem str_1 {s : State} {args : Array Value} (hts : ∀ w ∈ lw_tbl, w.before args s = true) (hgv : (Jvm.Cond.and given_1 narrow_1).before args s = true) : ∃ a t : Nat, (∀ q : String × Nat × String, NSs[1]? = some q → vk_R q.1 q.2.1 q.2.2 a s) ∧ va_O "java/lang/String" a (fun q => s.heap.size ≤ q) s s.heap ∧ va_OF "java/lang/String" "coder" "B" (.int 0) a (fun q => s.heap.size ≤ q) s s.heap ∧ va_OF "java/lang/String" "value" "[B" (.ref t) a (fun q => s.heap.size ≤ q) s s.heap ∧ va_T .byte t 4 (fun j => .int (([108, 111, 121, 112] : List Int32).getD j 0)) (fun q => s.heap.size ≤ q) s s.heap := by
  have hs := flat_of_before _ hgv
  have hex : (Cond.exactly (.string "ClickStreet$Reader" 44) "java/lang/String").before args s = true := hs _ (by decide +kernel)
  obtain ⟨a, c, cA, kA, q1, -⟩ := Cond.exactly_spec (args := args) (first := s) (o := none) (s := s) (idx := []) (t := .string "ClickStreet$Reader" 44) (cls := "java/lang/String") hex
  obtain ⟨t, h1, h2⟩ := va_Tof (A := (fun q => s.heap.size ≤ q)) (tm := .field (.string "ClickStreet$Reader" 44) "java/lang/String" "value" "[B") (ty := .byte) (N := 4) (f := fun j => .int (([108, 111, 121, 112] : List Int32).getD j 0)) (by decide) (hs _ (by decide +kernel)) (va_eqt (z := 4) (hs _ (by decide +kernel))) (fun j hj => by
    match j, hj with
    | 0, _ => exact va_eqt (t := .elem (.field (.string "ClickStreet$Reader" 44) "java/lang/String" "value" "[B") (.int (0 : Int32))) (z := 108) (hs _ (by decide +kernel))
    | 1, _ => exact va_eqt (t := .elem (.field (.string "ClickStreet$Reader" 44) "java/lang/String" "value" "[B") (.int (1 : Int32))) (z := 111) (hs _ (by decide +kernel))
    | 2, _ => exact va_eqt (t := .elem (.field (.string "ClickStreet$Reader" 44) "java/lang/String" "value" "[B") (.int (2 : Int32))) (z := 121) (hs _ (by decide +kernel))
    | 3, _ => exact va_eqt (t := .elem (.field (.string "ClickStreet$Reader" 44) "java/lang/String" "value" "[B") (.int (3 : Int32))) (z := 112) (hs _ (by decide +kernel))
    | j + 4, h => exact absurd h (by omega)) (fun a h => Nat.not_le.mpr h)
  exact ⟨a, t, fun q hq => by cases hq; exact vk_R.of (hts _ (ns_in _ (by decide))) q1, va_Oof hex q1 (fun a h => Nat.not_le.mpr h), vk_OFof q1 (va_eqt (z := 0) (hs _ (by decide +kernel))) (fun a h => Nat.not_le.mpr h), vk_OFof q1 h1 (fun a h => Nat.not_le.mpr h), h2⟩
theorem str_2 {s : State} {args : Array Value} (hts : ∀ w ∈ lw_tbl, w.before args s = true) (hgv : (Jvm.Cond.and given_1 narrow_1).before args s = true) : ∃ a t : Nat, (∀ q : String × Nat × String, NSs[2]? = some q → vk_R q.1 q.2.1 q.2.2 a s) ∧ va_O "java/lang/String" a (fun q => s.heap.size ≤ q) s s.heap ∧ va_OF "java/lang/String" "coder" "B" (.int 0) a (fun q => s.heap.size ≤ q) s s.heap ∧ va_OF "java/lang/String" "value" "[B" (.ref t) a (fun q => s.heap.size ≤ q) s s.heap ∧ va_T .byte t 3 (fun j => .int (([115, 110, 116] : List Int32).getD j 0)) (fun q => s.heap.size ≤ q) s s.heap := by
  have hs := flat_of_before _ hgv
  have hex : (Cond.exactly (.string "ClickStreet$Reader" 48) "java/lang/String").before args s = true := hs _ (by decide +kernel)
  obtain ⟨a, c, cA, kA, q1, -⟩ := Cond.exactly_spec (args := args) (first := s) (o := none) (s := s) (idx := []) (t := .string "ClickStreet$Reader" 48) (cls := "java/lang/String") hex
  obtain ⟨t, h1, h2⟩ := va_Tof (A := (fun q => s.heap.size ≤ q)) (tm := .field (.string "ClickStreet$Reader" 48) "java/lang/String" "value" "[B") (ty := .byte) (N := 3) (f := fun j => .int (([115, 110, 116] : List Int32).getD j 0)) (by decide) (hs _ (by decide +kernel)) (va_eqt (z := 3) (hs _ (by decide +kernel))) (fun j hj => by
    match j, hj with
    | 0, _ => exact va_eqt (t := .elem (.field (.string "ClickStreet$Reader" 48) "java/lang/String" "value" "[B") (.int (0 : Int32))) (z := 115) (hs _ (by decide +kernel))
    | 1, _ => exact va_eqt (t := .elem (.field (.string "ClickStreet$Reader" 48) "java/lang/String" "value" "[B") (.int (1 : Int32))) (z := 110) (hs _ (by decide +kernel))
    | 2, _ => exact va_eqt (t := .elem (.field (.string "ClickStreet$Reader" 48) "java/lang/String" "value" "[B") (.int (2 : Int32))) (z := 116) (hs _ (by decide +kernel))
    | j + 3, h => exact absurd h (by omega)) (fun a h => Nat.not_le.mpr h)
  exact ⟨a, t, fun q hq => by cases hq; exact vk_R.of (hts _ (ns_in _ (by decide))) q1, va_Oof hex q1 (fun a h => Nat.not_le.mpr h), vk_OFof q1 (va_eqt (z := 0) (hs _ (by decide +kernel))) (fun a h => Nat.not_le.mpr h), vk_OFof q1 h1 (fun a h => Nat.not_le.mpr h), h2⟩
theorem str_3 {s : State} {args : Array Value} (hts : ∀ w ∈ lw_tbl, w.before args s = true) (hgv : (Jvm.Cond.and given_1 narrow_1).before args s = true) : ∃ a t : Nat, (∀ q : String × Nat × String, NSs[3]? = some q → vk_R q.1 q.2.1 q.2.2 a s) ∧ va_O "java/lang/String" a (fun q => s.heap.size ≤ q) s s.heap ∧ va_OF "java/lang/String" "coder" "B" (.int 0) a (fun q => s.heap.size ≤ q) s s.heap ∧ va_OF "java/lang/String" "value" "[B" (.ref t) a (fun q => s.heap.size ≤ q) s s.heap ∧ va_T .byte t 5 (fun j => .int (([102, 108, 114, 98, 116] : List Int32).getD j 0)) (fun q => s.heap.size ≤ q) s s.heap := by
  have hs := flat_of_before _ hgv
  have hex : (Cond.exactly (.string "ClickStreet$Reader" 50) "java/lang/String").before args s = true := hs _ (by decide +kernel)
  obtain ⟨a, c, cA, kA, q1, -⟩ := Cond.exactly_spec (args := args) (first := s) (o := none) (s := s) (idx := []) (t := .string "ClickStreet$Reader" 50) (cls := "java/lang/String") hex
  obtain ⟨t, h1, h2⟩ := va_Tof (A := (fun q => s.heap.size ≤ q)) (tm := .field (.string "ClickStreet$Reader" 50) "java/lang/String" "value" "[B") (ty := .byte) (N := 5) (f := fun j => .int (([102, 108, 114, 98, 116] : List Int32).getD j 0)) (by decide) (hs _ (by decide +kernel)) (va_eqt (z := 5) (hs _ (by decide +kernel))) (fun j hj => by
    match j, hj with
    | 0, _ => exact va_eqt (t := .elem (.field (.string "ClickStreet$Reader" 50) "java/lang/String" "value" "[B") (.int (0 : Int32))) (z := 102) (hs _ (by decide +kernel))
    | 1, _ => exact va_eqt (t := .elem (.field (.string "ClickStreet$Reader" 50) "java/lang/String" "value" "[B") (.int (1 : Int32))) (z := 108) (hs _ (by decide +kernel))
    | 2, _ => exact va_eqt (t := .elem (.field (.string "ClickStreet$Reader" 50) "java/lang/String" "value" "[B") (.int (2 : Int32))) (z := 114) (hs _ (by decide +kernel))
    | 3, _ => exact va_eqt (t := .elem (.field (.string "ClickStreet$Reader" 50) "java/lang/String" "value" "[B") (.int (3 : Int32))) (z := 98) (hs _ (by decide +kernel))
    | 4, _ => exact va_eqt (t := .elem (.field (.string "ClickStreet$Reader" 50) "java/lang/String" "value" "[B") (.int (4 : Int32))) (z := 116) (hs _ (by decide +kernel))
    | j + 5, h => exact absurd h (by omega)) (fun a h => Nat.not_le.mpr h)
  exact ⟨a, t, fun q hq => by cases hq; exact vk_R.of (hts _ (ns_in _ (by decide))) q1, va_Oof hex q1 (fun a h => Nat.not_le.mpr h), vk_OFof q1 (va_eqt (z := 0) (hs _ (by decide +kernel))) (fun a h => Nat.not_le.mpr h), vk_OFof q1 h1 (fun a h => Nat.not_le.mpr h), h2⟩
theorem str_4 {s : State} {args : Array Value} (hts : ∀ w ∈ lw_tbl, w.before args s = true) (hgv : (Jvm.Cond.and given_1 narrow_1).before args s = true) : ∃ a t : Nat, (∀ q : String × Nat × String, NSs[4]? = some q → vk_R q.1 q.2.1 q.2.2 a s) ∧ va_O "java/lang/String" a (fun q => s.heap.size ≤ q) s s.heap ∧ va_OF "java/lang/String" "coder" "B" (.int 0) a (fun q => s.heap.size ≤ q) s s.heap ∧ va_OF "java/lang/String" "value" "[B" (.ref t) a (fun q => s.heap.size ≤ q) s s.heap ∧ va_T .byte t 4 (fun j => .int (([108, 111, 121, 112] : List Int32).getD j 0)) (fun q => s.heap.size ≤ q) s s.heap := by
  have hs := flat_of_before _ hgv
  have hex : (Cond.exactly (.string "ClickStreetModel" 34) "java/lang/String").before args s = true := hs _ (by decide +kernel)
  obtain ⟨a, c, cA, kA, q1, -⟩ := Cond.exactly_spec (args := args) (first := s) (o := none) (s := s) (idx := []) (t := .string "ClickStreetModel" 34) (cls := "java/lang/String") hex
  obtain ⟨t, h1, h2⟩ := va_Tof (A := (fun q => s.heap.size ≤ q)) (tm := .field (.string "ClickStreetModel" 34) "java/lang/String" "value" "[B") (ty := .byte) (N := 4) (f := fun j => .int (([108, 111, 121, 112] : List Int32).getD j 0)) (by decide) (hs _ (by decide +kernel)) (va_eqt (z := 4) (hs _ (by decide +kernel))) (fun j hj => by
    match j, hj with
    | 0, _ => exact va_eqt (t := .elem (.field (.string "ClickStreetModel" 34) "java/lang/String" "value" "[B") (.int (0 : Int32))) (z := 108) (hs _ (by decide +kernel))
    | 1, _ => exact va_eqt (t := .elem (.field (.string "ClickStreetModel" 34) "java/lang/String" "value" "[B") (.int (1 : Int32))) (z := 111) (hs _ (by decide +kernel))
    | 2, _ => exact va_eqt (t := .elem (.field (.string "ClickStreetModel" 34) "java/lang/String" "value" "[B") (.int (2 : Int32))) (z := 121) (hs _ (by decide +kernel))
    | 3, _ => exact va_eqt (t := .elem (.field (.string "ClickStreetModel" 34) "java/lang/String" "value" "[B") (.int (3 : Int32))) (z := 112) (hs _ (by decide +kernel))
    | j + 4, h => exact absurd h (by omega)) (fun a h => Nat.not_le.mpr h)
  exact ⟨a, t, fun q hq => by cases hq; exact vk_R.of (hts _ (ns_in _ (by decide))) q1, va_Oof hex q1 (fun a h => Nat.not_le.mpr h), vk_OFof q1 (va_eqt (z := 0) (hs _ (by decide +kernel))) (fun a h => Nat.not_le.mpr h), vk_OFof q1 h1 (fun a h => Nat.not_le.mpr h), h2⟩
theorem str_5 {s : State} {args : Array Value} (hts : ∀ w ∈ lw_tbl, w.before args s = true) (hgv : (Jvm.Cond.and given_1 narrow_1).before args s = true) : ∃ a t : Nat, (∀ q : String × Nat × String, NSs[5]? = some q → vk_R q.1 q.2.1 q.2.2 a s) ∧ va_O "java/lang/String" a (fun q => s.heap.size ≤ q) s s.heap ∧ va_OF "java/lang/String" "coder" "B" (.int 0) a (fun q => s.heap.size ≤ q) s s.heap ∧ va_OF "java/lang/String" "value" "[B" (.ref t) a (fun q => s.heap.size ≤ q) s s.heap ∧ va_T .byte t 3 (fun j => .int (([115, 110, 116] : List Int32).getD j 0)) (fun q => s.heap.size ≤ q) s s.heap := by
  have hs := flat_of_before _ hgv
  have hex : (Cond.exactly (.string "ClickStreetModel" 36) "java/lang/String").before args s = true := hs _ (by decide +kernel)
  obtain ⟨a, c, cA, kA, q1, -⟩ := Cond.exactly_spec (args := args) (first := s) (o := none) (s := s) (idx := []) (t := .string "ClickStreetModel" 36) (cls := "java/lang/String") hex
  obtain ⟨t, h1, h2⟩ := va_Tof (A := (fun q => s.heap.size ≤ q)) (tm := .field (.string "ClickStreetModel" 36) "java/lang/String" "value" "[B") (ty := .byte) (N := 3) (f := fun j => .int (([115, 110, 116] : List Int32).getD j 0)) (by decide) (hs _ (by decide +kernel)) (va_eqt (z := 3) (hs _ (by decide +kernel))) (fun j hj => by
    match j, hj with
    | 0, _ => exact va_eqt (t := .elem (.field (.string "ClickStreetModel" 36) "java/lang/String" "value" "[B") (.int (0 : Int32))) (z := 115) (hs _ (by decide +kernel))
    | 1, _ => exact va_eqt (t := .elem (.field (.string "ClickStreetModel" 36) "java/lang/String" "value" "[B") (.int (1 : Int32))) (z := 110) (hs _ (by decide +kernel))
    | 2, _ => exact va_eqt (t := .elem (.field (.string "ClickStreetModel" 36) "java/lang/String" "value" "[B") (.int (2 : Int32))) (z := 116) (hs _ (by decide +kernel))
    | j + 3, h => exact absurd h (by omega)) (fun a h => Nat.not_le.mpr h)
  exact ⟨a, t, fun q hq => by cases hq; exact vk_R.of (hts _ (ns_in _ (by decide))) q1, va_Oof hex q1 (fun a h => Nat.not_le.mpr h), vk_OFof q1 (va_eqt (z := 0) (hs _ (by decide +kernel))) (fun a h => Nat.not_le.mpr h), vk_OFof q1 h1 (fun a h => Nat.not_le.mpr h), h2⟩
theorem str_6 {s : State} {args : Array Value} (hts : ∀ w ∈ lw_tbl, w.before args s = true) (hgv : (Jvm.Cond.and given_1 narrow_1).before args s = true) : ∃ a t : Nat, (∀ q : String × Nat × String, NSs[6]? = some q → vk_R q.1 q.2.1 q.2.2 a s) ∧ va_O "java/lang/String" a (fun q => s.heap.size ≤ q) s s.heap ∧ va_OF "java/lang/String" "coder" "B" (.int 0) a (fun q => s.heap.size ≤ q) s s.heap ∧ va_OF "java/lang/String" "value" "[B" (.ref t) a (fun q => s.heap.size ≤ q) s s.heap ∧ va_T .byte t 5 (fun j => .int (([102, 108, 114, 98, 116] : List Int32).getD j 0)) (fun q => s.heap.size ≤ q) s s.heap := by
  have hs := flat_of_before _ hgv
  have hex : (Cond.exactly (.string "ClickStreetModel" 38) "java/lang/String").before args s = true := hs _ (by decide +kernel)
  obtain ⟨a, c, cA, kA, q1, -⟩ := Cond.exactly_spec (args := args) (first := s) (o := none) (s := s) (idx := []) (t := .string "ClickStreetModel" 38) (cls := "java/lang/String") hex
  obtain ⟨t, h1, h2⟩ := va_Tof (A := (fun q => s.heap.size ≤ q)) (tm := .field (.string "ClickStreetModel" 38) "java/lang/String" "value" "[B") (ty := .byte) (N := 5) (f := fun j => .int (([102, 108, 114, 98, 116] : List Int32).getD j 0)) (by decide) (hs _ (by decide +kernel)) (va_eqt (z := 5) (hs _ (by decide +kernel))) (fun j hj => by
    match j, hj with
    | 0, _ => exact va_eqt (t := .elem (.field (.string "ClickStreetModel" 38) "java/lang/String" "value" "[B") (.int (0 : Int32))) (z := 102) (hs _ (by decide +kernel))
    | 1, _ => exact va_eqt (t := .elem (.field (.string "ClickStreetModel" 38) "java/lang/String" "value" "[B") (.int (1 : Int32))) (z := 108) (hs _ (by decide +kernel))
    | 2, _ => exact va_eqt (t := .elem (.field (.string "ClickStreetModel" 38) "java/lang/String" "value" "[B") (.int (2 : Int32))) (z := 114) (hs _ (by decide +kernel))
    | 3, _ => exact va_eqt (t := .elem (.field (.string "ClickStreetModel" 38) "java/lang/String" "value" "[B") (.int (3 : Int32))) (z := 98) (hs _ (by decide +kernel))
    | 4, _ => exact va_eqt (t := .elem (.field (.string "ClickStreetModel" 38) "java/lang/String" "value" "[B") (.int (4 : Int32))) (z := 116) (hs _ (by decide +kernel))
    | j + 5, h => exact absurd h (by omega)) (fun a h => Nat.not_le.mpr h)
  exact ⟨a, t, fun q hq => by cases hq; exact vk_R.of (hts _ (ns_in _ (by decide))) q1, va_Oof hex q1 (fun a h => Nat.not_le.mpr h), vk_OFof q1 (va_eqt (z := 0) (hs _ (by decide +kernel))) (fun a h => Nat.not_le.mpr h), vk_OFof q1 h1 (fun a h => Nat.not_le.mpr h), h2⟩
theorem sta_0 {s : State} {args : Array Value} (hts : ∀ w ∈ lw_tbl, w.before args s = true) (hgv : (Jvm.Cond.and given_1 narrow_1).before args s = true) : ∃ t : Nat, va_Z RX9 "REACHES" "[I" (.ref t) (fun q => s.heap.size ≤ q) s s.heap ∧ va_T .int t 8 (fun j => .int (([3, 12, 1, 6, 0, 6, 5, 10] : List Int32).getD j 0)) (fun q => s.heap.size ≤ q) s s.heap := by
  have hs := flat_of_before _ hgv
  obtain ⟨t, h1, h2⟩ := va_Tof (A := (fun q => s.heap.size ≤ q)) (tm := .static "ClickStreet$Walker" "REACHES" "[I") (ty := .int) (N := 8) (f := fun j => .int (([3, 12, 1, 6, 0, 6, 5, 10] : List Int32).getD j 0)) (by decide) (hs _ (by decide +kernel)) (va_eqt (z := 8) (hs _ (by decide +kernel))) (fun j hj => by
    match j, hj with
    | 0, _ => exact va_eqt (t := .elem (.static "ClickStreet$Walker" "REACHES" "[I") (.int (0 : Int32))) (z := 3) (hs _ (by decide +kernel))
    | 1, _ => exact va_eqt (t := .elem (.static "ClickStreet$Walker" "REACHES" "[I") (.int (1 : Int32))) (z := 12) (hs _ (by decide +kernel))
    | 2, _ => exact va_eqt (t := .elem (.static "ClickStreet$Walker" "REACHES" "[I") (.int (2 : Int32))) (z := 1) (hs _ (by decide +kernel))
    | 3, _ => exact va_eqt (t := .elem (.static "ClickStreet$Walker" "REACHES" "[I") (.int (3 : Int32))) (z := 6) (hs _ (by decide +kernel))
    | 4, _ => exact va_eqt (t := .elem (.static "ClickStreet$Walker" "REACHES" "[I") (.int (4 : Int32))) (z := 0) (hs _ (by decide +kernel))
    | 5, _ => exact va_eqt (t := .elem (.static "ClickStreet$Walker" "REACHES" "[I") (.int (5 : Int32))) (z := 6) (hs _ (by decide +kernel))
    | 6, _ => exact va_eqt (t := .elem (.static "ClickStreet$Walker" "REACHES" "[I") (.int (6 : Int32))) (z := 5) (hs _ (by decide +kernel))
    | 7, _ => exact va_eqt (t := .elem (.static "ClickStreet$Walker" "REACHES" "[I") (.int (7 : Int32))) (z := 10) (hs _ (by decide +kernel))
    | j + 8, h => exact absurd h (by omega)) (fun a h => Nat.not_le.mpr h)
  exact ⟨t, va_Zref (hts (Cond.laysStatic RX9 "REACHES" "[I") (List.mem_of_getElem? (l := lw_tbl) (i := 622) (by decide +kernel))) (hts _ (List.mem_filter.mp m_87).1) h1 (fun a h => Nat.not_le.mpr h), h2⟩
theorem sta_1 {s : State} {args : Array Value} (hts : ∀ w ∈ lw_tbl, w.before args s = true) (hgv : (Jvm.Cond.and given_1 narrow_1).before args s = true) : ∃ t : Nat, va_Z RX9 "SPEEDS" "[I" (.ref t) (fun q => s.heap.size ≤ q) s s.heap ∧ va_T .int t 8 (fun j => .int (([1, 1, 1, 1, 1, 1, 1, 2] : List Int32).getD j 0)) (fun q => s.heap.size ≤ q) s s.heap := by
  have hs := flat_of_before _ hgv
  obtain ⟨t, h1, h2⟩ := va_Tof (A := (fun q => s.heap.size ≤ q)) (tm := .static "ClickStreet$Walker" "SPEEDS" "[I") (ty := .int) (N := 8) (f := fun j => .int (([1, 1, 1, 1, 1, 1, 1, 2] : List Int32).getD j 0)) (by decide) (hs _ (by decide +kernel)) (va_eqt (z := 8) (hs _ (by decide +kernel))) (fun j hj => by
    match j, hj with
    | 0, _ => exact va_eqt (t := .elem (.static "ClickStreet$Walker" "SPEEDS" "[I") (.int (0 : Int32))) (z := 1) (hs _ (by decide +kernel))
    | 1, _ => exact va_eqt (t := .elem (.static "ClickStreet$Walker" "SPEEDS" "[I") (.int (1 : Int32))) (z := 1) (hs _ (by decide +kernel))
    | 2, _ => exact va_eqt (t := .elem (.static "ClickStreet$Walker" "SPEEDS" "[I") (.int (2 : Int32))) (z := 1) (hs _ (by decide +kernel))
    | 3, _ => exact va_eqt (t := .elem (.static "ClickStreet$Walker" "SPEEDS" "[I") (.int (3 : Int32))) (z := 1) (hs _ (by decide +kernel))
    | 4, _ => exact va_eqt (t := .elem (.static "ClickStreet$Walker" "SPEEDS" "[I") (.int (4 : Int32))) (z := 1) (hs _ (by decide +kernel))
    | 5, _ => exact va_eqt (t := .elem (.static "ClickStreet$Walker" "SPEEDS" "[I") (.int (5 : Int32))) (z := 1) (hs _ (by decide +kernel))
    | 6, _ => exact va_eqt (t := .elem (.static "ClickStreet$Walker" "SPEEDS" "[I") (.int (6 : Int32))) (z := 1) (hs _ (by decide +kernel))
    | 7, _ => exact va_eqt (t := .elem (.static "ClickStreet$Walker" "SPEEDS" "[I") (.int (7 : Int32))) (z := 2) (hs _ (by decide +kernel))
    | j + 8, h => exact absurd h (by omega)) (fun a h => Nat.not_le.mpr h)
  exact ⟨t, va_Zref (hts (Cond.laysStatic RX9 "SPEEDS" "[I") (List.mem_of_getElem? (l := lw_tbl) (i := 628) (by decide +kernel))) (hts _ (List.mem_filter.mp m_87).1) h1 (fun a h => Nat.not_le.mpr h), h2⟩
theorem sta_2 {s : State} {args : Array Value} (hts : ∀ w ∈ lw_tbl, w.before args s = true) (hgv : (Jvm.Cond.and given_1 narrow_1).before args s = true) : ∃ t : Nat, va_Z RX9 "HEARS_TO" "[I" (.ref t) (fun q => s.heap.size ≤ q) s s.heap ∧ va_T .int t 8 (fun j => .int (([9, 9, 9, 9, 9, 9, 5, 9] : List Int32).getD j 0)) (fun q => s.heap.size ≤ q) s s.heap := by
  have hs := flat_of_before _ hgv
  obtain ⟨t, h1, h2⟩ := va_Tof (A := (fun q => s.heap.size ≤ q)) (tm := .static "ClickStreet$Walker" "HEARS_TO" "[I") (ty := .int) (N := 8) (f := fun j => .int (([9, 9, 9, 9, 9, 9, 5, 9] : List Int32).getD j 0)) (by decide) (hs _ (by decide +kernel)) (va_eqt (z := 8) (hs _ (by decide +kernel))) (fun j hj => by
    match j, hj with
    | 0, _ => exact va_eqt (t := .elem (.static "ClickStreet$Walker" "HEARS_TO" "[I") (.int (0 : Int32))) (z := 9) (hs _ (by decide +kernel))
    | 1, _ => exact va_eqt (t := .elem (.static "ClickStreet$Walker" "HEARS_TO" "[I") (.int (1 : Int32))) (z := 9) (hs _ (by decide +kernel))
    | 2, _ => exact va_eqt (t := .elem (.static "ClickStreet$Walker" "HEARS_TO" "[I") (.int (2 : Int32))) (z := 9) (hs _ (by decide +kernel))
    | 3, _ => exact va_eqt (t := .elem (.static "ClickStreet$Walker" "HEARS_TO" "[I") (.int (3 : Int32))) (z := 9) (hs _ (by decide +kernel))
    | 4, _ => exact va_eqt (t := .elem (.static "ClickStreet$Walker" "HEARS_TO" "[I") (.int (4 : Int32))) (z := 9) (hs _ (by decide +kernel))
    | 5, _ => exact va_eqt (t := .elem (.static "ClickStreet$Walker" "HEARS_TO" "[I") (.int (5 : Int32))) (z := 9) (hs _ (by decide +kernel))
    | 6, _ => exact va_eqt (t := .elem (.static "ClickStreet$Walker" "HEARS_TO" "[I") (.int (6 : Int32))) (z := 5) (hs _ (by decide +kernel))
    | 7, _ => exact va_eqt (t := .elem (.static "ClickStreet$Walker" "HEARS_TO" "[I") (.int (7 : Int32))) (z := 9) (hs _ (by decide +kernel))
    | j + 8, h => exact absurd h (by omega)) (fun a h => Nat.not_le.mpr h)
  exact ⟨t, va_Zref (hts (Cond.laysStatic RX9 "HEARS_TO" "[I") (List.mem_of_getElem? (l := lw_tbl) (i := 634) (by decide +kernel))) (hts _ (List.mem_filter.mp m_87).1) h1 (fun a h => Nat.not_le.mpr h), h2⟩
theorem sta_3 {s : State} {args : Array Value} (hts : ∀ w ∈ lw_tbl, w.before args s = true) (hgv : (Jvm.Cond.and given_1 narrow_1).before args s = true) : ∃ t : Nat, va_Z RX9 "ABOVE" "[I" (.ref t) (fun q => s.heap.size ≤ q) s s.heap ∧ va_T .int t 8 (fun j => .int (([-1, 0, 0, 0, 0, 1, 3, 1] : List Int32).getD j 0)) (fun q => s.heap.size ≤ q) s s.heap := by
  have hs := flat_of_before _ hgv
  obtain ⟨t, h1, h2⟩ := va_Tof (A := (fun q => s.heap.size ≤ q)) (tm := .static "ClickStreet$Walker" "ABOVE" "[I") (ty := .int) (N := 8) (f := fun j => .int (([-1, 0, 0, 0, 0, 1, 3, 1] : List Int32).getD j 0)) (by decide) (hs _ (by decide +kernel)) (va_eqt (z := 8) (hs _ (by decide +kernel))) (fun j hj => by
    match j, hj with
    | 0, _ => exact va_eqt (t := .elem (.static "ClickStreet$Walker" "ABOVE" "[I") (.int (0 : Int32))) (z := (-1)) (hs _ (by decide +kernel))
    | 1, _ => exact va_eqt (t := .elem (.static "ClickStreet$Walker" "ABOVE" "[I") (.int (1 : Int32))) (z := 0) (hs _ (by decide +kernel))
    | 2, _ => exact va_eqt (t := .elem (.static "ClickStreet$Walker" "ABOVE" "[I") (.int (2 : Int32))) (z := 0) (hs _ (by decide +kernel))
    | 3, _ => exact va_eqt (t := .elem (.static "ClickStreet$Walker" "ABOVE" "[I") (.int (3 : Int32))) (z := 0) (hs _ (by decide +kernel))
    | 4, _ => exact va_eqt (t := .elem (.static "ClickStreet$Walker" "ABOVE" "[I") (.int (4 : Int32))) (z := 0) (hs _ (by decide +kernel))
    | 5, _ => exact va_eqt (t := .elem (.static "ClickStreet$Walker" "ABOVE" "[I") (.int (5 : Int32))) (z := 1) (hs _ (by decide +kernel))
    | 6, _ => exact va_eqt (t := .elem (.static "ClickStreet$Walker" "ABOVE" "[I") (.int (6 : Int32))) (z := 3) (hs _ (by decide +kernel))
    | 7, _ => exact va_eqt (t := .elem (.static "ClickStreet$Walker" "ABOVE" "[I") (.int (7 : Int32))) (z := 1) (hs _ (by decide +kernel))
    | j + 8, h => exact absurd h (by omega)) (fun a h => Nat.not_le.mpr h)
  exact ⟨t, va_Zref (hts (Cond.laysStatic RX9 "ABOVE" "[I") (List.mem_of_getElem? (l := lw_tbl) (i := 647) (by decide +kernel))) (hts _ (List.mem_filter.mp m_87).1) h1 (fun a h => Nat.not_le.mpr h), h2⟩
theorem sta_4 {s : State} {args : Array Value} (hts : ∀ w ∈ lw_tbl, w.before args s = true) (hgv : (Jvm.Cond.and given_1 narrow_1).before args s = true) : ∃ t : Nat, va_Z RX7 "EAST" "[I" (.ref t) (fun q => s.heap.size ≤ q) s s.heap ∧ va_T .int t 8 (fun j => .int (([0, 1, 1, 1, 0, -1, -1, -1] : List Int32).getD j 0)) (fun q => s.heap.size ≤ q) s s.heap := by
  have hs := flat_of_before _ hgv
  obtain ⟨t, h1, h2⟩ := va_Tof (A := (fun q => s.heap.size ≤ q)) (tm := .static "ClickStreet$Street" "EAST" "[I") (ty := .int) (N := 8) (f := fun j => .int (([0, 1, 1, 1, 0, -1, -1, -1] : List Int32).getD j 0)) (by decide) (hs _ (by decide +kernel)) (va_eqt (z := 8) (hs _ (by decide +kernel))) (fun j hj => by
    match j, hj with
    | 0, _ => exact va_eqt (t := .elem (.static "ClickStreet$Street" "EAST" "[I") (.int (0 : Int32))) (z := 0) (hs _ (by decide +kernel))
    | 1, _ => exact va_eqt (t := .elem (.static "ClickStreet$Street" "EAST" "[I") (.int (1 : Int32))) (z := 1) (hs _ (by decide +kernel))
    | 2, _ => exact va_eqt (t := .elem (.static "ClickStreet$Street" "EAST" "[I") (.int (2 : Int32))) (z := 1) (hs _ (by decide +kernel))
    | 3, _ => exact va_eqt (t := .elem (.static "ClickStreet$Street" "EAST" "[I") (.int (3 : Int32))) (z := 1) (hs _ (by decide +kernel))
    | 4, _ => exact va_eqt (t := .elem (.static "ClickStreet$Street" "EAST" "[I") (.int (4 : Int32))) (z := 0) (hs _ (by decide +kernel))
    | 5, _ => exact va_eqt (t := .elem (.static "ClickStreet$Street" "EAST" "[I") (.int (5 : Int32))) (z := (-1)) (hs _ (by decide +kernel))
    | 6, _ => exact va_eqt (t := .elem (.static "ClickStreet$Street" "EAST" "[I") (.int (6 : Int32))) (z := (-1)) (hs _ (by decide +kernel))
    | 7, _ => exact va_eqt (t := .elem (.static "ClickStreet$Street" "EAST" "[I") (.int (7 : Int32))) (z := (-1)) (hs _ (by decide +kernel))
    | j + 8, h => exact absurd h (by omega)) (fun a h => Nat.not_le.mpr h)
  exact ⟨t, va_Zref (hts (Cond.laysStatic RX7 "EAST" "[I") (List.mem_of_getElem? (l := lw_tbl) (i := 854) (by decide +kernel))) (hts _ (List.mem_filter.mp m_81).1) h1 (fun a h => Nat.not_le.mpr h), h2⟩
theorem sta_5 {s : State} {args : Array Value} (hts : ∀ w ∈ lw_tbl, w.before args s = true) (hgv : (Jvm.Cond.and given_1 narrow_1).before args s = true) : ∃ t : Nat, va_Z RX7 "SOUTH" "[I" (.ref t) (fun q => s.heap.size ≤ q) s s.heap ∧ va_T .int t 8 (fun j => .int (([-1, -1, 0, 1, 1, 1, 0, -1] : List Int32).getD j 0)) (fun q => s.heap.size ≤ q) s s.heap := by
  have hs := flat_of_before _ hgv
  obtain ⟨t, h1, h2⟩ := va_Tof (A := (fun q => s.heap.size ≤ q)) (tm := .static "ClickStreet$Street" "SOUTH" "[I") (ty := .int) (N := 8) (f := fun j => .int (([-1, -1, 0, 1, 1, 1, 0, -1] : List Int32).getD j 0)) (by decide) (hs _ (by decide +kernel)) (va_eqt (z := 8) (hs _ (by decide +kernel))) (fun j hj => by
    match j, hj with
    | 0, _ => exact va_eqt (t := .elem (.static "ClickStreet$Street" "SOUTH" "[I") (.int (0 : Int32))) (z := (-1)) (hs _ (by decide +kernel))
    | 1, _ => exact va_eqt (t := .elem (.static "ClickStreet$Street" "SOUTH" "[I") (.int (1 : Int32))) (z := (-1)) (hs _ (by decide +kernel))
    | 2, _ => exact va_eqt (t := .elem (.static "ClickStreet$Street" "SOUTH" "[I") (.int (2 : Int32))) (z := 0) (hs _ (by decide +kernel))
    | 3, _ => exact va_eqt (t := .elem (.static "ClickStreet$Street" "SOUTH" "[I") (.int (3 : Int32))) (z := 1) (hs _ (by decide +kernel))
    | 4, _ => exact va_eqt (t := .elem (.static "ClickStreet$Street" "SOUTH" "[I") (.int (4 : Int32))) (z := 1) (hs _ (by decide +kernel))
    | 5, _ => exact va_eqt (t := .elem (.static "ClickStreet$Street" "SOUTH" "[I") (.int (5 : Int32))) (z := 1) (hs _ (by decide +kernel))
    | 6, _ => exact va_eqt (t := .elem (.static "ClickStreet$Street" "SOUTH" "[I") (.int (6 : Int32))) (z := 0) (hs _ (by decide +kernel))
    | 7, _ => exact va_eqt (t := .elem (.static "ClickStreet$Street" "SOUTH" "[I") (.int (7 : Int32))) (z := (-1)) (hs _ (by decide +kernel))
    | j + 8, h => exact absurd h (by omega)) (fun a h => Nat.not_le.mpr h)
  exact ⟨t, va_Zref (hts (Cond.laysStatic RX7 "SOUTH" "[I") (List.mem_of_getElem? (l := lw_tbl) (i := 856) (by decide +kernel))) (hts _ (List.mem_filter.mp m_81).1) h1 (fun a h => Nat.not_le.mpr h), h2⟩
theorem sta_6 {s : State} {args : Array Value} (hts : ∀ w ∈ lw_tbl, w.before args s = true) (hgv : (Jvm.Cond.and given_1 narrow_1).before args s = true) : ∃ t : Nat, va_Z RX8 "BODIES" "[I" (.ref t) (fun q => s.heap.size ≤ q) s s.heap ∧ va_T .int t 32 (fun j => .int (([10, 11, 12, 13, 20, 0, 0, 21, 0, 30, 0, 0, 40, 0, 41, 0, 0, 0, 50, 0, 0, 60, 0, 0, 0, 70, 71, 0, 0, 0, 0, 80] : List Int32).getD j 0)) (fun q => s.heap.size ≤ q) s s.heap := by
  have hs := flat_of_before _ hgv
  obtain ⟨t, h1, h2⟩ := va_Tof (A := (fun q => s.heap.size ≤ q)) (tm := .static "ClickStreet$Voices" "BODIES" "[I") (ty := .int) (N := 32) (f := fun j => .int (([10, 11, 12, 13, 20, 0, 0, 21, 0, 30, 0, 0, 40, 0, 41, 0, 0, 0, 50, 0, 0, 60, 0, 0, 0, 70, 71, 0, 0, 0, 0, 80] : List Int32).getD j 0)) (by decide) (hs _ (by decide +kernel)) (va_eqt (z := 32) (hs _ (by decide +kernel))) (fun j hj => by
    match j, hj with
    | 0, _ => exact va_eqt (t := .elem (.static "ClickStreet$Voices" "BODIES" "[I") (.int (0 : Int32))) (z := 10) (hs _ (by decide +kernel))
    | 1, _ => exact va_eqt (t := .elem (.static "ClickStreet$Voices" "BODIES" "[I") (.int (1 : Int32))) (z := 11) (hs _ (by decide +kernel))
    | 2, _ => exact va_eqt (t := .elem (.static "ClickStreet$Voices" "BODIES" "[I") (.int (2 : Int32))) (z := 12) (hs _ (by decide +kernel))
    | 3, _ => exact va_eqt (t := .elem (.static "ClickStreet$Voices" "BODIES" "[I") (.int (3 : Int32))) (z := 13) (hs _ (by decide +kernel))
    | 4, _ => exact va_eqt (t := .elem (.static "ClickStreet$Voices" "BODIES" "[I") (.int (4 : Int32))) (z := 20) (hs _ (by decide +kernel))
    | 5, _ => exact va_eqt (t := .elem (.static "ClickStreet$Voices" "BODIES" "[I") (.int (5 : Int32))) (z := 0) (hs _ (by decide +kernel))
    | 6, _ => exact va_eqt (t := .elem (.static "ClickStreet$Voices" "BODIES" "[I") (.int (6 : Int32))) (z := 0) (hs _ (by decide +kernel))
    | 7, _ => exact va_eqt (t := .elem (.static "ClickStreet$Voices" "BODIES" "[I") (.int (7 : Int32))) (z := 21) (hs _ (by decide +kernel))
    | 8, _ => exact va_eqt (t := .elem (.static "ClickStreet$Voices" "BODIES" "[I") (.int (8 : Int32))) (z := 0) (hs _ (by decide +kernel))
    | 9, _ => exact va_eqt (t := .elem (.static "ClickStreet$Voices" "BODIES" "[I") (.int (9 : Int32))) (z := 30) (hs _ (by decide +kernel))
    | 10, _ => exact va_eqt (t := .elem (.static "ClickStreet$Voices" "BODIES" "[I") (.int (10 : Int32))) (z := 0) (hs _ (by decide +kernel))
    | 11, _ => exact va_eqt (t := .elem (.static "ClickStreet$Voices" "BODIES" "[I") (.int (11 : Int32))) (z := 0) (hs _ (by decide +kernel))
    | 12, _ => exact va_eqt (t := .elem (.static "ClickStreet$Voices" "BODIES" "[I") (.int (12 : Int32))) (z := 40) (hs _ (by decide +kernel))
    | 13, _ => exact va_eqt (t := .elem (.static "ClickStreet$Voices" "BODIES" "[I") (.int (13 : Int32))) (z := 0) (hs _ (by decide +kernel))
    | 14, _ => exact va_eqt (t := .elem (.static "ClickStreet$Voices" "BODIES" "[I") (.int (14 : Int32))) (z := 41) (hs _ (by decide +kernel))
    | 15, _ => exact va_eqt (t := .elem (.static "ClickStreet$Voices" "BODIES" "[I") (.int (15 : Int32))) (z := 0) (hs _ (by decide +kernel))
    | 16, _ => exact va_eqt (t := .elem (.static "ClickStreet$Voices" "BODIES" "[I") (.int (16 : Int32))) (z := 0) (hs _ (by decide +kernel))
    | 17, _ => exact va_eqt (t := .elem (.static "ClickStreet$Voices" "BODIES" "[I") (.int (17 : Int32))) (z := 0) (hs _ (by decide +kernel))
    | 18, _ => exact va_eqt (t := .elem (.static "ClickStreet$Voices" "BODIES" "[I") (.int (18 : Int32))) (z := 50) (hs _ (by decide +kernel))
    | 19, _ => exact va_eqt (t := .elem (.static "ClickStreet$Voices" "BODIES" "[I") (.int (19 : Int32))) (z := 0) (hs _ (by decide +kernel))
    | 20, _ => exact va_eqt (t := .elem (.static "ClickStreet$Voices" "BODIES" "[I") (.int (20 : Int32))) (z := 0) (hs _ (by decide +kernel))
    | 21, _ => exact va_eqt (t := .elem (.static "ClickStreet$Voices" "BODIES" "[I") (.int (21 : Int32))) (z := 60) (hs _ (by decide +kernel))
    | 22, _ => exact va_eqt (t := .elem (.static "ClickStreet$Voices" "BODIES" "[I") (.int (22 : Int32))) (z := 0) (hs _ (by decide +kernel))
    | 23, _ => exact va_eqt (t := .elem (.static "ClickStreet$Voices" "BODIES" "[I") (.int (23 : Int32))) (z := 0) (hs _ (by decide +kernel))
    | 24, _ => exact va_eqt (t := .elem (.static "ClickStreet$Voices" "BODIES" "[I") (.int (24 : Int32))) (z := 0) (hs _ (by decide +kernel))
    | 25, _ => exact va_eqt (t := .elem (.static "ClickStreet$Voices" "BODIES" "[I") (.int (25 : Int32))) (z := 70) (hs _ (by decide +kernel))
    | 26, _ => exact va_eqt (t := .elem (.static "ClickStreet$Voices" "BODIES" "[I") (.int (26 : Int32))) (z := 71) (hs _ (by decide +kernel))
    | 27, _ => exact va_eqt (t := .elem (.static "ClickStreet$Voices" "BODIES" "[I") (.int (27 : Int32))) (z := 0) (hs _ (by decide +kernel))
    | 28, _ => exact va_eqt (t := .elem (.static "ClickStreet$Voices" "BODIES" "[I") (.int (28 : Int32))) (z := 0) (hs _ (by decide +kernel))
    | 29, _ => exact va_eqt (t := .elem (.static "ClickStreet$Voices" "BODIES" "[I") (.int (29 : Int32))) (z := 0) (hs _ (by decide +kernel))
    | 30, _ => exact va_eqt (t := .elem (.static "ClickStreet$Voices" "BODIES" "[I") (.int (30 : Int32))) (z := 0) (hs _ (by decide +kernel))
    | 31, _ => exact va_eqt (t := .elem (.static "ClickStreet$Voices" "BODIES" "[I") (.int (31 : Int32))) (z := 80) (hs _ (by decide +kernel))
    | j + 32, h => exact absurd h (by omega)) (fun a h => Nat.not_le.mpr h)
  exact ⟨t, va_Zref (hts (Cond.laysStatic RX8 "BODIES" "[I") (List.mem_of_getElem? (l := lw_tbl) (i := 1190) (by decide +kernel))) (hts _ (List.mem_filter.mp m_90).1) h1 (fun a h => Nat.not_le.mpr h), h2⟩
theorem env_of {s : State} {args : Array Value} (hts : ∀ w ∈ lw_tbl, w.before args s = true) (hgv : (Jvm.Cond.and given_1 narrow_1).before args s = true) : ∃ (G : va_G) (cy : Nat → ClassId) (sk sa : Nat → Nat), EN G cy sk s ∧ STAT sa sk (fun q => s.heap.size ≤ q) s s.heap := by
  have htB : ∀ w ∈ BASE, w.before args s = true := fun w h => hts w (List.mem_filter.mp h).1
  have hAO : ∀ C ∈ AOs, (Cond.arrayOver (.object C)).before args s = true := fun C hC => hts _ (ao_in C hC)
  have hs := flat_of_before _ hgv
  obtain ⟨D, hD⟩ := Classical.axiomOfChoice (known_all htB)
  obtain ⟨cy, hcy⟩ := Classical.axiomOfChoice (arr_all htB hAO)
  obtain ⟨a0, t0, r0, o0, f0, g0, v0⟩ := str_0 hts hgv
  obtain ⟨a1, t1, r1, o1, f1, g1, v1⟩ := str_1 hts hgv
  obtain ⟨a2, t2, r2, o2, f2, g2, v2⟩ := str_2 hts hgv
  obtain ⟨a3, t3, r3, o3, f3, g3, v3⟩ := str_3 hts hgv
  obtain ⟨a4, t4, r4, o4, f4, g4, v4⟩ := str_4 hts hgv
  obtain ⟨a5, t5, r5, o5, f5, g5, v5⟩ := str_5 hts hgv
  obtain ⟨a6, t6, r6, o6, f6, g6, v6⟩ := str_6 hts hgv
  obtain ⟨u0, z0, w0⟩ := sta_0 hts hgv
  obtain ⟨u1, z1, w1⟩ := sta_1 hts hgv
  obtain ⟨u2, z2, w2⟩ := sta_2 hts hgv
  obtain ⟨u3, z3, w3⟩ := sta_3 hts hgv
  obtain ⟨u4, z4, w4⟩ := sta_4 hts hgv
  obtain ⟨u5, z5, w5⟩ := sta_5 hts hgv
  obtain ⟨u6, z6, w6⟩ := sta_6 hts hgv
  refine ⟨(fun k => (D k).1, fun k => (D k).2), cy, (fun k => ([a0, a1, a2, a3, a4, a5, a6] : List Nat).getD k 0), (fun k => ([u0, u1, u2, u3, u4, u5, u6, 0, 0, 0, t0, t1, t2, t3, t4, t5, t6] : List Nat).getD k 0), ⟨⟨fun c q hq => hD c q hq, fun k q hq => ?_⟩, fun q hq => va_Nw.of rfl (hts _ (nf_in q hq)), fun q hq => va_Nw.of rfl (hts _ (nm_in q hq)), fun k q hq => ?_, fun C hC => va_AO.of (hAO C hC)⟩, ⟨fun k q hq => ?_, va_Zof (hts (Cond.laysStatic "java/lang/String" "COMPACT_STRINGS" "Z") (List.mem_of_getElem? (l := lw_tbl) (i := 753) (by decide +kernel))) (htB _ m_93) (va_eqi (hs _ (by decide +kernel))) (fun a h => Nat.not_le.mpr h), fun k q hq => ?_, va_Zqof (hts (Cond.laysStatic "jdk/internal/util/Preconditions" "SIOOBE_FORMATTER" "Ljava/util/function/BiFunction;") (List.mem_of_getElem? (l := lw_tbl) (i := 794) (by decide +kernel))) (htB _ m_96) (hs _ (by decide +kernel)) (fun a h => Nat.not_le.mpr h)⟩⟩
  · match k, hq with
    | 0, hq => cases hq; exact hcy 0 _ rfl
    | 1, hq => cases hq; exact hcy 1 _ rfl
    | 2, hq => cases hq; exact hcy 2 _ rfl
    | 3, hq => cases hq; exact hcy 3 _ rfl
    | 4, hq => cases hq; exact hcy 4 _ rfl
    | 5, hq => cases hq; exact hcy 5 _ rfl
    | 6, hq => cases hq; exact hcy 6 _ rfl
    | k + 7, hq => simp [TYS] at hq
  · match k, hq with
    | 0, hq => exact r0 q hq
    | 1, hq => exact r1 q hq
    | 2, hq => exact r2 q hq
    | 3, hq => exact r3 q hq
    | 4, hq => exact r4 q hq
    | 5, hq => exact r5 q hq
    | 6, hq => exact r6 q hq
    | k + 7, hq => simp [NSs] at hq
  · match k, hq with
    | 0, hq => cases hq; exact ⟨z0, w0⟩
    | 1, hq => cases hq; exact ⟨z1, w1⟩
    | 2, hq => cases hq; exact ⟨z2, w2⟩
    | 3, hq => cases hq; exact ⟨z3, w3⟩
    | 4, hq => cases hq; exact ⟨z4, w4⟩
    | 5, hq => cases hq; exact ⟨z5, w5⟩
    | 6, hq => cases hq; exact ⟨z6, w6⟩
    | k + 7, hq => simp [STs] at hq
  · match k, hq with
    | 0, hq => cases hq; exact ⟨o0, f0, g0, v0⟩
    | 1, hq => cases hq; exact ⟨o1, f1, g1, v1⟩
    | 2, hq => cases hq; exact ⟨o2, f2, g2, v2⟩
    | 3, hq => cases hq; exact ⟨o3, f3, g3, v3⟩
    | 4, hq => cases hq; exact ⟨o4, f4, g4, v4⟩
    | 5, hq => cases hq; exact ⟨o5, f5, g5, v5⟩
    | 6, hq => cases hq; exact ⟨o6, f6, g6, v6⟩
    | k + 7, hq => simp [SBs] at hq
end
section
/-! cells at the end of a world that are not looked at -/
theorem D_join {A : Nat → Prop} {w1 w2 : va_W} (h1 : va_D A w1) (h2 : va_D A w2) (hd : ∀ (i j a : Nat) (e e' : va_E), w1[i]? = some (a, e) → w2[j]? = some (a, e') → False) : va_D A (w1 ++ w2) := by
  have key : ∀ (k : Nat) (q : Nat × va_E), (w1 ++ w2)[k]? = some q → (k < w1.length ∧ w1[k]? = some q) ∨ (w1.length ≤ k ∧ w2[k - w1.length]? = some q) := fun k q hk => by
    rcases Nat.lt_or_ge k w1.length with h | h
    · rw [List.getElem?_append_left h] at hk; exact Or.inl ⟨h, hk⟩
    · rw [List.getElem?_append_right h] at hk; exact Or.inr ⟨h, hk⟩
  refine ⟨fun i j p q hp hq e => ?_, fun k q hk => ?_⟩
  · obtain ⟨a1, e1⟩ := p
    obtain ⟨a2, e2⟩ := q
    have e : a1 = a2 := e
    subst e
    rcases key i _ hp with ⟨l1, g1⟩ | ⟨l1, g1⟩
    · rcases key j _ hq with ⟨l2, g2⟩ | ⟨l2, g2⟩
      · exact h1.1 i j _ _ g1 g2 rfl
      · exact (hd _ _ _ _ _ g1 g2).elim
    · rcases key j _ hq with ⟨l2, g2⟩ | ⟨l2, g2⟩
      · exact (hd _ _ _ _ _ g2 g1).elim
      · have := h2.1 _ _ _ _ g1 g2 rfl
        omega
  · rcases key k _ hk with ⟨l1, g1⟩ | ⟨l1, g1⟩
    · exact h1.2 _ _ g1
    · exact h2.2 _ _ g1
theorem P_swap {G : va_G} {cl : List vw_C} {w1 w2 : va_W} {H : Heap} (h : va_P G cl (w1 ++ w2) H) : va_P G cl (w2 ++ w1) H := va_P.app (P_right h) (P_left h)
theorem D_swap {A : Nat → Prop} {w1 w2 : va_W} (h : va_D A (w1 ++ w2)) : va_D A (w2 ++ w1) := D_join (D_right h) (D_left h) (fun i j a e e' g1 g2 => D_apart h g2 g1)
theorem aftT {G : va_G} {A : Nat → Prop} {wc wr : va_W} {H H1 : Heap} {B : Heap → Prop} (hP : va_P G classes (wc ++ wr) H) (hD : va_D A (wc ++ wr)) (hF : ∀ q, va_A wc H.size q → A q) (hB : B H1) (hk : ∀ q : Nat, q < H.size → ¬ va_A wc H.size q → H1[q]? = H[q]?) : AFT G A wr B wc H.size H1 := by
  have hr : va_P G classes wr H1 := (P_right hP).kept (fun k q h => hk q.1 (P_size (P_right hP) h) (fun z => by
    rcases z with ⟨i, e1, h1⟩ | z
    · exact D_apart hD h1 h
    · have := P_size (P_right hP) h; omega))
  refine ⟨hB, fun w1 h1 h2 => ⟨va_P.app hr h1, D_join (D_right hD) (h2.weaken (fun _ q _ h => hF q.1 h)) (fun i j a e e' g1 g2 => ?_)⟩, hr, D_right hD⟩
  rcases h2.2 j _ g2 with ⟨k, e1, h3⟩ | h3
  · exact D_apart hD h3 g1
  · have h4 := P_size (P_right hP) g1
    have h3 : H.size ≤ a := h3
    have h4 : a < H.size := h4
    omega
section CTT
variable {p : Program} {l : Launch} {e : Env} {R : Room} {s : State} {m : MethodId} {args : Array Value} {below : List Frame} {meth : Method} {c : Code} {H H0 : Heap} {locs : List Loc} {cells slots : Nat} {Q : State → Prop}
variable {cc : ByteArray} {pc : Nat} {ls : Array Slot} {rest st As : List Value} {G : va_G} {cy : Nat → ClassId} {sk : Nat → Nat} {ws wc wr : va_W} {A : Nat → Prop} {own : String} {idx mc ms nL n k : Nat} {y : MethodName} {b : ByteArray} {r : Option FieldType} {rm : Room} {a ci : Nat} {fs : List Value} {host : String}
theorem wIT {B : Heap → Prop} (hx : p.tables.exec = Jvm.exec) (hb : c.code = cc) (hml : c.maxLocals = nL) (hown : s.vm.findClass own = some m.cls) (hts : ∀ w ∈ BASE, w.before args s = true) (hE : EN G cy sk s) (hM : Met l y (wsO y b n none) rm (va_Pc (.ref a :: As) (PR G cy sk H.size wc)) (va_Qv (fun (_ : Unit) => True) (fun _ t => B t.heap) (va_A wc H.size)) mc ms (va_A wc H.size)) (hy : KI y b n k) (hl : Cond.methodLink own idx y ∈ BASE)
    (hrc : rm.cells = mc) (hrs : rm.slots = ms) (hR : rm.frames + 1 ≤ R.frames ∧ 8 + (n + 11) + rm.locals ≤ R.locals) (hP : va_P G classes (wc ++ wr) H) (hD : va_D A (wc ++ wr)) (hS : va_S A H0 H locs) (hA : ∀ q, H0.size ≤ q → A q) (hst : st = As.reverse ++ .ref a :: rest) (hn : As.length = k) (hls : ls.size = nL) (hW : (rest.map fun v => v.category).sum ≤ 8) (hdg : decode cc pc = .ok (.invokespecial idx, 3)) (hf : cells + mc ≤ R.cells ∧ slots + ms ≤ R.slots)
    (kk : ∀ (H1 : Heap) (locs1 : List Loc), AFT G A wr B wc H.size H1 → va_S A H0 H1 locs1 → W p l e R s m args below meth c H1 locs1 (cells + mc) (slots + ms) Q (F0 m (pc + 3) ls rest)) : W p l e R s m args below meth c H locs cells slots Q (F0 m pc ls st) := by
  have hF : ∀ q, va_A wc H.size q → A q := fun q h => h.elim (fun ⟨k, e, h⟩ => (D_left hD).2 k _ h) (fun h => hA q (Nat.le_trans hS.1 h))
  refine va_callv (va_runI ⟨hx, hb, hml, hown, hts⟩ hM (cwI k hts (b_in (wsO_in hy.2.2.2.1)) rfl hrc hrs (hts _ hy.2.2.1) (hts _ hl) (hts _ hy.1) hy.2.1 hy.2.2.2.2 hR) ⟨PR_blind, PR_of (P_left hP) (D_left hD) hE⟩ rfl hn hls hst (lv_room hW) hdg hf) hS (fun q _ h => hF q h) hF (fun u t H1 locs1 ht hvm hp hB hz hk hS1 => ?_)
  subst ht
  exact kk _ locs1 (aftT hP hD hF hB hk) hS1
theorem wINT {B : Heap → Prop} (hx : p.tables.exec = Jvm.exec) (hb : c.code = cc) (hml : c.maxLocals = nL) (hown : s.vm.findClass own = some m.cls) (hts : ∀ w ∈ BASE, w.before args s = true) (hE : EN G cy sk s) (hM : Met l y (wsO y b n none) rm (va_Pc (.ref a :: As) (PR G cy sk H.size wc)) (va_Qv (fun (_ : Unit) => True) (fun _ t => B t.heap) (va_A wc H.size)) mc ms (va_A wc H.size)) (hy : KI y b n k) (hl : (own, idx, y, host) ∈ NMs)
    (hrc : rm.cells = mc) (hrs : rm.slots = ms) (hR : rm.frames + 1 ≤ R.frames ∧ 8 + (n + 11) + rm.locals ≤ R.locals) (hP : va_P G classes (wc ++ wr) H) (hD : va_D A (wc ++ wr)) (hS : va_S A H0 H locs) (hA : ∀ q, H0.size ≤ q → A q) (hst : st = As.reverse ++ .ref a :: rest) (hn : As.length = k) (hls : ls.size = nL) (hW : (rest.map fun v => v.category).sum ≤ 8) (hdg : decode cc pc = .ok (.invokespecial idx, 3)) (hf : cells + mc ≤ R.cells ∧ slots + ms ≤ R.slots)
    (kk : ∀ (H1 : Heap) (locs1 : List Loc), AFT G A wr B wc H.size H1 → va_S A H0 H1 locs1 → W p l e R s m args below meth c H1 locs1 (cells + mc) (slots + ms) Q (F0 m (pc + 3) ls rest)) : W p l e R s m args below meth c H locs cells slots Q (F0 m pc ls st) := by
  have hF : ∀ q, va_A wc H.size q → A q := fun q h => h.elim (fun ⟨k, e, h⟩ => (D_left hD).2 k _ h) (fun h => hA q (Nat.le_trans hS.1 h))
  refine va_callv (va_runIN ⟨hx, hb, hml, hown, hts⟩ hM ⟨va_cnB k hts (b_in (wsO_in hy.2.2.2.1)) rfl hrc hrs (hE.2.2.1 _ hl) (hts _ hy.2.2.1) hy.2.2.2.2 hR, hy.2.1, hts _ hy.1⟩ ⟨PR_blind, PR_of (P_left hP) (D_left hD) hE⟩ rfl hn hls hst (lv_room hW) hdg hf) hS (fun q _ h => hF q h) hF (fun u t H1 locs1 ht hvm hp hB hz hk hS1 => ?_)
  subst ht
  exact kk _ locs1 (aftT hP hD hF hB hk) hS1
end CTT
end
section
/-! words of the tables that are used, by their places; decode rows; classes -/
theorem m_107 : Cond.instanceMethod Lib.objectInit ∈ BASE := bmem 107 (by decide +kernel) rfl
theorem m_108 : Cond.code Lib.objectInit ⟨#[0xb1]⟩ 1 none ∈ BASE := bmem 108 (by decide +kernel) rfl
theorem m_120 : Cond.methodLink RX7 1 Lib.objectInit ∈ BASE := bmem 120 (by decide +kernel) rfl
theorem m_152 : Cond.methodLink RX2 1 Lib.objectInit ∈ BASE := bmem 152 (by decide +kernel) rfl
theorem m_153 : Cond.classLink RX2 28 RX1 ∈ BASE := bmem 153 (by decide +kernel) rfl
theorem m_157 : Cond.instanceMethod yX1_init ∈ BASE := bmem 157 (by decide +kernel) rfl
theorem m_158 : Cond.code yX1_init cX1_init 1 none ∈ BASE := bmem 158 (by decide +kernel) rfl
theorem m_159 : Cond.methodLink RX1 3 Lib.objectInit ∈ BASE := bmem 159 (by decide +kernel) rfl
theorem m_198 : Cond.methodLink RX3 1 Lib.objectInit ∈ BASE := bmem 198 (by decide +kernel) rfl
theorem m_199 : Cond.classLink RX3 23 RX5 ∈ BASE := bmem 199 (by decide +kernel) rfl
theorem m_201 : Cond.methodLink RX3 25 yX5_init ∈ BASE := bmem 201 (by decide +kernel) rfl
theorem m_202 : Cond.instanceMethod yX5_init ∈ BASE := bmem 202 (by decide +kernel) rfl
theorem m_203 : Cond.code yX5_init cX5_init 2 none ∈ BASE := bmem 203 (by decide +kernel) rfl
theorem m_204 : Cond.methodLink RX5 1 Lib.objectInit ∈ BASE := bmem 204 (by decide +kernel) rfl
theorem m_205 : Cond.methodLink RX5 13 Lib.Math.max.name ∈ BASE := bmem 205 (by decide +kernel) rfl
theorem m_257 : Cond.methodLink RX9 1 Lib.objectInit ∈ BASE := bmem 257 (by decide +kernel) rfl
theorem m_352 : Cond.methodLink RX4 1 Lib.objectInit ∈ BASE := bmem 352 (by decide +kernel) rfl
theorem m_353 : Cond.classLink RX4 7 RX1 ∈ BASE := bmem 353 (by decide +kernel) rfl
theorem m_355 : Cond.classLink RX4 16 RX5 ∈ BASE := bmem 355 (by decide +kernel) rfl
theorem m_356 : Cond.methodLink RX4 18 yX5_init ∈ BASE := bmem 356 (by decide +kernel) rfl
theorem m_387 : Cond.methodLink RX0 1 Lib.objectInit ∈ BASE := bmem 387 (by decide +kernel) rfl
theorem m_416 : Cond.methodLink RX8 1 Lib.objectInit ∈ BASE := bmem 416 (by decide +kernel) rfl
theorem m_417 : Cond.classLink RX8 7 RX5 ∈ BASE := bmem 417 (by decide +kernel) rfl
theorem m_418 : Cond.methodLink RX8 9 yX5_init ∈ BASE := bmem 418 (by decide +kernel) rfl
theorem m_444 : Cond.methodLink RX6 1 Lib.objectInit ∈ BASE := bmem 444 (by decide +kernel) rfl
theorem kI_X1_init : KI yX1_init cX1_init 1 0 := ⟨m_157, rfl, m_83, m_158, by decide +kernel, by decide +kernel, by decide +kernel⟩
theorem kI_X5_init : KI yX5_init cX5_init 2 1 := ⟨m_202, rfl, m_85, m_203, by decide +kernel, by decide +kernel, by decide +kernel⟩
theorem df0 : ∀ j, j < 6 → defaultValue (tyX0 j) = vp_V [.null, .null, .null, .null, .int 0, .int 0] j := fun j hj => by rcases (show j = 0 ∨ j = 1 ∨ j = 2 ∨ j = 3 ∨ j = 4 ∨ j = 5 by omega) with rfl | rfl | rfl | rfl | rfl | rfl <;> rfl
theorem df1 : ∀ j, j < 3 → defaultValue (tyX1 j) = vp_V [.null, .null, .int 0] j := fun j hj => by rcases (show j = 0 ∨ j = 1 ∨ j = 2 by omega) with rfl | rfl | rfl <;> rfl
theorem df2 : ∀ j, j < 7 → defaultValue (tyX2 j) = vp_V [.int 0, .int 0, .int 0, .null, .null, .null, .null] j := fun j hj => by rcases (show j = 0 ∨ j = 1 ∨ j = 2 ∨ j = 3 ∨ j = 4 ∨ j = 5 ∨ j = 6 by omega) with rfl | rfl | rfl | rfl | rfl | rfl | rfl <;> rfl
theorem df3 : ∀ j, j < 9 → defaultValue (tyX3 j) = vp_V [.null, .null, .null, .int 0, .null, .null, .int 0, .int 0, .int 0] j := fun j hj => by rcases (show j = 0 ∨ j = 1 ∨ j = 2 ∨ j = 3 ∨ j = 4 ∨ j = 5 ∨ j = 6 ∨ j = 7 ∨ j = 8 by omega) with rfl | rfl | rfl | rfl | rfl | rfl | rfl | rfl | rfl <;> rfl
theorem df4 : ∀ j, j < 7 → defaultValue (tyX4 j) = vp_V [.null, .null, .null, .int 0, .int 0, .int 0, .int 0] j := fun j hj => by rcases (show j = 0 ∨ j = 1 ∨ j = 2 ∨ j = 3 ∨ j = 4 ∨ j = 5 ∨ j = 6 by omega) with rfl | rfl | rfl | rfl | rfl | rfl | rfl <;> rfl
theorem df5 : ∀ j, j < 2 → defaultValue (tyX5 j) = vp_V [.null, .int 0] j := fun j hj => by rcases (show j = 0 ∨ j = 1 by omega) with rfl | rfl <;> rfl
theorem df6 : ∀ j, j < 3 → defaultValue (tyX6 j) = vp_V [.int 0, .int 0, .null] j := fun j hj => by rcases (show j = 0 ∨ j = 1 ∨ j = 2 by omega) with rfl | rfl | rfl <;> rfl
theorem df7 : ∀ j, j < 6 → defaultValue (tyX7 j) = vp_V [.null, .null, .null, .null, .null, .int 0] j := fun j hj => by rcases (show j = 0 ∨ j = 1 ∨ j = 2 ∨ j = 3 ∨ j = 4 ∨ j = 5 by omega) with rfl | rfl | rfl | rfl | rfl | rfl <;> rfl
theorem df8 : ∀ j, j < 6 → defaultValue (tyX8 j) = vp_V [.null, .null, .int 0, .int 0, .int 0, .int 0] j := fun j hj => by rcases (show j = 0 ∨ j = 1 ∨ j = 2 ∨ j = 3 ∨ j = 4 ∨ j = 5 by omega) with rfl | rfl | rfl | rfl | rfl | rfl <;> rfl
theorem df9 : ∀ j, j < 11 → defaultValue (tyX9 j) = vp_V [.int 0, .int 0, .int 0, .int 0, .int 0, .int 0, .int 0, .int 0, .int 0, .null, .null] j := fun j hj => by rcases (show j = 0 ∨ j = 1 ∨ j = 2 ∨ j = 3 ∨ j = 4 ∨ j = 5 ∨ j = 6 ∨ j = 7 ∨ j = 8 ∨ j = 9 ∨ j = 10 by omega) with rfl | rfl | rfl | rfl | rfl | rfl | rfl | rfl | rfl | rfl | rfl <;> rfl
/-! decode rows -/
theorem dX0_init_0 : decode cX0_init 0 = .ok (.aload_n 0, 1) := by decide +kernel
theorem dX0_init_1 : decode cX0_init 1 = .ok (.invokespecial 1, 3) := by decide +kernel
theorem dX0_init_4 : decode cX0_init 4 = .ok (.aload_n 0, 1) := by decide +kernel
theorem dX0_init_5 : decode cX0_init 5 = .ok (.sipush 192, 3) := by decide +kernel
theorem dX0_init_8 : decode cX0_init 8 = .ok (.newarray .int, 2) := by decide +kernel
theorem dX0_init_10 : decode cX0_init 10 = .ok (.putfield 9, 3) := by decide +kernel
theorem dX0_init_13 : decode cX0_init 13 = .ok (.aload_n 0, 1) := by decide +kernel
theorem dX0_init_14 : decode cX0_init 14 = .ok (.sipush 192, 3) := by decide +kernel
theorem dX0_init_17 : decode cX0_init 17 = .ok (.newarray .boolean, 2) := by decide +kernel
theorem dX0_init_19 : decode cX0_init 19 = .ok (.putfield 15, 3) := by decide +kernel
theorem dX0_init_22 : decode cX0_init 22 = .ok (.aload_n 0, 1) := by decide +kernel
theorem dX0_init_23 : decode cX0_init 23 = .ok (.bipush 24, 2) := by decide +kernel
theorem dX0_init_25 : decode cX0_init 25 = .ok (.newarray .long, 2) := by decide +kernel
theorem dX0_init_27 : decode cX0_init 27 = .ok (.putfield 19, 3) := by decide +kernel
theorem dX0_init_30 : decode cX0_init 30 = .ok (.aload_n 0, 1) := by decide +kernel
theorem dX0_init_31 : decode cX0_init 31 = .ok (.bipush 8, 2) := by decide +kernel
theorem dX0_init_33 : decode cX0_init 33 = .ok (.newarray .int, 2) := by decide +kernel
theorem dX0_init_35 : decode cX0_init 35 = .ok (.putfield 23, 3) := by decide +kernel
theorem dX0_init_38 : decode cX0_init 38 = .ok (.aload_n 0, 1) := by decide +kernel
theorem dX0_init_39 : decode cX0_init 39 = .ok (.iconst 0, 1) := by decide +kernel
theorem dX0_init_40 : decode cX0_init 40 = .ok (.putfield 26, 3) := by decide +kernel
theorem dX0_init_43 : decode cX0_init 43 = .ok (.aload_n 0, 1) := by decide +kernel
theorem dX0_init_44 : decode cX0_init 44 = .ok (.iconst 0, 1) := by decide +kernel
theorem dX0_init_45 : decode cX0_init 45 = .ok (.putfield 30, 3) := by decide +kernel
theorem dX0_init_48 : decode cX0_init 48 = .ok (.return_, 1) := by decide +kernel
theorem dX1_init_0 : decode cX1_init 0 = .ok (.aload_n 0, 1) := by decide +kernel
theorem dX1_init_1 : decode cX1_init 1 = .ok (.invokespecial 3, 3) := by decide +kernel
theorem dX1_init_4 : decode cX1_init 4 = .ok (.aload_n 0, 1) := by decide +kernel
theorem dX1_init_5 : decode cX1_init 5 = .ok (.bipush 48, 2) := by decide +kernel
theorem dX1_init_7 : decode cX1_init 7 = .ok (.newarray .int, 2) := by decide +kernel
theorem dX1_init_9 : decode cX1_init 9 = .ok (.putfield 9, 3) := by decide +kernel
theorem dX1_init_12 : decode cX1_init 12 = .ok (.aload_n 0, 1) := by decide +kernel
theorem dX1_init_13 : decode cX1_init 13 = .ok (.bipush 48, 2) := by decide +kernel
theorem dX1_init_15 : decode cX1_init 15 = .ok (.newarray .int, 2) := by decide +kernel
theorem dX1_init_17 : decode cX1_init 17 = .ok (.putfield 13, 3) := by decide +kernel
theorem dX1_init_20 : decode cX1_init 20 = .ok (.aload_n 0, 1) := by decide +kernel
theorem dX1_init_21 : decode cX1_init 21 = .ok (.iconst 0, 1) := by decide +kernel
theorem dX1_init_22 : decode cX1_init 22 = .ok (.putfield 16, 3) := by decide +kernel
theorem dX1_init_25 : decode cX1_init 25 = .ok (.return_, 1) := by decide +kernel
theorem dX2_init_0 : decode cX2_init 0 = .ok (.aload_n 0, 1) := by decide +kernel
theorem dX2_init_1 : decode cX2_init 1 = .ok (.invokespecial 1, 3) := by decide +kernel
theorem dX2_init_4 : decode cX2_init 4 = .ok (.aload_n 0, 1) := by decide +kernel
theorem dX2_init_5 : decode cX2_init 5 = .ok (.iconst 5, 1) := by decide +kernel
theorem dX2_init_6 : decode cX2_init 6 = .ok (.putfield 7, 3) := by decide +kernel
theorem dX2_init_9 : decode cX2_init 9 = .ok (.aload_n 0, 1) := by decide +kernel
theorem dX2_init_10 : decode cX2_init 10 = .ok (.bipush 9, 2) := by decide +kernel
theorem dX2_init_12 : decode cX2_init 12 = .ok (.putfield 13, 3) := by decide +kernel
theorem dX2_init_15 : decode cX2_init 15 = .ok (.aload_n 0, 1) := by decide +kernel
theorem dX2_init_16 : decode cX2_init 16 = .ok (.iconst 0, 1) := by decide +kernel
theorem dX2_init_17 : decode cX2_init 17 = .ok (.putfield 16, 3) := by decide +kernel
theorem dX2_init_20 : decode cX2_init 20 = .ok (.aload_n 0, 1) := by decide +kernel
theorem dX2_init_21 : decode cX2_init 21 = .ok (.iconst 5, 1) := by decide +kernel
theorem dX2_init_22 : decode cX2_init 22 = .ok (.newarray .int, 2) := by decide +kernel
theorem dX2_init_24 : decode cX2_init 24 = .ok (.putfield 21, 3) := by decide +kernel
theorem dX2_init_27 : decode cX2_init 27 = .ok (.aload_n 0, 1) := by decide +kernel
theorem dX2_init_28 : decode cX2_init 28 = .ok (.iconst 5, 1) := by decide +kernel
theorem dX2_init_29 : decode cX2_init 29 = .ok (.newarray .int, 2) := by decide +kernel
theorem dX2_init_31 : decode cX2_init 31 = .ok (.putfield 25, 3) := by decide +kernel
theorem dX2_init_34 : decode cX2_init 34 = .ok (.aload_n 0, 1) := by decide +kernel
theorem dX2_init_35 : decode cX2_init 35 = .ok (.iconst 3, 1) := by decide +kernel
theorem dX2_init_36 : decode cX2_init 36 = .ok (.anewarray 28, 3) := by decide +kernel
theorem dX2_init_39 : decode cX2_init 39 = .ok (.putfield 30, 3) := by decide +kernel
theorem dX2_init_42 : decode cX2_init 42 = .ok (.aload_n 0, 1) := by decide +kernel
theorem dX2_init_43 : decode cX2_init 43 = .ok (.iconst 5, 1) := by decide +kernel
theorem dX2_init_44 : decode cX2_init 44 = .ok (.newarray .int, 2) := by decide +kernel
theorem dX2_init_46 : decode cX2_init 46 = .ok (.putfield 34, 3) := by decide +kernel
theorem dX2_init_49 : decode cX2_init 49 = .ok (.iconst 0, 1) := by decide +kernel
theorem dX2_init_50 : decode cX2_init 50 = .ok (.istore_n 1, 1) := by decide +kernel
theorem dX2_init_51 : decode cX2_init 51 = .ok (.iload_n 1, 1) := by decide +kernel
theorem dX2_init_52 : decode cX2_init 52 = .ok (.iconst 5, 1) := by decide +kernel
theorem dX2_init_53 : decode cX2_init 53 = .ok (.if_icmp .ge 17, 3) := by decide +kernel
theorem dX2_init_56 : decode cX2_init 56 = .ok (.aload_n 0, 1) := by decide +kernel
theorem dX2_init_57 : decode cX2_init 57 = .ok (.getfield 21, 3) := by decide +kernel
theorem dX2_init_60 : decode cX2_init 60 = .ok (.iload_n 1, 1) := by decide +kernel
theorem dX2_init_61 : decode cX2_init 61 = .ok (.bipush 50, 2) := by decide +kernel
theorem dX2_init_63 : decode cX2_init 63 = .ok (.iastore, 1) := by decide +kernel
theorem dX2_init_64 : decode cX2_init 64 = .ok (.iinc 1 1, 3) := by decide +kernel
theorem dX2_init_67 : decode cX2_init 67 = .ok (.goto (-16), 3) := by decide +kernel
theorem dX2_init_70 : decode cX2_init 70 = .ok (.iconst 0, 1) := by decide +kernel
theorem dX2_init_71 : decode cX2_init 71 = .ok (.istore_n 1, 1) := by decide +kernel
theorem dX2_init_72 : decode cX2_init 72 = .ok (.iload_n 1, 1) := by decide +kernel
theorem dX2_init_73 : decode cX2_init 73 = .ok (.iconst 3, 1) := by decide +kernel
theorem dX2_init_74 : decode cX2_init 74 = .ok (.if_icmp .ge 22, 3) := by decide +kernel
theorem dX2_init_77 : decode cX2_init 77 = .ok (.aload_n 0, 1) := by decide +kernel
theorem dX2_init_78 : decode cX2_init 78 = .ok (.getfield 30, 3) := by decide +kernel
theorem dX2_init_81 : decode cX2_init 81 = .ok (.iload_n 1, 1) := by decide +kernel
theorem dX2_init_82 : decode cX2_init 82 = .ok (.new 28, 3) := by decide +kernel
theorem dX2_init_85 : decode cX2_init 85 = .ok (.dup, 1) := by decide +kernel
theorem dX2_init_86 : decode cX2_init 86 = .ok (.invokespecial 37, 3) := by decide +kernel
theorem dX2_init_89 : decode cX2_init 89 = .ok (.aastore, 1) := by decide +kernel
theorem dX2_init_90 : decode cX2_init 90 = .ok (.iinc 1 1, 3) := by decide +kernel
theorem dX2_init_93 : decode cX2_init 93 = .ok (.goto (-21), 3) := by decide +kernel
theorem dX2_init_96 : decode cX2_init 96 = .ok (.return_, 1) := by decide +kernel
theorem dX3_init_0 : decode cX3_init 0 = .ok (.aload_n 0, 1) := by decide +kernel
theorem dX3_init_1 : decode cX3_init 1 = .ok (.invokespecial 1, 3) := by decide +kernel
theorem dX3_init_4 : decode cX3_init 4 = .ok (.aload_n 0, 1) := by decide +kernel
theorem dX3_init_5 : decode cX3_init 5 = .ok (.bipush 7, 2) := by decide +kernel
theorem dX3_init_7 : decode cX3_init 7 = .ok (.newarray .int, 2) := by decide +kernel
theorem dX3_init_9 : decode cX3_init 9 = .ok (.putfield 9, 3) := by decide +kernel
theorem dX3_init_12 : decode cX3_init 12 = .ok (.aload_n 0, 1) := by decide +kernel
theorem dX3_init_13 : decode cX3_init 13 = .ok (.bipush 7, 2) := by decide +kernel
theorem dX3_init_15 : decode cX3_init 15 = .ok (.newarray .int, 2) := by decide +kernel
theorem dX3_init_17 : decode cX3_init 17 = .ok (.putfield 13, 3) := by decide +kernel
theorem dX3_init_20 : decode cX3_init 20 = .ok (.aload_n 0, 1) := by decide +kernel
theorem dX3_init_21 : decode cX3_init 21 = .ok (.bipush 7, 2) := by decide +kernel
theorem dX3_init_23 : decode cX3_init 23 = .ok (.newarray .int, 2) := by decide +kernel
theorem dX3_init_25 : decode cX3_init 25 = .ok (.putfield 16, 3) := by decide +kernel
theorem dX3_init_28 : decode cX3_init 28 = .ok (.aload_n 0, 1) := by decide +kernel
theorem dX3_init_29 : decode cX3_init 29 = .ok (.iconst 0, 1) := by decide +kernel
theorem dX3_init_30 : decode cX3_init 30 = .ok (.putfield 19, 3) := by decide +kernel
theorem dX3_init_33 : decode cX3_init 33 = .ok (.aload_n 0, 1) := by decide +kernel
theorem dX3_init_34 : decode cX3_init 34 = .ok (.new 23, 3) := by decide +kernel
theorem dX3_init_37 : decode cX3_init 37 = .ok (.dup, 1) := by decide +kernel
theorem dX3_init_38 : decode cX3_init 38 = .ok (.bipush 7, 2) := by decide +kernel
theorem dX3_init_40 : decode cX3_init 40 = .ok (.invokespecial 25, 3) := by decide +kernel
theorem dX3_init_43 : decode cX3_init 43 = .ok (.putfield 28, 3) := by decide +kernel
theorem dX3_init_46 : decode cX3_init 46 = .ok (.aload_n 0, 1) := by decide +kernel
theorem dX3_init_47 : decode cX3_init 47 = .ok (.new 23, 3) := by decide +kernel
theorem dX3_init_50 : decode cX3_init 50 = .ok (.dup, 1) := by decide +kernel
theorem dX3_init_51 : decode cX3_init 51 = .ok (.bipush 7, 2) := by decide +kernel
theorem dX3_init_53 : decode cX3_init 53 = .ok (.invokespecial 25, 3) := by decide +kernel
theorem dX3_init_56 : decode cX3_init 56 = .ok (.putfield 32, 3) := by decide +kernel
theorem dX3_init_59 : decode cX3_init 59 = .ok (.aload_n 0, 1) := by decide +kernel
theorem dX3_init_60 : decode cX3_init 60 = .ok (.iconst 0, 1) := by decide +kernel
theorem dX3_init_61 : decode cX3_init 61 = .ok (.putfield 35, 3) := by decide +kernel
theorem dX3_init_64 : decode cX3_init 64 = .ok (.aload_n 0, 1) := by decide +kernel
theorem dX3_init_65 : decode cX3_init 65 = .ok (.iconst 0, 1) := by decide +kernel
theorem dX3_init_66 : decode cX3_init 66 = .ok (.putfield 38, 3) := by decide +kernel
theorem dX3_init_69 : decode cX3_init 69 = .ok (.aload_n 0, 1) := by decide +kernel
theorem dX3_init_70 : decode cX3_init 70 = .ok (.iconst 0, 1) := by decide +kernel
theorem dX3_init_71 : decode cX3_init 71 = .ok (.putfield 41, 3) := by decide +kernel
theorem dX3_init_74 : decode cX3_init 74 = .ok (.return_, 1) := by decide +kernel
theorem dX4_init_0 : decode cX4_init 0 = .ok (.aload_n 0, 1) := by decide +kernel
theorem dX4_init_1 : decode cX4_init 1 = .ok (.invokespecial 1, 3) := by decide +kernel
theorem dX4_init_4 : decode cX4_init 4 = .ok (.aload_n 0, 1) := by decide +kernel
theorem dX4_init_5 : decode cX4_init 5 = .ok (.new 7, 3) := by decide +kernel
theorem dX4_init_8 : decode cX4_init 8 = .ok (.dup, 1) := by decide +kernel
theorem dX4_init_9 : decode cX4_init 9 = .ok (.invokespecial 9, 3) := by decide +kernel
theorem dX4_init_12 : decode cX4_init 12 = .ok (.putfield 10, 3) := by decide +kernel
theorem dX4_init_15 : decode cX4_init 15 = .ok (.aload_n 0, 1) := by decide +kernel
theorem dX4_init_16 : decode cX4_init 16 = .ok (.new 16, 3) := by decide +kernel
theorem dX4_init_19 : decode cX4_init 19 = .ok (.dup, 1) := by decide +kernel
theorem dX4_init_20 : decode cX4_init 20 = .ok (.iconst 0, 1) := by decide +kernel
theorem dX4_init_21 : decode cX4_init 21 = .ok (.invokespecial 18, 3) := by decide +kernel
theorem dX4_init_24 : decode cX4_init 24 = .ok (.putfield 21, 3) := by decide +kernel
theorem dX4_init_27 : decode cX4_init 27 = .ok (.aload_n 0, 1) := by decide +kernel
theorem dX4_init_28 : decode cX4_init 28 = .ok (.ldc 25, 2) := by decide +kernel
theorem dX4_init_30 : decode cX4_init 30 = .ok (.putfield 27, 3) := by decide +kernel
theorem dX4_init_33 : decode cX4_init 33 = .ok (.aload_n 0, 1) := by decide +kernel
theorem dX4_init_34 : decode cX4_init 34 = .ok (.iconst 0, 1) := by decide +kernel
theorem dX4_init_35 : decode cX4_init 35 = .ok (.putfield 31, 3) := by decide +kernel
theorem dX4_init_38 : decode cX4_init 38 = .ok (.aload_n 0, 1) := by decide +kernel
theorem dX4_init_39 : decode cX4_init 39 = .ok (.iconst (-1), 1) := by decide +kernel
theorem dX4_init_40 : decode cX4_init 40 = .ok (.putfield 35, 3) := by decide +kernel
theorem dX4_init_43 : decode cX4_init 43 = .ok (.aload_n 0, 1) := by decide +kernel
theorem dX4_init_44 : decode cX4_init 44 = .ok (.iconst 0, 1) := by decide +kernel
theorem dX4_init_45 : decode cX4_init 45 = .ok (.putfield 38, 3) := by decide +kernel
theorem dX4_init_48 : decode cX4_init 48 = .ok (.aload_n 0, 1) := by decide +kernel
theorem dX4_init_49 : decode cX4_init 49 = .ok (.iconst 0, 1) := by decide +kernel
theorem dX4_init_50 : decode cX4_init 50 = .ok (.putfield 41, 3) := by decide +kernel
theorem dX4_init_53 : decode cX4_init 53 = .ok (.return_, 1) := by decide +kernel
theorem dX5_init_0 : decode cX5_init 0 = .ok (.aload_n 0, 1) := by decide +kernel
theorem dX5_init_1 : decode cX5_init 1 = .ok (.invokespecial 1, 3) := by decide +kernel
theorem dX5_init_4 : decode cX5_init 4 = .ok (.aload_n 0, 1) := by decide +kernel
theorem dX5_init_5 : decode cX5_init 5 = .ok (.iconst 0, 1) := by decide +kernel
theorem dX5_init_6 : decode cX5_init 6 = .ok (.putfield 7, 3) := by decide +kernel
theorem dX5_init_9 : decode cX5_init 9 = .ok (.aload_n 0, 1) := by decide +kernel
theorem dX5_init_10 : decode cX5_init 10 = .ok (.iconst 0, 1) := by decide +kernel
theorem dX5_init_11 : decode cX5_init 11 = .ok (.iload_n 1, 1) := by decide +kernel
theorem dX5_init_12 : decode cX5_init 12 = .ok (.invokestatic 13, 3) := by decide +kernel
theorem dX5_init_15 : decode cX5_init 15 = .ok (.newarray .int, 2) := by decide +kernel
theorem dX5_init_17 : decode cX5_init 17 = .ok (.putfield 19, 3) := by decide +kernel
theorem dX5_init_20 : decode cX5_init 20 = .ok (.return_, 1) := by decide +kernel
theorem dX6_init_0 : decode cX6_init 0 = .ok (.aload_n 0, 1) := by decide +kernel
theorem dX6_init_1 : decode cX6_init 1 = .ok (.invokespecial 1, 3) := by decide +kernel
theorem dX6_init_4 : decode cX6_init 4 = .ok (.aload_n 0, 1) := by decide +kernel
theorem dX6_init_5 : decode cX6_init 5 = .ok (.iconst 0, 1) := by decide +kernel
theorem dX6_init_6 : decode cX6_init 6 = .ok (.putfield 7, 3) := by decide +kernel
theorem dX6_init_9 : decode cX6_init 9 = .ok (.aload_n 0, 1) := by decide +kernel
theorem dX6_init_10 : decode cX6_init 10 = .ok (.iconst 0, 1) := by decide +kernel
theorem dX6_init_11 : decode cX6_init 11 = .ok (.putfield 13, 3) := by decide +kernel
theorem dX6_init_14 : decode cX6_init 14 = .ok (.aload_n 0, 1) := by decide +kernel
theorem dX6_init_15 : decode cX6_init 15 = .ok (.bipush 24, 2) := by decide +kernel
theorem dX6_init_17 : decode cX6_init 17 = .ok (.newarray .int, 2) := by decide +kernel
theorem dX6_init_19 : decode cX6_init 19 = .ok (.putfield 16, 3) := by decide +kernel
theorem dX6_init_22 : decode cX6_init 22 = .ok (.return_, 1) := by decide +kernel
theorem dX7_init_0 : decode cX7_init 0 = .ok (.aload_n 0, 1) := by decide +kernel
theorem dX7_init_1 : decode cX7_init 1 = .ok (.invokespecial 1, 3) := by decide +kernel
theorem dX7_init_4 : decode cX7_init 4 = .ok (.aload_n 0, 1) := by decide +kernel
theorem dX7_init_5 : decode cX7_init 5 = .ok (.sipush 192, 3) := by decide +kernel
theorem dX7_init_8 : decode cX7_init 8 = .ok (.newarray .int, 2) := by decide +kernel
theorem dX7_init_10 : decode cX7_init 10 = .ok (.putfield 9, 3) := by decide +kernel
theorem dX7_init_13 : decode cX7_init 13 = .ok (.aload_n 0, 1) := by decide +kernel
theorem dX7_init_14 : decode cX7_init 14 = .ok (.bipush 40, 2) := by decide +kernel
theorem dX7_init_16 : decode cX7_init 16 = .ok (.newarray .int, 2) := by decide +kernel
theorem dX7_init_18 : decode cX7_init 18 = .ok (.putfield 13, 3) := by decide +kernel
theorem dX7_init_21 : decode cX7_init 21 = .ok (.aload_n 0, 1) := by decide +kernel
theorem dX7_init_22 : decode cX7_init 22 = .ok (.bipush 40, 2) := by decide +kernel
theorem dX7_init_24 : decode cX7_init 24 = .ok (.newarray .int, 2) := by decide +kernel
theorem dX7_init_26 : decode cX7_init 26 = .ok (.putfield 16, 3) := by decide +kernel
theorem dX7_init_29 : decode cX7_init 29 = .ok (.aload_n 0, 1) := by decide +kernel
theorem dX7_init_30 : decode cX7_init 30 = .ok (.bipush 40, 2) := by decide +kernel
theorem dX7_init_32 : decode cX7_init 32 = .ok (.newarray .int, 2) := by decide +kernel
theorem dX7_init_34 : decode cX7_init 34 = .ok (.putfield 19, 3) := by decide +kernel
theorem dX7_init_37 : decode cX7_init 37 = .ok (.aload_n 0, 1) := by decide +kernel
theorem dX7_init_38 : decode cX7_init 38 = .ok (.bipush 40, 2) := by decide +kernel
theorem dX7_init_40 : decode cX7_init 40 = .ok (.newarray .int, 2) := by decide +kernel
theorem dX7_init_42 : decode cX7_init 42 = .ok (.putfield 22, 3) := by decide +kernel
theorem dX7_init_45 : decode cX7_init 45 = .ok (.aload_n 0, 1) := by decide +kernel
theorem dX7_init_46 : decode cX7_init 46 = .ok (.iconst 0, 1) := by decide +kernel
theorem dX7_init_47 : decode cX7_init 47 = .ok (.putfield 25, 3) := by decide +kernel
theorem dX7_init_50 : decode cX7_init 50 = .ok (.iconst 0, 1) := by decide +kernel
theorem dX7_init_51 : decode cX7_init 51 = .ok (.istore_n 1, 1) := by decide +kernel
theorem dX7_init_52 : decode cX7_init 52 = .ok (.iload_n 1, 1) := by decide +kernel
theorem dX7_init_53 : decode cX7_init 53 = .ok (.sipush 192, 3) := by decide +kernel
theorem dX7_init_56 : decode cX7_init 56 = .ok (.if_icmp .ge 16, 3) := by decide +kernel
theorem dX7_init_59 : decode cX7_init 59 = .ok (.aload_n 0, 1) := by decide +kernel
theorem dX7_init_60 : decode cX7_init 60 = .ok (.getfield 9, 3) := by decide +kernel
theorem dX7_init_63 : decode cX7_init 63 = .ok (.iload_n 1, 1) := by decide +kernel
theorem dX7_init_64 : decode cX7_init 64 = .ok (.iconst (-1), 1) := by decide +kernel
theorem dX7_init_65 : decode cX7_init 65 = .ok (.iastore, 1) := by decide +kernel
theorem dX7_init_66 : decode cX7_init 66 = .ok (.iinc 1 1, 3) := by decide +kernel
theorem dX7_init_69 : decode cX7_init 69 = .ok (.goto (-17), 3) := by decide +kernel
theorem dX7_init_72 : decode cX7_init 72 = .ok (.return_, 1) := by decide +kernel
theorem dX8_init_0 : decode cX8_init 0 = .ok (.aload_n 0, 1) := by decide +kernel
theorem dX8_init_1 : decode cX8_init 1 = .ok (.invokespecial 1, 3) := by decide +kernel
theorem dX8_init_4 : decode cX8_init 4 = .ok (.aload_n 0, 1) := by decide +kernel
theorem dX8_init_5 : decode cX8_init 5 = .ok (.new 7, 3) := by decide +kernel
theorem dX8_init_8 : decode cX8_init 8 = .ok (.dup, 1) := by decide +kernel
theorem dX8_init_9 : decode cX8_init 9 = .ok (.bipush 30, 2) := by decide +kernel
theorem dX8_init_11 : decode cX8_init 11 = .ok (.invokespecial 9, 3) := by decide +kernel
theorem dX8_init_14 : decode cX8_init 14 = .ok (.putfield 12, 3) := by decide +kernel
theorem dX8_init_17 : decode cX8_init 17 = .ok (.aload_n 0, 1) := by decide +kernel
theorem dX8_init_18 : decode cX8_init 18 = .ok (.new 7, 3) := by decide +kernel
theorem dX8_init_21 : decode cX8_init 21 = .ok (.dup, 1) := by decide +kernel
theorem dX8_init_22 : decode cX8_init 22 = .ok (.bipush 30, 2) := by decide +kernel
theorem dX8_init_24 : decode cX8_init 24 = .ok (.invokespecial 9, 3) := by decide +kernel
theorem dX8_init_27 : decode cX8_init 27 = .ok (.putfield 18, 3) := by decide +kernel
theorem dX8_init_30 : decode cX8_init 30 = .ok (.aload_n 0, 1) := by decide +kernel
theorem dX8_init_31 : decode cX8_init 31 = .ok (.iconst 0, 1) := by decide +kernel
theorem dX8_init_32 : decode cX8_init 32 = .ok (.putfield 21, 3) := by decide +kernel
theorem dX8_init_35 : decode cX8_init 35 = .ok (.aload_n 0, 1) := by decide +kernel
theorem dX8_init_36 : decode cX8_init 36 = .ok (.iconst 0, 1) := by decide +kernel
theorem dX8_init_37 : decode cX8_init 37 = .ok (.putfield 25, 3) := by decide +kernel
theorem dX8_init_40 : decode cX8_init 40 = .ok (.aload_n 0, 1) := by decide +kernel
theorem dX8_init_41 : decode cX8_init 41 = .ok (.iconst 0, 1) := by decide +kernel
theorem dX8_init_42 : decode cX8_init 42 = .ok (.putfield 28, 3) := by decide +kernel
theorem dX8_init_45 : decode cX8_init 45 = .ok (.aload_n 0, 1) := by decide +kernel
theorem dX8_init_46 : decode cX8_init 46 = .ok (.iconst 0, 1) := by decide +kernel
theorem dX8_init_47 : decode cX8_init 47 = .ok (.putfield 31, 3) := by decide +kernel
theorem dX8_init_50 : decode cX8_init 50 = .ok (.return_, 1) := by decide +kernel
theorem dX9_init_0 : decode cX9_init 0 = .ok (.aload_n 0, 1) := by decide +kernel
theorem dX9_init_1 : decode cX9_init 1 = .ok (.invokespecial 1, 3) := by decide +kernel
theorem dX9_init_4 : decode cX9_init 4 = .ok (.aload_n 0, 1) := by decide +kernel
theorem dX9_init_5 : decode cX9_init 5 = .ok (.iconst 0, 1) := by decide +kernel
theorem dX9_init_6 : decode cX9_init 6 = .ok (.putfield 7, 3) := by decide +kernel
theorem dX9_init_9 : decode cX9_init 9 = .ok (.aload_n 0, 1) := by decide +kernel
theorem dX9_init_10 : decode cX9_init 10 = .ok (.iconst 0, 1) := by decide +kernel
theorem dX9_init_11 : decode cX9_init 11 = .ok (.putfield 13, 3) := by decide +kernel
theorem dX9_init_14 : decode cX9_init 14 = .ok (.aload_n 0, 1) := by decide +kernel
theorem dX9_init_15 : decode cX9_init 15 = .ok (.iconst 0, 1) := by decide +kernel
theorem dX9_init_16 : decode cX9_init 16 = .ok (.putfield 16, 3) := by decide +kernel
theorem dX9_init_19 : decode cX9_init 19 = .ok (.aload_n 0, 1) := by decide +kernel
theorem dX9_init_20 : decode cX9_init 20 = .ok (.iconst 5, 1) := by decide +kernel
theorem dX9_init_21 : decode cX9_init 21 = .ok (.putfield 19, 3) := by decide +kernel
theorem dX9_init_24 : decode cX9_init 24 = .ok (.aload_n 0, 1) := by decide +kernel
theorem dX9_init_25 : decode cX9_init 25 = .ok (.bipush 60, 2) := by decide +kernel
theorem dX9_init_27 : decode cX9_init 27 = .ok (.putfield 22, 3) := by decide +kernel
theorem dX9_init_30 : decode cX9_init 30 = .ok (.aload_n 0, 1) := by decide +kernel
theorem dX9_init_31 : decode cX9_init 31 = .ok (.iconst 0, 1) := by decide +kernel
theorem dX9_init_32 : decode cX9_init 32 = .ok (.putfield 25, 3) := by decide +kernel
theorem dX9_init_35 : decode cX9_init 35 = .ok (.aload_n 0, 1) := by decide +kernel
theorem dX9_init_36 : decode cX9_init 36 = .ok (.iconst 0, 1) := by decide +kernel
theorem dX9_init_37 : decode cX9_init 37 = .ok (.putfield 28, 3) := by decide +kernel
theorem dX9_init_40 : decode cX9_init 40 = .ok (.aload_n 0, 1) := by decide +kernel
theorem dX9_init_41 : decode cX9_init 41 = .ok (.iconst 0, 1) := by decide +kernel
theorem dX9_init_42 : decode cX9_init 42 = .ok (.putfield 32, 3) := by decide +kernel
theorem dX9_init_45 : decode cX9_init 45 = .ok (.aload_n 0, 1) := by decide +kernel
theorem dX9_init_46 : decode cX9_init 46 = .ok (.iconst 0, 1) := by decide +kernel
theorem dX9_init_47 : decode cX9_init 47 = .ok (.putfield 35, 3) := by decide +kernel
theorem dX9_init_50 : decode cX9_init 50 = .ok (.aload_n 0, 1) := by decide +kernel
theorem dX9_init_51 : decode cX9_init 51 = .ok (.sipush 192, 3) := by decide +kernel
theorem dX9_init_54 : decode cX9_init 54 = .ok (.newarray .int, 2) := by decide +kernel
theorem dX9_init_56 : decode cX9_init 56 = .ok (.putfield 40, 3) := by decide +kernel
theorem dX9_init_59 : decode cX9_init 59 = .ok (.aload_n 0, 1) := by decide +kernel
theorem dX9_init_60 : decode cX9_init 60 = .ok (.sipush 192, 3) := by decide +kernel
theorem dX9_init_63 : decode cX9_init 63 = .ok (.newarray .int, 2) := by decide +kernel
theorem dX9_init_65 : decode cX9_init 65 = .ok (.putfield 44, 3) := by decide +kernel
theorem dX9_init_68 : decode cX9_init 68 = .ok (.return_, 1) := by decide +kernel
end
