theorem known_all {s : State} {args : Array Value} (hts : ∀ w ∈ BASE, w.before args s = true) : ∀ k : Nat, ∃ d : ClassId × (Nat → Nat), ∀ q : vw_C, classes[k]? = some q → u_Kn s q.1 q.2.1 q.2.2 d.1 d.2 := by
  intro k
  match k with
  | 0 => obtain ⟨c, i, h⟩ := u_known (C := RX0) (T := TX0) (N := 6) hts inB0 (hts _ m_383); exact ⟨(c, i), fun q hq => by cases hq; exact h⟩
  | 1 => obtain ⟨c, i, h⟩ := u_known (C := RX1) (T := TX1) (N := 3) hts inB1 (hts _ m_155); exact ⟨(c, i), fun q hq => by cases hq; exact h⟩
  | 2 => obtain ⟨c, i, h⟩ := u_known (C := RX2) (T := TX2) (N := 7) hts inB2 (hts _ m_148); exact ⟨(c, i), fun q hq => by cases hq; exact h⟩
  | 3 => obtain ⟨c, i, h⟩ := u_known (C := RX3) (T := TX3) (N := 9) hts inB3 (hts _ m_194); exact ⟨(c, i), fun q hq => by cases hq; exact h⟩
  | 4 => obtain ⟨c, i, h⟩ := u_known (C := RX4) (T := TX4) (N := 7) hts inB4 (hts _ m_348); exact ⟨(c, i), fun q hq => by cases hq; exact h⟩
  | 5 => obtain ⟨c, i, h⟩ := u_known (C := RX5) (T := TX5) (N := 2) hts inB5 (hts _ m_200); exact ⟨(c, i), fun q hq => by cases hq; exact h⟩
  | 6 => obtain ⟨c, i, h⟩ := u_known (C := RX6) (T := TX6) (N := 3) hts inB6 (hts _ m_440); exact ⟨(c, i), fun q hq => by cases hq; exact h⟩
  | 7 => obtain ⟨c, i, h⟩ := u_known (C := RX7) (T := TX7) (N := 6) hts inB7 (hts _ m_116); exact ⟨(c, i), fun q hq => by cases hq; exact h⟩
  | 8 => obtain ⟨c, i, h⟩ := u_known (C := RX8) (T := TX8) (N := 6) hts inB8 (hts _ m_412); exact ⟨(c, i), fun q hq => by cases hq; exact h⟩
  | 9 => obtain ⟨c, i, h⟩ := u_known (C := RX9) (T := TX9) (N := 11) hts inB9 (hts _ m_253); exact ⟨(c, i), fun q hq => by cases hq; exact h⟩
  | 10 => obtain ⟨c, i, h⟩ := u_known (C := RX10) (T := TX10) (N := 8) hts inB10 (hts _ m_110); exact ⟨(c, i), fun q hq => by cases hq; exact h⟩
  | 11 => obtain ⟨c, i, h⟩ := u_known (C := RX11) (T := TX11) (N := 9) hts inB11 (hts _ m_102); exact ⟨(c, i), fun q hq => by cases hq; exact h⟩
  | 12 => obtain ⟨c, i, h⟩ := u_known (C := RX12) (T := TX12) (N := 33) hts inB12 (hts _ m_1313); exact ⟨(c, i), fun q hq => by cases hq; exact h⟩
  | k + 13 => exact ⟨(0, fun _ => 0), fun q hq => by simp [classes] at hq⟩
abbrev TL : List FieldType := [.int, .boolean, .long, .object "ClickStreet$Formula", .object "ClickStreet$Walker", .object "ClickStreet$Sheet", .object "java/lang/String"]
theorem arr_p {s : State} {args : Array Value} {ty : FieldType} (h : (Cond.arrayClass ty).before args s = true) : ∃ cA : ClassId, ArrOfT s cA ty ∧ s.vm.findClass ("[" ++ ty.toString) = some cA := by
  obtain ⟨c, kA, comp, h1, h2, h3⟩ := Cond.arrayClass_spec (args := args) (first := s) (o := none) (s := s) (idx := []) h
  exact ⟨c, fun n z => ⟨(fun k q => by cases q), kA, h2, comp, h3⟩, h1⟩
theorem arr_q {s : State} {args : Array Value} {C : String} (h : (Cond.arrayOver (.object C)).before args s = true) : ∃ cA : ClassId, ArrOfT s cA (.object C) ∧ va_RA s cA (.object C) := by
  obtain ⟨comp, c, kA, h1, h2, h3, h4, h5⟩ := Cond.arrayOver_spec (args := args) (first := s) (o := none) (s := s) (idx := []) h
  exact ⟨c, fun n z => ⟨(fun k q => by cases q), kA, h3, comp, h4⟩, kA, comp, h3, h4, h1, h5⟩
theorem arr_all {s : State} {args : Array Value} (hts : ∀ w ∈ BASE, w.before args s = true) (hAO : ∀ C ∈ AOs, (Cond.arrayOver (.object C)).before args s = true) : ∀ k : Nat, ∃ cA : ClassId, ∀ ty : FieldType, TL[k]? = some ty → ArrOfT s cA ty ∧ va_RA s cA ty := by
  intro k
  match k with
  | 0 => obtain ⟨c, h1, h2⟩ := arr_p (hts _ m_146); exact ⟨c, fun q hq => by cases hq; exact ⟨h1, h2⟩⟩
  | 1 => obtain ⟨c, h1, h2⟩ := arr_p (hts _ m_409); exact ⟨c, fun q hq => by cases hq; exact ⟨h1, h2⟩⟩
  | 2 => obtain ⟨c, h1, h2⟩ := arr_p (hts _ m_410); exact ⟨c, fun q hq => by cases hq; exact ⟨h1, h2⟩⟩
  | 3 => obtain ⟨c, h1, h2⟩ := arr_q (hAO "ClickStreet$Formula" (by decide)); exact ⟨c, fun q hq => by cases hq; exact ⟨h1, h2⟩⟩
  | 4 => obtain ⟨c, h1, h2⟩ := arr_q (hAO "ClickStreet$Walker" (by decide)); exact ⟨c, fun q hq => by cases hq; exact ⟨h1, h2⟩⟩
  | 5 => obtain ⟨c, h1, h2⟩ := arr_q (hAO "ClickStreet$Sheet" (by decide)); exact ⟨c, fun q hq => by cases hq; exact ⟨h1, h2⟩⟩
  | 6 => obtain ⟨c, h1, h2⟩ := arr_q (hAO "java/lang/String" (by decide)); exact ⟨c, fun q hq => by cases hq; exact ⟨h1, h2⟩⟩
  | k + 7 => exact ⟨0, fun q hq => by simp [TL] at hq⟩
theorem nf_in : ∀ q ∈ NFs, Cond.fieldLinkNest q.1 q.2.1 q.2.2.1 q.2.2.2.1 q.2.2.2.2.1 q.2.2.2.2.2 ∈ lw_tbl := by
  have h : NFs.map (fun (q : String × Nat × String × String × String × String) => Cond.fieldLinkNest q.1 q.2.1 q.2.2.1 q.2.2.2.1 q.2.2.2.2.1 q.2.2.2.2.2) = ([122, 123, 125, 127, 129, 131, 176, 210, 211, 212, 222, 225, 228, 259, 261, 262, 263, 265, 266, 268, 269, 271, 273, 274, 276, 277, 279, 281, 283, 285, 310, 311, 313, 314, 316, 318, 320, 322, 323, 325, 327, 359, 393, 395, 421, 426, 446, 448, 449, 451] : List Nat).filterMap (fun i => lw_tbl[i]?) := by decide +kernel
  intro q hq
  have h1 := List.mem_map_of_mem (f := fun (q : String × Nat × String × String × String × String) => Cond.fieldLinkNest q.1 q.2.1 q.2.2.1 q.2.2.2.1 q.2.2.2.2.1 q.2.2.2.2.2) hq
  rw [h] at h1
  obtain ⟨i, -, hi⟩ := List.mem_filterMap.mp h1
  exact List.mem_of_getElem? hi
theorem nm_in : ∀ q ∈ NMs, Cond.methodLinkNest q.1 q.2.1 q.2.2.1 q.2.2.2 ∈ lw_tbl := by
  have h : NMs.map (fun (q : String × Nat × MethodName × String) => Cond.methodLinkNest q.1 q.2.1 q.2.2.1 q.2.2.2) = ([156, 195, 254, 349, 354, 384, 413, 441, 656] : List Nat).filterMap (fun i => lw_tbl[i]?) := by decide +kernel
  intro q hq
  have h1 := List.mem_map_of_mem (f := fun (q : String × Nat × MethodName × String) => Cond.methodLinkNest q.1 q.2.1 q.2.2.1 q.2.2.2) hq
  rw [h] at h1
  obtain ⟨i, -, hi⟩ := List.mem_filterMap.mp h1
  exact List.mem_of_getElem? hi
theorem ns_in : ∀ q ∈ NSs, Cond.stringRef q.1 q.2.1 q.2.2 ∈ lw_tbl := by
  have h : NSs.map (fun (q : String × Nat × String) => Cond.stringRef q.1 q.2.1 q.2.2) = ([357, 685, 686, 687, 1320, 1321, 1322] : List Nat).filterMap (fun i => lw_tbl[i]?) := by decide +kernel
  intro q hq
  have h1 := List.mem_map_of_mem (f := fun (q : String × Nat × String) => Cond.stringRef q.1 q.2.1 q.2.2) hq
  rw [h] at h1
  obtain ⟨i, -, hi⟩ := List.mem_filterMap.mp h1
  exact List.mem_of_getElem? hi
theorem ao_in : ∀ q ∈ AOs, Cond.arrayOver (.object q) ∈ lw_tbl := by
  have h : AOs.map (fun (q : String) => Cond.arrayOver (.object q)) = ([154, 252, 346, 1319] : List Nat).filterMap (fun i => lw_tbl[i]?) := by decide +kernel
  intro q hq
  have h1 := List.mem_map_of_mem (f := fun (q : String) => Cond.arrayOver (.object q)) hq
  rw [h] at h1
  obtain ⟨i, -, hi⟩ := List.mem_filterMap.mp h1
  exact List.mem_of_getElem? hi
theorem str_all {s : State} {args : Array Value} (hts : ∀ w ∈ lw_tbl, w.before args s = true) (hgv : (Jvm.Cond.and given_1 narrow_1).before args s = true) : ∀ k : Nat, ∃ a : Nat, ∀ q : String × Nat × String, NSs[k]? = some q → vk_R q.1 q.2.1 q.2.2 a s ∧ va_O "java/lang/String" a (fun q => s.heap.size ≤ q) s s.heap := by
  have hs := flat_of_before _ hgv
  have key : ∀ (own : String) (i : Nat) (tx : String), (own, i, tx) ∈ NSs → (Cond.exactly (.string own i) "java/lang/String").before args s = true → ∃ a : Nat, vk_R own i tx a s ∧ va_O "java/lang/String" a (fun q => s.heap.size ≤ q) s s.heap := by
    intro own i tx hm hex
    obtain ⟨a2, c, cA, kA, q1, -⟩ := Cond.exactly_spec (args := args) (first := s) (o := none) (s := s) (idx := []) (t := .string own i) (cls := "java/lang/String") hex
    exact ⟨a2, vk_R.of (hts _ (ns_in _ hm)) q1, va_Oof hex q1 (fun a h => Nat.not_le.mpr h)⟩
  intro k
  match k with
  | 0 => obtain ⟨a, h1, h2⟩ := key RX4 25 "" (by decide) (hs _ (by decide +kernel)); exact ⟨a, fun q hq => by cases hq; exact ⟨h1, h2⟩⟩
  | 1 => obtain ⟨a, h1, h2⟩ := key RX4 44 "loyp" (by decide) (hs _ (by decide +kernel)); exact ⟨a, fun q hq => by cases hq; exact ⟨h1, h2⟩⟩
  | 2 => obtain ⟨a, h1, h2⟩ := key RX4 48 "snt" (by decide) (hs _ (by decide +kernel)); exact ⟨a, fun q hq => by cases hq; exact ⟨h1, h2⟩⟩
  | 3 => obtain ⟨a, h1, h2⟩ := key RX4 50 "flrbt" (by decide) (hs _ (by decide +kernel)); exact ⟨a, fun q hq => by cases hq; exact ⟨h1, h2⟩⟩
  | 4 => obtain ⟨a, h1, h2⟩ := key RX12 34 "loyp" (by decide) (hs _ (by decide +kernel)); exact ⟨a, fun q hq => by cases hq; exact ⟨h1, h2⟩⟩
  | 5 => obtain ⟨a, h1, h2⟩ := key RX12 36 "snt" (by decide) (hs _ (by decide +kernel)); exact ⟨a, fun q hq => by cases hq; exact ⟨h1, h2⟩⟩
  | 6 => obtain ⟨a, h1, h2⟩ := key RX12 38 "flrbt" (by decide) (hs _ (by decide +kernel)); exact ⟨a, fun q hq => by cases hq; exact ⟨h1, h2⟩⟩
  | k + 7 => exact ⟨0, fun q hq => by simp [NSs] at hq⟩
theorem env_of {s : State} {args : Array Value} (hts : ∀ w ∈ lw_tbl, w.before args s = true) (hgv : (Jvm.Cond.and given_1 narrow_1).before args s = true) : ∃ (G : va_G) (cy : Nat → ClassId) (sk : Nat → Nat), EN G cy sk s ∧ ∀ k, 4 ≤ k → k < 7 → va_O "java/lang/String" (sk k) (fun q => s.heap.size ≤ q) s s.heap := by
  have htB : ∀ w ∈ BASE, w.before args s = true := fun w h => hts w (List.mem_filter.mp h).1
  have hAO : ∀ C ∈ AOs, (Cond.arrayOver (.object C)).before args s = true := fun C hC => hts _ (ao_in C hC)
  obtain ⟨D, hD⟩ := Classical.axiomOfChoice (known_all htB)
  obtain ⟨cy, hcy⟩ := Classical.axiomOfChoice (arr_all htB hAO)
  obtain ⟨sk, hsk⟩ := Classical.axiomOfChoice (str_all hts hgv)
  refine ⟨(fun k => (D k).1, fun k => (D k).2), cy, sk, ⟨⟨fun c q hq => hD c q hq, fun k q hq => ?_⟩, fun q hq => va_Nw.of rfl (hts _ (nf_in q hq)), fun q hq => va_Nw.of rfl (hts _ (nm_in q hq)), fun k q hq => (hsk k q hq).1, fun C hC => va_AO.of (hAO C hC)⟩, fun k h4 h7 => ?_⟩
  · match k, hq with
    | 0, hq => cases hq; exact hcy 0 _ rfl
    | 1, hq => cases hq; exact hcy 1 _ rfl
    | 2, hq => cases hq; exact hcy 2 _ rfl
    | 3, hq => cases hq; exact hcy 3 _ rfl
    | 4, hq => cases hq; exact hcy 4 _ rfl
    | 5, hq => cases hq; exact hcy 5 _ rfl
    | 6, hq => cases hq; exact hcy 6 _ rfl
    | k + 7, hq => simp [TYS] at hq
  · match k, h4, h7 with
    | 4, _, _ => exact (hsk 4 _ rfl).2
    | 5, _, _ => exact (hsk 5 _ rfl).2
    | 6, _, _ => exact (hsk 6 _ rfl).2
theorem lt6 {L : Nat} (h : L < 6) : Int32.ofNat L - 6 < 0 := by
  match L, h with
  | 0, _ => decide
  | 1, _ => decide
  | 2, _ => decide
  | 3, _ => decide
  | 4, _ => decide
  | 5, _ => decide
