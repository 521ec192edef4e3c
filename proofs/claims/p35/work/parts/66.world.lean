/-! the world that the two constructors leave, as class and model are held-/
def psn (c : rf) : Nat := match c.1 with
  | 0 => ((([[191], [], [], []] : List (List Nat)).getD c.2.1 []).getD (c.2.2 - ([0, 0, 0, 0] : List Nat).getD c.2.1 0) 999)
  | 1 => ((([[14, 17, 20], [72, 75, 78], [130, 133, 136], [186]] : List (List Nat)).getD c.2.1 []).getD (c.2.2 - ([0, 0, 0, 0] : List Nat).getD c.2.1 0) 999)
  | 2 => ((([[9], [67], [125], []] : List (List Nat)).getD c.2.1 []).getD (c.2.2 - ([0, 0, 0, 0] : List Nat).getD c.2.1 0) 999)
  | 3 => ((([[23], [81], [139], []] : List (List Nat)).getD c.2.1 []).getD (c.2.2 - ([0, 0, 0, 0] : List Nat).getD c.2.1 0) 999)
  | 4 => ((([[185], [], [], []] : List (List Nat)).getD c.2.1 []).getD (c.2.2 - ([0, 0, 0, 0] : List Nat).getD c.2.1 0) 999)
  | 5 => ((([[31, 33, 27, 29], [89, 91, 85, 87], [147, 149, 143, 145], [197, 199, 189]] : List (List Nat)).getD c.2.1 []).getD (c.2.2 - ([0, 0, 0, 4] : List Nat).getD c.2.1 0) 999)
  | 6 => ((([[177, 179, 181, 183], [], [], []] : List (List Nat)).getD c.2.1 []).getD (c.2.2 - ([0, 0, 0, 0] : List Nat).getD c.2.1 0) 999)
  | 7 => ((([[3], [61], [119], []] : List (List Nat)).getD c.2.1 []).getD (c.2.2 - ([0, 0, 0, 0] : List Nat).getD c.2.1 0) 999)
  | 8 => ((([[196], [], [], []] : List (List Nat)).getD c.2.1 []).getD (c.2.2 - ([0, 0, 0, 0] : List Nat).getD c.2.1 0) 999)
  | 9 => ((([[36, 39, 42, 45, 48, 51, 54, 57], [94, 97, 100, 103, 106, 109, 112, 115], [152, 155, 158, 161, 164, 167, 170, 173], []] : List (List Nat)).getD c.2.1 []).getD (c.2.2 - ([0, 0, 0, 0] : List Nat).getD c.2.1 0) 999)
  | 10 => ((([[2], [60], [118], []] : List (List Nat)).getD c.2.1 []).getD (c.2.2 - ([0, 0, 0, 0] : List Nat).getD c.2.1 0) 999)
  | 11 => ((([[0], [], [], []] : List (List Nat)).getD c.2.1 []).getD (c.2.2 - ([0, 0, 0, 0] : List Nat).getD c.2.1 0) 999)
  | 20 => ((([[192], [], [], []] : List (List Nat)).getD c.2.1 []).getD (c.2.2 - ([0, 0, 0, 0] : List Nat).getD c.2.1 0) 999)
  | 21 => ((([[193], [], [], []] : List (List Nat)).getD c.2.1 []).getD (c.2.2 - ([0, 0, 0, 0] : List Nat).getD c.2.1 0) 999)
  | 22 => ((([[194], [], [], []] : List (List Nat)).getD c.2.1 []).getD (c.2.2 - ([0, 0, 0, 0] : List Nat).getD c.2.1 0) 999)
  | 23 => ((([[195], [], [], []] : List (List Nat)).getD c.2.1 []).getD (c.2.2 - ([0, 0, 0, 0] : List Nat).getD c.2.1 0) 999)
  | 24 => ((([[15, 18, 21], [73, 76, 79], [131, 134, 137], [187]] : List (List Nat)).getD c.2.1 []).getD (c.2.2 - ([0, 0, 0, 0] : List Nat).getD c.2.1 0) 999)
  | 25 => ((([[16, 19, 22], [74, 77, 80], [132, 135, 138], [188]] : List (List Nat)).getD c.2.1 []).getD (c.2.2 - ([0, 0, 0, 0] : List Nat).getD c.2.1 0) 999)
  | 26 => ((([[10], [68], [126], []] : List (List Nat)).getD c.2.1 []).getD (c.2.2 - ([0, 0, 0, 0] : List Nat).getD c.2.1 0) 999)
  | 27 => ((([[11], [69], [127], []] : List (List Nat)).getD c.2.1 []).getD (c.2.2 - ([0, 0, 0, 0] : List Nat).getD c.2.1 0) 999)
  | 28 => ((([[12], [70], [128], []] : List (List Nat)).getD c.2.1 []).getD (c.2.2 - ([0, 0, 0, 0] : List Nat).getD c.2.1 0) 999)
  | 29 => ((([[13], [71], [129], []] : List (List Nat)).getD c.2.1 []).getD (c.2.2 - ([0, 0, 0, 0] : List Nat).getD c.2.1 0) 999)
  | 30 => ((([[24], [82], [140], []] : List (List Nat)).getD c.2.1 []).getD (c.2.2 - ([0, 0, 0, 0] : List Nat).getD c.2.1 0) 999)
  | 31 => ((([[25], [83], [141], []] : List (List Nat)).getD c.2.1 []).getD (c.2.2 - ([0, 0, 0, 0] : List Nat).getD c.2.1 0) 999)
  | 32 => ((([[26], [84], [142], []] : List (List Nat)).getD c.2.1 []).getD (c.2.2 - ([0, 0, 0, 0] : List Nat).getD c.2.1 0) 999)
  | 33 => ((([[32, 34, 28, 30], [90, 92, 86, 88], [148, 150, 144, 146], [198, 200, 190]] : List (List Nat)).getD c.2.1 []).getD (c.2.2 - ([0, 0, 0, 4] : List Nat).getD c.2.1 0) 999)
  | 34 => ((([[178, 180, 182, 184], [], [], []] : List (List Nat)).getD c.2.1 []).getD (c.2.2 - ([0, 0, 0, 0] : List Nat).getD c.2.1 0) 999)
  | 35 => ((([[4], [62], [120], []] : List (List Nat)).getD c.2.1 []).getD (c.2.2 - ([0, 0, 0, 0] : List Nat).getD c.2.1 0) 999)
  | 36 => ((([[5], [63], [121], []] : List (List Nat)).getD c.2.1 []).getD (c.2.2 - ([0, 0, 0, 0] : List Nat).getD c.2.1 0) 999)
  | 37 => ((([[6], [64], [122], []] : List (List Nat)).getD c.2.1 []).getD (c.2.2 - ([0, 0, 0, 0] : List Nat).getD c.2.1 0) 999)
  | 38 => ((([[7], [65], [123], []] : List (List Nat)).getD c.2.1 []).getD (c.2.2 - ([0, 0, 0, 0] : List Nat).getD c.2.1 0) 999)
  | 39 => ((([[8], [66], [124], []] : List (List Nat)).getD c.2.1 []).getD (c.2.2 - ([0, 0, 0, 0] : List Nat).getD c.2.1 0) 999)
  | 40 => ((([[37, 40, 43, 46, 49, 52, 55, 58], [95, 98, 101, 104, 107, 110, 113, 116], [153, 156, 159, 162, 165, 168, 171, 174], []] : List (List Nat)).getD c.2.1 []).getD (c.2.2 - ([0, 0, 0, 0] : List Nat).getD c.2.1 0) 999)
  | 41 => ((([[38, 41, 44, 47, 50, 53, 56, 59], [96, 99, 102, 105, 108, 111, 114, 117], [154, 157, 160, 163, 166, 169, 172, 175], []] : List (List Nat)).getD c.2.1 []).getD (c.2.2 - ([0, 0, 0, 0] : List Nat).getD c.2.1 0) 999)
  | 42 => ((([[35], [93], [151], []] : List (List Nat)).getD c.2.1 []).getD (c.2.2 - ([0, 0, 0, 0] : List Nat).getD c.2.1 0) 999)
  | 43 => ((([[176], [], [], []] : List (List Nat)).getD c.2.1 []).getD (c.2.2 - ([0, 0, 0, 0] : List Nat).getD c.2.1 0) 999)
  | 44 => ((([[1], [], [], []] : List (List Nat)).getD c.2.1 []).getD (c.2.2 - ([0, 0, 0, 0] : List Nat).getD c.2.1 0) 999)
  | 12 => ((([[201], [], [], []] : List (List Nat)).getD c.2.1 []).getD (c.2.2 - ([0, 0, 0, 0] : List Nat).getD c.2.1 0) 999)
  | 50 => ((([[202], [], [], []] : List (List Nat)).getD c.2.1 []).getD (c.2.2 - ([0, 0, 0, 0] : List Nat).getD c.2.1 0) 999)
  | 51 => ((([[203], [], [], []] : List (List Nat)).getD c.2.1 []).getD (c.2.2 - ([0, 0, 0, 0] : List Nat).getD c.2.1 0) 999)
  | 52 => ((([[204], [], [], []] : List (List Nat)).getD c.2.1 []).getD (c.2.2 - ([0, 0, 0, 0] : List Nat).getD c.2.1 0) 999)
  | 53 => ((([[205], [], [], []] : List (List Nat)).getD c.2.1 []).getD (c.2.2 - ([0, 0, 0, 0] : List Nat).getD c.2.1 0) 999)
  | 54 => ((([[206], [], [], []] : List (List Nat)).getD c.2.1 []).getD (c.2.2 - ([0, 0, 0, 0] : List Nat).getD c.2.1 0) 999)
  | 55 => ((([[207], [], [], []] : List (List Nat)).getD c.2.1 []).getD (c.2.2 - ([0, 0, 0, 0] : List Nat).getD c.2.1 0) 999)
  | 56 => ((([[208], [], [], []] : List (List Nat)).getD c.2.1 []).getD (c.2.2 - ([0, 0, 0, 0] : List Nat).getD c.2.1 0) 999)
  | 57 => ((([[209], [], [], []] : List (List Nat)).getD c.2.1 []).getD (c.2.2 - ([0, 0, 0, 0] : List Nat).getD c.2.1 0) 999)
  | 58 => ((([[210], [], [], []] : List (List Nat)).getD c.2.1 []).getD (c.2.2 - ([0, 0, 0, 0] : List Nat).getD c.2.1 0) 999)
  | 59 => ((([[211], [], [], []] : List (List Nat)).getD c.2.1 []).getD (c.2.2 - ([0, 0, 0, 0] : List Nat).getD c.2.1 0) 999)
  | 60 => ((([[212], [], [], []] : List (List Nat)).getD c.2.1 []).getD (c.2.2 - ([0, 0, 0, 0] : List Nat).getD c.2.1 0) 999)
  | 61 => ((([[213], [], [], []] : List (List Nat)).getD c.2.1 []).getD (c.2.2 - ([0, 0, 0, 0] : List Nat).getD c.2.1 0) 999)
  | 62 => ((([[214], [], [], []] : List (List Nat)).getD c.2.1 []).getD (c.2.2 - ([0, 0, 0, 0] : List Nat).getD c.2.1 0) 999)
  | 63 => ((([[215], [], [], []] : List (List Nat)).getD c.2.1 []).getD (c.2.2 - ([0, 0, 0, 0] : List Nat).getD c.2.1 0) 999)
  | 64 => ((([[216], [], [], []] : List (List Nat)).getD c.2.1 []).getD (c.2.2 - ([0, 0, 0, 0] : List Nat).getD c.2.1 0) 999)
  | 65 => ((([[217], [], [], []] : List (List Nat)).getD c.2.1 []).getD (c.2.2 - ([0, 0, 0, 0] : List Nat).getD c.2.1 0) 999)
  | 66 => ((([[218], [], [], []] : List (List Nat)).getD c.2.1 []).getD (c.2.2 - ([0, 0, 0, 0] : List Nat).getD c.2.1 0) 999)
  | 67 => ((([[219], [], [], []] : List (List Nat)).getD c.2.1 []).getD (c.2.2 - ([0, 0, 0, 0] : List Nat).getD c.2.1 0) 999)
  | 68 => ((([[220], [], [], []] : List (List Nat)).getD c.2.1 []).getD (c.2.2 - ([0, 0, 0, 0] : List Nat).getD c.2.1 0) 999)
  | 69 => ((([[221], [], [], []] : List (List Nat)).getD c.2.1 []).getD (c.2.2 - ([0, 0, 0, 0] : List Nat).getD c.2.1 0) 999)
  | _ => 999
theorem psn_inj : ∀ c ∈ EE, ∀ c2 ∈ EE, psn c = psn c2 → c = c2 := by
  have h : EE.map psn = ((CC ++ DD).map psn) := rfl
  have hn : (EE.map psn).Nodup := by decide +kernel
  intro c h1 c2 h2 e
  obtain ⟨i, hi⟩ := List.mem_iff_getElem?.mp h1
  obtain ⟨j, hj⟩ := List.mem_iff_getElem?.mp h2
  have li : i < (EE.map psn).length := by rw [List.length_map]; exact (List.getElem?_eq_some_iff.mp hi).1
  have e1 : (EE.map psn)[i]? = some (psn c) := by rw [List.getElem?_map, hi]; rfl
  have e2 : (EE.map psn)[j]? = some (psn c2) := by rw [List.getElem?_map, hj]; rfl
  have e3 : i = j := (List.getElem?_inj li hn).mp (e1.trans (by rw [e, e2]))
  rw [e3, hj] at hi
  exact (Option.some.inj hi).symm
theorem at_refs {G : va_G} {cl : List vw_C} {a ci n : Nat} {g g' : Nat → Option Nat} {H : Heap} (h : va_at G cl (a, .inl (ci, n, .inr (.inr (.inr (.inr g))))) H) (hg : ∀ j, j < n → g j = g' j) : va_at G cl (a, .inl (ci, n, .inr (.inr (.inr (.inr g'))))) H := by
  have e : vp_cell ci (n, .inr (.inr (.inr (.inr g)))) = vp_cell ci (n, .inr (.inr (.inr (.inr g')))) := by
    show arrV ci n (fun j => va_rf (g j)) = arrV ci n (fun j => va_rf (g' j))
    unfold arrV
    congr 2
    funext j
    show va_rf (g j.val) = va_rf (g' j.val)
    rw [hg j.val j.isLt]
  show H[a]? = some (vp_cell ci (n, .inr (.inr (.inr (.inr g')))))
  rw [← e]; exact h
theorem WO_of {ws : va_W} {G : va_G} {cy : Nat → ClassId} {ad : rf → Nat} {M : mM} {A : Nat → Prop} {H : Heap} (hP : va_P G classes ws H) (hD : va_D A ws) (hc : ∀ c ∈ EE, ∃ e : va_E, ws[psn c]? = some (ad c, e) ∧ (va_at G classes (ad c, e) H → va_at G classes (ad c, ent cy ad M c) H)) : WO EE G cy ad A M H := by
  have key : ∀ (k : Nat) (q : Nat × va_E), (WS EE cy ad M)[k]? = some q → ∃ c, EE[k]? = some c ∧ c ∈ EE ∧ q = (ad c, ent cy ad M c) := fun k q hk => by
    unfold WS at hk
    rw [List.getElem?_map] at hk
    cases h : EE[k]? with
    | none => rw [h] at hk; cases hk
    | some c =>
      rw [h] at hk
      exact ⟨c, rfl, List.mem_of_getElem? h, (Option.some.inj hk).symm⟩
  refine ⟨fun k q hk => ?_, fun i j p q hp hq e => ?_, fun k q hk => ?_⟩
  · obtain ⟨c, -, h1, rfl⟩ := key k q hk
    obtain ⟨e, h2, h3⟩ := hc c h1
    exact h3 (hP _ _ h2)
  · obtain ⟨c, k1, h1, rfl⟩ := key i p hp
    obtain ⟨c2, k2, h2, rfl⟩ := key j q hq
    obtain ⟨e1, h3, -⟩ := hc c h1
    obtain ⟨e2, h4, -⟩ := hc c2 h2
    have h5 := psn_inj c h1 c2 h2 (hD.1 _ _ _ _ h3 h4 e)
    rw [h5] at k1
    exact (List.getElem?_inj (List.getElem?_eq_some_iff.mp k1).1 EE_nd).mp (k1.trans k2.symm)
  · obtain ⟨c, -, h1, rfl⟩ := key k q hk
    obtain ⟨e, h2, -⟩ := hc c h1
    have h3 := hD.2 _ _ h2
    exact h3
def Mz0 (fo0 fo1 fo2 fl0 fl1 fl2 : Nat → Int32) : mM := (fun c k => match c.1 with
  | 2 => ([5, 9, 0] : List Int32).getD k 0
  | 4 => if k = 4 then -1 else 0
  | 9 => ([0, 0, 0, 5, 60, 0, 0, 0, 0] : List Int32).getD k 0
  | 35 => (match c.2.1 with | 0 => fo0 k | 1 => fo1 k | _ => fo2 k)
  | 26 => (match c.2.1 with | 0 => fl0 k | 1 => fl1 k | _ => fl2 k)
  | 12 => if k = 7 then -1 else 0
  | 50 => nw0 k
  | 54 => ea0 k
  | 55 => so0 k
  | _ => 0, fun _ => 0)
