section
/-! the world that the two constructors leave, as class and model are held-/
def psn (c : rf) : Nat := match c.1 with
  | 0 => ((([[191], [], [], []] : List (List Nat)).getD c.2.1 []).getD (c.2.2 - ([0, 0, 0, 0] : List Nat).getD c.2.1 0) 999)
  | 1 => ((([[23, 26, 29], [81, 84, 87], [139, 142, 145], [186]] : List (List Nat)).getD c.2.1 []).getD (c.2.2 - ([0, 0, 0, 0] : List Nat).getD c.2.1 0) 999)
  | 2 => ((([[18], [76], [134], []] : List (List Nat)).getD c.2.1 []).getD (c.2.2 - ([0, 0, 0, 0] : List Nat).getD c.2.1 0) 999)
  | 3 => ((([[32], [90], [148], []] : List (List Nat)).getD c.2.1 []).getD (c.2.2 - ([0, 0, 0, 0] : List Nat).getD c.2.1 0) 999)
  | 4 => ((([[185], [], [], []] : List (List Nat)).getD c.2.1 []).getD (c.2.2 - ([0, 0, 0, 0] : List Nat).getD c.2.1 0) 999)
  | 5 => ((([[40, 42, 36, 38], [98, 100, 94, 96], [156, 158, 152, 154], [197, 199, 189]] : List (List Nat)).getD c.2.1 []).getD (c.2.2 - ([0, 0, 0, 4] : List Nat).getD c.2.1 0) 999)
  | 6 => ((([[6, 4, 2, 0], [], [], []] : List (List Nat)).getD c.2.1 []).getD (c.2.2 - ([0, 0, 0, 0] : List Nat).getD c.2.1 0) 999)
  | 7 => ((([[12], [70], [128], []] : List (List Nat)).getD c.2.1 []).getD (c.2.2 - ([0, 0, 0, 0] : List Nat).getD c.2.1 0) 999)
  | 8 => ((([[196], [], [], []] : List (List Nat)).getD c.2.1 []).getD (c.2.2 - ([0, 0, 0, 0] : List Nat).getD c.2.1 0) 999)
  | 9 => ((([[45, 48, 51, 54, 57, 60, 63, 66], [103, 106, 109, 112, 115, 118, 121, 124], [161, 164, 167, 170, 173, 176, 179, 182], []] : List (List Nat)).getD c.2.1 []).getD (c.2.2 - ([0, 0, 0, 0] : List Nat).getD c.2.1 0) 999)
  | 10 => ((([[11], [69], [127], []] : List (List Nat)).getD c.2.1 []).getD (c.2.2 - ([0, 0, 0, 0] : List Nat).getD c.2.1 0) 999)
  | 11 => ((([[10], [], [], []] : List (List Nat)).getD c.2.1 []).getD (c.2.2 - ([0, 0, 0, 0] : List Nat).getD c.2.1 0) 999)
  | 20 => ((([[192], [], [], []] : List (List Nat)).getD c.2.1 []).getD (c.2.2 - ([0, 0, 0, 0] : List Nat).getD c.2.1 0) 999)
  | 21 => ((([[193], [], [], []] : List (List Nat)).getD c.2.1 []).getD (c.2.2 - ([0, 0, 0, 0] : List Nat).getD c.2.1 0) 999)
  | 22 => ((([[194], [], [], []] : List (List Nat)).getD c.2.1 []).getD (c.2.2 - ([0, 0, 0, 0] : List Nat).getD c.2.1 0) 999)
  | 23 => ((([[195], [], [], []] : List (List Nat)).getD c.2.1 []).getD (c.2.2 - ([0, 0, 0, 0] : List Nat).getD c.2.1 0) 999)
  | 24 => ((([[24, 27, 30], [82, 85, 88], [140, 143, 146], [187]] : List (List Nat)).getD c.2.1 []).getD (c.2.2 - ([0, 0, 0, 0] : List Nat).getD c.2.1 0) 999)
  | 25 => ((([[25, 28, 31], [83, 86, 89], [141, 144, 147], [188]] : List (List Nat)).getD c.2.1 []).getD (c.2.2 - ([0, 0, 0, 0] : List Nat).getD c.2.1 0) 999)
  | 26 => ((([[19], [77], [135], []] : List (List Nat)).getD c.2.1 []).getD (c.2.2 - ([0, 0, 0, 0] : List Nat).getD c.2.1 0) 999)
  | 27 => ((([[20], [78], [136], []] : List (List Nat)).getD c.2.1 []).getD (c.2.2 - ([0, 0, 0, 0] : List Nat).getD c.2.1 0) 999)
  | 28 => ((([[21], [79], [137], []] : List (List Nat)).getD c.2.1 []).getD (c.2.2 - ([0, 0, 0, 0] : List Nat).getD c.2.1 0) 999)
  | 29 => ((([[22], [80], [138], []] : List (List Nat)).getD c.2.1 []).getD (c.2.2 - ([0, 0, 0, 0] : List Nat).getD c.2.1 0) 999)
  | 30 => ((([[33], [91], [149], []] : List (List Nat)).getD c.2.1 []).getD (c.2.2 - ([0, 0, 0, 0] : List Nat).getD c.2.1 0) 999)
  | 31 => ((([[34], [92], [150], []] : List (List Nat)).getD c.2.1 []).getD (c.2.2 - ([0, 0, 0, 0] : List Nat).getD c.2.1 0) 999)
  | 32 => ((([[35], [93], [151], []] : List (List Nat)).getD c.2.1 []).getD (c.2.2 - ([0, 0, 0, 0] : List Nat).getD c.2.1 0) 999)
  | 33 => ((([[41, 43, 37, 39], [99, 101, 95, 97], [157, 159, 153, 155], [198, 200, 190]] : List (List Nat)).getD c.2.1 []).getD (c.2.2 - ([0, 0, 0, 4] : List Nat).getD c.2.1 0) 999)
  | 34 => ((([[7, 5, 3, 1], [], [], []] : List (List Nat)).getD c.2.1 []).getD (c.2.2 - ([0, 0, 0, 0] : List Nat).getD c.2.1 0) 999)
  | 35 => ((([[13], [71], [129], []] : List (List Nat)).getD c.2.1 []).getD (c.2.2 - ([0, 0, 0, 0] : List Nat).getD c.2.1 0) 999)
  | 36 => ((([[14], [72], [130], []] : List (List Nat)).getD c.2.1 []).getD (c.2.2 - ([0, 0, 0, 0] : List Nat).getD c.2.1 0) 999)
  | 37 => ((([[15], [73], [131], []] : List (List Nat)).getD c.2.1 []).getD (c.2.2 - ([0, 0, 0, 0] : List Nat).getD c.2.1 0) 999)
  | 38 => ((([[16], [74], [132], []] : List (List Nat)).getD c.2.1 []).getD (c.2.2 - ([0, 0, 0, 0] : List Nat).getD c.2.1 0) 999)
  | 39 => ((([[17], [75], [133], []] : List (List Nat)).getD c.2.1 []).getD (c.2.2 - ([0, 0, 0, 0] : List Nat).getD c.2.1 0) 999)
  | 40 => ((([[46, 49, 52, 55, 58, 61, 64, 67], [104, 107, 110, 113, 116, 119, 122, 125], [162, 165, 168, 171, 174, 177, 180, 183], []] : List (List Nat)).getD c.2.1 []).getD (c.2.2 - ([0, 0, 0, 0] : List Nat).getD c.2.1 0) 999)
  | 41 => ((([[47, 50, 53, 56, 59, 62, 65, 68], [105, 108, 111, 114, 117, 120, 123, 126], [163, 166, 169, 172, 175, 178, 181, 184], []] : List (List Nat)).getD c.2.1 []).getD (c.2.2 - ([0, 0, 0, 0] : List Nat).getD c.2.1 0) 999)
  | 42 => ((([[44], [102], [160], []] : List (List Nat)).getD c.2.1 []).getD (c.2.2 - ([0, 0, 0, 0] : List Nat).getD c.2.1 0) 999)
  | 43 => ((([[9], [], [], []] : List (List Nat)).getD c.2.1 []).getD (c.2.2 - ([0, 0, 0, 0] : List Nat).getD c.2.1 0) 999)
  | 44 => ((([[8], [], [], []] : List (List Nat)).getD c.2.1 []).getD (c.2.2 - ([0, 0, 0, 0] : List Nat).getD c.2.1 0) 999)
  | 12 => ((([[201], [], [], []] : List (List Nat)).getD c.2.1 []).getD (c.2.2 - ([0, 0, 0, 0] : List Nat).getD c.2.1 0) 999)
  | 50 => ((([[202], [], [], []] : List (List Nat)).getD c.2.1 []).getD (c.2.2 - ([0, 0, 0, 0] : List Nat).getD c.2.1 0) 999)
  | 51 => ((([[203], [], [], []] : List (List Nat)).getD c.2.1 []).getD (c.2.2 - ([0, 0, 0, 0] : List Nat).getD c.2.1 0) 999)
  | 52 => ((([[204], [], [], []] : List (List Nat)).getD c.2.1 []).getD (c.2.2 - ([0, 0, 0, 0] : List Nat).getD c.2.1 0) 999)
  | 53 => ((([[205], [], [], []] : List (List Nat)).getD c.2.1 []).getD (c.2.2 - ([0, 0, 0, 0] : List Nat).getD c.2.1 0) 999)
  | 54 => ((([[206], [], [], []] : List (List Nat)).getD c.2.1 []).getD (c.2.2 - ([0, 0, 0, 0] : List Nat).getD c.2.1 0) 999)
  | 55 => ((([[207], [], [], []] : List (List Nat)).getD c.2.1 []).getD (c.2.2 - ([0, 0, 0, 0] : List Nat).getD c.2.1 0) 999)
  | 56 => ((([[208], [], [], []] : List (List Nat)).getD c.2.1 []).getD (c.2.2 - ([0, 0, 0, 0] : List Nat).getD c.2.1 0) 999)
  | 57 => ((([[209], [], [], []] : List (List Nat)).getD c.2.1 []).getD (c.2.2 - ([0, 0, 0, 0] : List Nat).getD c.2.1 0) 999)
  | 58 => ((([[210], [], [], []] : List (List Nat)).getD c.2.1 []).getD (c.2.2 - ([0, 0, 0, 0] : List Nat).getD c.2.1 0) 999)
  | 59 => ((([[211], [], [], []] : List (List Nat)).getD c.2.1 []).getD (c.2.2 - ([0, 0, 0, 0] : List Nat).getD c.2.1 0) 999)
  | 60 => ((([[212], [], [], []] : List (List Nat)).getD c.2.1 []).getD (c.2.2 - ([0, 0, 0, 0] : List Nat).getD c.2.1 0) 999)
  | 61 => ((([[213], [], [], []] : List (List Nat)).getD c.2.1 []).getD (c.2.2 - ([0, 0, 0, 0] : List Nat).getD c.2.1 0) 999)
  | 62 => ((([[214], [], [], []] : List (List Nat)).getD c.2.1 []).getD (c.2.2 - ([0, 0, 0, 0] : List Nat).getD c.2.1 0) 999)
  | 63 => ((([[215], [], [], []] : List (List Nat)).getD c.2.1 []).getD (c.2.2 - ([0, 0, 0, 0] : List Nat).getD c.2.1 0) 999)
  | 64 => ((([[216], [], [], []] : List (List Nat)).getD c.2.1 []).getD (c.2.2 - ([0, 0, 0, 0] : List Nat).getD c.2.1 0) 999)
  | 65 => ((([[217], [], [], []] : List (List Nat)).getD c.2.1 []).getD (c.2.2 - ([0, 0, 0, 0] : List Nat).getD c.2.1 0) 999)
  | 66 => ((([[218], [], [], []] : List (List Nat)).getD c.2.1 []).getD (c.2.2 - ([0, 0, 0, 0] : List Nat).getD c.2.1 0) 999)
  | 67 => ((([[219], [], [], []] : List (List Nat)).getD c.2.1 []).getD (c.2.2 - ([0, 0, 0, 0] : List Nat).getD c.2.1 0) 999)
  | 68 => ((([[220], [], [], []] : List (List Nat)).getD c.2.1 []).getD (c.2.2 - ([0, 0, 0, 0] : List Nat).getD c.2.1 0) 999)
  | 69 => ((([[221], [], [], []] : List (List Nat)).getD c.2.1 []).getD (c.2.2 - ([0, 0, 0, 0] : List Nat).getD c.2.1 0) 999)
  | _ => 999
theorem psn_inj : ∀ c ∈ EE, ∀ c2 ∈ EE, psn c = psn c2 → c = c2 := by
  have h : EE.map psn = ((CC ++ DD).map psn) := rfl
  have hn : (EE.map psn).Nodup := by decide +kernel
  intro c h1 c2 h2 e
  obtain ⟨i, hi⟩ := List.mem_iff_getElem?.mp h1
  obtain ⟨j, hj⟩ := List.mem_iff_getElem?.mp h2
  have li : i < (EE.map psn).length := by rw [List.length_map]; exact (List.getElem?_eq_some_iff.mp hi).1
  have e1 : (EE.map psn)[i]? = some (psn c) := by rw [List.getElem?_map, hi]; rfl
  have e2 : (EE.map psn)[j]? = some (psn c2) := by rw [List.getElem?_map, hj]; rfl
  have e3 : i = j := (List.getElem?_inj li hn).mp (e1.trans (by rw [e, e2]))
  rw [e3, hj] at hi
  exact (Option.some.inj hi).symm
theorem at_refs {G : va_G} {cl : List vw_C} {a ci n : Nat} {g g' : Nat → Option Nat} {H : Heap} (h : va_at G cl (a, .inl (ci, n, .inr (.inr (.inr (.inr g))))) H) (hg : ∀ j, j < n → g j = g' j) : va_at G cl (a, .inl (ci, n, .inr (.inr (.inr (.inr g'))))) H := by
  have e : vp_cell ci (n, .inr (.inr (.inr (.inr g)))) = vp_cell ci (n, .inr (.inr (.inr (.inr g')))) := by
    show arrV ci n (fun j => va_rf (g j)) = arrV ci n (fun j => va_rf (g' j))
    unfold arrV
    congr 2
    funext j
    show va_rf (g j.val) = va_rf (g' j.val)
    rw [hg j.val j.isLt]
  show H[a]? = some (vp_cell ci (n, .inr (.inr (.inr (.inr g')))))
  rw [← e]; exact h
theorem WO_of {ws : va_W} {G : va_G} {cy : Nat → ClassId} {ad : rf → Nat} {M : mM} {A : Nat → Prop} {H : Heap} (hP : va_P G classes ws H) (hD : va_D A ws) (hc : ∀ c ∈ EE, ∃ e : va_E, ws[psn c]? = some (ad c, e) ∧ (va_at G classes (ad c, e) H → va_at G classes (ad c, ent cy ad M c) H)) : WO EE G cy ad A M H := by
  have key : ∀ (k : Nat) (q : Nat × va_E), (WS EE cy ad M)[k]? = some q → ∃ c, EE[k]? = some c ∧ c ∈ EE ∧ q = (ad c, ent cy ad M c) := fun k q hk => by
    unfold WS at hk
    rw [List.getElem?_map] at hk
    cases h : EE[k]? with
    | none => rw [h] at hk; cases hk
    | some c =>
      rw [h] at hk
      exact ⟨c, rfl, List.mem_of_getElem? h, (Option.some.inj hk).symm⟩
  refine ⟨fun k q hk => ?_, fun i j p q hp hq e => ?_, fun k q hk => ?_⟩
  · obtain ⟨c, -, h1, rfl⟩ := key k q hk
    obtain ⟨e, h2, h3⟩ := hc c h1
    exact h3 (hP _ _ h2)
  · obtain ⟨c, k1, h1, rfl⟩ := key i p hp
    obtain ⟨c2, k2, h2, rfl⟩ := key j q hq
    obtain ⟨e1, h3, -⟩ := hc c h1
    obtain ⟨e2, h4, -⟩ := hc c2 h2
    have h5 := psn_inj c h1 c2 h2 (hD.1 _ _ _ _ h3 h4 e)
    rw [h5] at k1
    exact (List.getElem?_inj (List.getElem?_eq_some_iff.mp k1).1 EE_nd).mp (k1.trans k2.symm)
  · obtain ⟨c, -, h1, rfl⟩ := key k q hk
    obtain ⟨e, h2, -⟩ := hc c h1
    have h3 := hD.2 _ _ h2
    exact h3
def Mz0 (fo0 fo1 fo2 fl0 fl1 fl2 : Nat → Int32) : mM := (fun c k => match c.1 with
  | 2 => ([5, 9, 0] : List Int32).getD k 0
  | 4 => if k = 4 then -1 else 0
  | 9 => ([0, 0, 0, 5, 60, 0, 0, 0, 0] : List Int32).getD k 0
  | 35 => (match c.2.1 with | 0 => fo0 k | 1 => fo1 k | _ => fo2 k)
  | 26 => (match c.2.1 with | 0 => fl0 k | 1 => fl1 k | _ => fl2 k)
  | 12 => if k = 7 then -1 else 0
  | 50 => nw0 k
  | 54 => ea0 k
  | 55 => so0 k
  | _ => 0, fun _ => 0)
end
section
theorem EE_lit : EE = [(0, 0, 0), (1, 0, 0), (1, 0, 1), (1, 0, 2), (1, 1, 0), (1, 1, 1), (1, 1, 2), (1, 2, 0), (1, 2, 1), (1, 2, 2), (1, 3, 0), (2, 0, 0), (2, 1, 0), (2, 2, 0), (3, 0, 0), (3, 1, 0), (3, 2, 0), (4, 0, 0), (5, 0, 0), (5, 0, 1), (5, 0, 2), (5, 0, 3), (5, 1, 0), (5, 1, 1), (5, 1, 2), (5, 1, 3), (5, 2, 0), (5, 2, 1), (5, 2, 2), (5, 2, 3), (5, 3, 4), (5, 3, 5), (5, 3, 6), (6, 0, 0), (6, 0, 1), (6, 0, 2), (6, 0, 3), (7, 0, 0), (7, 1, 0), (7, 2, 0), (8, 0, 0), (9, 0, 0), (9, 0, 1), (9, 0, 2), (9, 0, 3), (9, 0, 4), (9, 0, 5), (9, 0, 6), (9, 0, 7), (9, 1, 0), (9, 1, 1), (9, 1, 2), (9, 1, 3), (9, 1, 4), (9, 1, 5), (9, 1, 6), (9, 1, 7), (9, 2, 0), (9, 2, 1), (9, 2, 2), (9, 2, 3), (9, 2, 4), (9, 2, 5), (9, 2, 6), (9, 2, 7), (10, 0, 0), (10, 1, 0), (10, 2, 0), (11, 0, 0), (20, 0, 0), (21, 0, 0), (22, 0, 0), (23, 0, 0), (24, 0, 0), (24, 0, 1), (24, 0, 2), (24, 1, 0), (24, 1, 1), (24, 1, 2), (24, 2, 0), (24, 2, 1), (24, 2, 2), (24, 3, 0), (25, 0, 0), (25, 0, 1), (25, 0, 2), (25, 1, 0), (25, 1, 1), (25, 1, 2), (25, 2, 0), (25, 2, 1), (25, 2, 2), (25, 3, 0), (26, 0, 0), (26, 1, 0), (26, 2, 0), (27, 0, 0), (27, 1, 0), (27, 2, 0), (28, 0, 0), (28, 1, 0), (28, 2, 0), (29, 0, 0), (29, 1, 0), (29, 2, 0), (30, 0, 0), (30, 1, 0), (30, 2, 0), (31, 0, 0), (31, 1, 0), (31, 2, 0), (32, 0, 0), (32, 1, 0), (32, 2, 0), (33, 0, 0), (33, 0, 1), (33, 0, 2), (33, 0, 3), (33, 1, 0), (33, 1, 1), (33, 1, 2), (33, 1, 3), (33, 2, 0), (33, 2, 1), (33, 2, 2), (33, 2, 3), (33, 3, 4), (33, 3, 5), (33, 3, 6), (34, 0, 0), (34, 0, 1), (34, 0, 2), (34, 0, 3), (35, 0, 0), (35, 1, 0), (35, 2, 0), (36, 0, 0), (36, 1, 0), (36, 2, 0), (37, 0, 0), (37, 1, 0), (37, 2, 0), (38, 0, 0), (38, 1, 0), (38, 2, 0), (39, 0, 0), (39, 1, 0), (39, 2, 0), (40, 0, 0), (40, 0, 1), (40, 0, 2), (40, 0, 3), (40, 0, 4), (40, 0, 5), (40, 0, 6), (40, 0, 7), (40, 1, 0), (40, 1, 1), (40, 1, 2), (40, 1, 3), (40, 1, 4), (40, 1, 5), (40, 1, 6), (40, 1, 7), (40, 2, 0), (40, 2, 1), (40, 2, 2), (40, 2, 3), (40, 2, 4), (40, 2, 5), (40, 2, 6), (40, 2, 7), (41, 0, 0), (41, 0, 1), (41, 0, 2), (41, 0, 3), (41, 0, 4), (41, 0, 5), (41, 0, 6), (41, 0, 7), (41, 1, 0), (41, 1, 1), (41, 1, 2), (41, 1, 3), (41, 1, 4), (41, 1, 5), (41, 1, 6), (41, 1, 7), (41, 2, 0), (41, 2, 1), (41, 2, 2), (41, 2, 3), (41, 2, 4), (41, 2, 5), (41, 2, 6), (41, 2, 7), (42, 0, 0), (42, 1, 0), (42, 2, 0), (43, 0, 0), (44, 0, 0), (12, 0, 0), (50, 0, 0), (51, 0, 0), (52, 0, 0), (53, 0, 0), (54, 0, 0), (55, 0, 0), (56, 0, 0), (57, 0, 0), (58, 0, 0), (59, 0, 0), (60, 0, 0), (61, 0, 0), (62, 0, 0), (63, 0, 0), (64, 0, 0), (65, 0, 0), (66, 0, 0), (67, 0, 0), (68, 0, 0), (69, 0, 0)] := by decide +kernel
set_option maxHeartbeats 16000000 in
set_option maxRecDepth 400000 in
theorem start_WO {G : va_G} {cy : Nat → ClassId} {sk sa : Nat → Nat} {A : Nat → Prop} {H : Heap} {b : Nat} {x0 : Nat} {lv : Nat} {klv : Nat} {zlv : Nat} {sh : Nat} {er : Nat} {re : Nat} {fi : Nat} {vo : Nat} {st : Nat} {oc : Nat} {ki : Nat} {ce : Nat} {si : Nat} {sp : Nat} {la : Nat} {ld : Nat} {sr : Nat} {tx : Nat} {vl : Nat} {f0 : Nat} {c0 : Nat} {k0 : Nat} {f1 : Nat} {c1 : Nat} {k1 : Nat} {f2 : Nat} {c2 : Nat} {k2 : Nat} {le : Nat} {te : Nat} {ne : Nat} {mi : Nat} {tr : Nat} {be : Nat} {rta7 : Nat} {rba7 : Nat} {ta : Nat} {rta : Nat} {wa : Nat} {rwa : Nat} {wk : Nat} {w0 : Nat} {wy0 : Nat} {wn0 : Nat} {w1 : Nat} {wy1 : Nat} {wn1 : Nat} {w2 : Nat} {wy2 : Nat} {wn2 : Nat} {w3 : Nat} {wy3 : Nat} {wn3 : Nat} {w4 : Nat} {wy4 : Nat} {wn4 : Nat} {w5 : Nat} {wy5 : Nat} {wn5 : Nat} {w6 : Nat} {wy6 : Nat} {wn6 : Nat} {w7 : Nat} {wy7 : Nat} {wn7 : Nat} {foc : Nat → Int32} {fl : Nat → Int32} {gt : Nat → Option Nat} {gw : Nat → Option Nat} {kst : Nat} {koc : Nat} {kki : Nat} {kce : Nat} {ksi : Nat} {ksp : Nat} {kla : Nat} {kld : Nat} {ksr : Nat} {ktx : Nat} {kvl : Nat} {kf0 : Nat} {kc0 : Nat} {kk0 : Nat} {kf1 : Nat} {kc1 : Nat} {kk1 : Nat} {kf2 : Nat} {kc2 : Nat} {kk2 : Nat} {kle : Nat} {kte : Nat} {kne : Nat} {kmi : Nat} {ktr : Nat} {kbe : Nat} {krta7 : Nat} {krba7 : Nat} {kta : Nat} {krta : Nat} {kwa : Nat} {krwa : Nat} {kwk : Nat} {kw0 : Nat} {kwy0 : Nat} {kwn0 : Nat} {kw1 : Nat} {kwy1 : Nat} {kwn1 : Nat} {kw2 : Nat} {kwy2 : Nat} {kwn2 : Nat} {kw3 : Nat} {kwy3 : Nat} {kwn3 : Nat} {kw4 : Nat} {kwy4 : Nat} {kwn4 : Nat} {kw5 : Nat} {kwy5 : Nat} {kwn5 : Nat} {kw6 : Nat} {kwy6 : Nat} {kwn6 : Nat} {kw7 : Nat} {kwy7 : Nat} {kwn7 : Nat} {kfoc : Nat → Int32} {kfl : Nat → Int32} {kgt : Nat → Option Nat} {kgw : Nat → Option Nat} {zst : Nat} {zoc : Nat} {zki : Nat} {zce : Nat} {zsi : Nat} {zsp : Nat} {zla : Nat} {zld : Nat} {zsr : Nat} {ztx : Nat} {zvl : Nat} {zf0 : Nat} {zc0 : Nat} {zk0 : Nat} {zf1 : Nat} {zc1 : Nat} {zk1 : Nat} {zf2 : Nat} {zc2 : Nat} {zk2 : Nat} {zle : Nat} {zte : Nat} {zne : Nat} {zmi : Nat} {ztr : Nat} {zbe : Nat} {zrta7 : Nat} {zrba7 : Nat} {zta : Nat} {zrta : Nat} {zwa : Nat} {zrwa : Nat} {zwk : Nat} {zw0 : Nat} {zwy0 : Nat} {zwn0 : Nat} {zw1 : Nat} {zwy1 : Nat} {zwn1 : Nat} {zw2 : Nat} {zwy2 : Nat} {zwn2 : Nat} {zw3 : Nat} {zwy3 : Nat} {zwn3 : Nat} {zw4 : Nat} {zwy4 : Nat} {zwn4 : Nat} {zw5 : Nat} {zwy5 : Nat} {zwn5 : Nat} {zw6 : Nat} {zwy6 : Nat} {zwn6 : Nat} {zw7 : Nat} {zwy7 : Nat} {zwn7 : Nat} {zfoc : Nat → Int32} {zfl : Nat → Int32} {zgt : Nat → Option Nat} {zgw : Nat → Option Nat} {s0 : Nat} {u0 : Nat} {s1 : Nat} {u1 : Nat} {s2 : Nat} {u2 : Nat} {s3 : Nat} {u3 : Nat} {gs : Nat → Option Nat} {dr : Nat} {t0 : Nat} {co : Nat} {ck : Nat} {t0a : Nat} {nm : Nat} {fc : Nat} {fd_ : Nat} {fl_ : Nat} {fh : Nat} {bg : Nat} {bga : Nat} {vt : Nat} {vta : Nat} {m0 : Nat} {nw : Nat} {nk : Nat} {na : Nat} {fd : Nat} {ea : Nat} {so : Nat} {nd : Nat} {cd : Nat} {nmd : Nat} {pl : Nat} {tl : Nat} {fr_ : Nat} {rw_ : Nat} {brw : Nat} {po : Nat} {trc : Nat} {wi : Nat} {sz_ : Nat} {nu : Nat} {ca : Nat} {gn : Nat → Option Nat} (X0 : gt 0 = some f0) (X1 : gt 1 = some f1) (X2 : gt 2 = some f2) (X3 : gw 0 = some w0) (X4 : gw 1 = some w1) (X5 : gw 2 = some w2) (X6 : gw 3 = some w3) (X7 : gw 4 = some w4) (X8 : gw 5 = some w5) (X9 : gw 6 = some w6) (X10 : gw 7 = some w7) (X11 : ∀ j, j < 192 → foc j = (-1)) (X12 : ∀ j, j < 5 → fl j = 50) (X13 : kgt 0 = some kf0) (X14 : kgt 1 = some kf1) (X15 : kgt 2 = some kf2) (X16 : kgw 0 = some kw0) (X17 : kgw 1 = some kw1) (X18 : kgw 2 = some kw2) (X19 : kgw 3 = some kw3) (X20 : kgw 4 = some kw4) (X21 : kgw 5 = some kw5) (X22 : kgw 6 = some kw6) (X23 : kgw 7 = some kw7) (X24 : ∀ j, j < 192 → kfoc j = (-1)) (X25 : ∀ j, j < 5 → kfl j = 50) (X26 : zgt 0 = some zf0) (X27 : zgt 1 = some zf1) (X28 : zgt 2 = some zf2) (X29 : zgw 0 = some zw0) (X30 : zgw 1 = some zw1) (X31 : zgw 2 = some zw2) (X32 : zgw 3 = some zw3) (X33 : zgw 4 = some zw4) (X34 : zgw 5 = some zw5) (X35 : zgw 6 = some zw6) (X36 : zgw 7 = some zw7) (X37 : ∀ j, j < 192 → zfoc j = (-1)) (X38 : ∀ j, j < 5 → zfl j = 50) (X39 : gs 0 = some s0) (X40 : gs 1 = some s1) (X41 : gs 2 = some s2) (X42 : gs 3 = some s3) (X43 : nm = (sk 0)) (X44 : gn 0 = some (sk 4)) (X45 : gn 1 = some (sk 5)) (X46 : gn 2 = some (sk 6)) (hP : va_P G classes [(s3, .inr (6, [.int 0, .int 0, .ref u3])), (u3, .inl (cy 0, 24, .inl (fun _ => 0))), (s2, .inr (6, [.int 0, .int 0, .ref u2])), (u2, .inl (cy 0, 24, .inl (fun _ => 0))), (s1, .inr (6, [.int 0, .int 0, .ref u1])), (u1, .inl (cy 0, 24, .inl (fun _ => 0))), (s0, .inr (6, [.int 0, .int 0, .ref u0])), (u0, .inl (cy 0, 24, .inl (fun _ => 0))), (er, .inl (cy 0, 7, .inl (fun _ => 0))), (sh, .inl (cy 5, 4, .inr (.inr (.inr (.inr gs))))), (x0, .inr (11, [.ref lv, .ref klv, .ref zlv, .ref sh, .ref er, .ref re, .ref fi, .ref vo, .int 0])), (lv, .inr (10, [.ref st, .ref la, .ref le, .ref ta, .ref wa, .ref wk, .int 0, .int 0])), (st, .inr (7, [.ref oc, .ref ki, .ref ce, .ref si, .ref sp, .int 0])), (oc, .inl (cy 0, 192, .inl foc)), (ki, .inl (cy 0, 40, .inl (fun _ => 0))), (ce, .inl (cy 0, 40, .inl (fun _ => 0))), (si, .inl (cy 0, 40, .inl (fun _ => 0))), (sp, .inl (cy 0, 40, .inl (fun _ => 0))), (la, .inr (2, [.int 5, .int 9, .int 0, .ref ld, .ref sr, .ref tx, .ref vl])), (ld, .inl (cy 0, 5, .inl fl)), (sr, .inl (cy 0, 5, .inl (fun _ => 0))), (tx, .inl (cy 3, 3, .inr (.inr (.inr (.inr gt))))), (vl, .inl (cy 0, 5, .inl (fun _ => 0))), (f0, .inr (1, [.ref c0, .ref k0, .int 0])), (c0, .inl (cy 0, 48, .inl (fun _ => 0))), (k0, .inl (cy 0, 48, .inl (fun _ => 0))), (f1, .inr (1, [.ref c1, .ref k1, .int 0])), (c1, .inl (cy 0, 48, .inl (fun _ => 0))), (k1, .inl (cy 0, 48, .inl (fun _ => 0))), (f2, .inr (1, [.ref c2, .ref k2, .int 0])), (c2, .inl (cy 0, 48, .inl (fun _ => 0))), (k2, .inl (cy 0, 48, .inl (fun _ => 0))), (le, .inr (3, [.ref te, .ref ne, .ref mi, .int 0, .ref tr, .ref be, .int 0, .int 0, .int 0])), (te, .inl (cy 0, 7, .inl (fun _ => 0))), (ne, .inl (cy 0, 7, .inl (fun _ => 0))), (mi, .inl (cy 0, 7, .inl (fun _ => 0))), (tr, .inr (5, [.ref rta7, .int 0])), (rta7, .inl (cy 0, 7, .inl (fun _ => 0))), (be, .inr (5, [.ref rba7, .int 0])), (rba7, .inl (cy 0, 7, .inl (fun _ => 0))), (ta, .inr (5, [.ref rta, .int 0])), (rta, .inl (cy 0, 48, .inl (fun _ => 0))), (wa, .inr (5, [.ref rwa, .int 0])), (rwa, .inl (cy 0, 24, .inl (fun _ => 0))), (wk, .inl (cy 4, 8, .inr (.inr (.inr (.inr gw))))), (w0, .inr (9, [.int 0, .int 0, .int 0, .int 5, .int 60, .int 0, .int 0, .int 0, .int 0, .ref wy0, .ref wn0])), (wy0, .inl (cy 0, 192, .inl (fun _ => 0))), (wn0, .inl (cy 0, 192, .inl (fun _ => 0))), (w1, .inr (9, [.int 0, .int 0, .int 0, .int 5, .int 60, .int 0, .int 0, .int 0, .int 0, .ref wy1, .ref wn1])), (wy1, .inl (cy 0, 192, .inl (fun _ => 0))), (wn1, .inl (cy 0, 192, .inl (fun _ => 0))), (w2, .inr (9, [.int 0, .int 0, .int 0, .int 5, .int 60, .int 0, .int 0, .int 0, .int 0, .ref wy2, .ref wn2])), (wy2, .inl (cy 0, 192, .inl (fun _ => 0))), (wn2, .inl (cy 0, 192, .inl (fun _ => 0))), (w3, .inr (9, [.int 0, .int 0, .int 0, .int 5, .int 60, .int 0, .int 0, .int 0, .int 0, .ref wy3, .ref wn3])), (wy3, .inl (cy 0, 192, .inl (fun _ => 0))), (wn3, .inl (cy 0, 192, .inl (fun _ => 0))), (w4, .inr (9, [.int 0, .int 0, .int 0, .int 5, .int 60, .int 0, .int 0, .int 0, .int 0, .ref wy4, .ref wn4])), (wy4, .inl (cy 0, 192, .inl (fun _ => 0))), (wn4, .inl (cy 0, 192, .inl (fun _ => 0))), (w5, .inr (9, [.int 0, .int 0, .int 0, .int 5, .int 60, .int 0, .int 0, .int 0, .int 0, .ref wy5, .ref wn5])), (wy5, .inl (cy 0, 192, .inl (fun _ => 0))), (wn5, .inl (cy 0, 192, .inl (fun _ => 0))), (w6, .inr (9, [.int 0, .int 0, .int 0, .int 5, .int 60, .int 0, .int 0, .int 0, .int 0, .ref wy6, .ref wn6])), (wy6, .inl (cy 0, 192, .inl (fun _ => 0))), (wn6, .inl (cy 0, 192, .inl (fun _ => 0))), (w7, .inr (9, [.int 0, .int 0, .int 0, .int 5, .int 60, .int 0, .int 0, .int 0, .int 0, .ref wy7, .ref wn7])), (wy7, .inl (cy 0, 192, .inl (fun _ => 0))), (wn7, .inl (cy 0, 192, .inl (fun _ => 0))), (klv, .inr (10, [.ref kst, .ref kla, .ref kle, .ref kta, .ref kwa, .ref kwk, .int 0, .int 0])), (kst, .inr (7, [.ref koc, .ref kki, .ref kce, .ref ksi, .ref ksp, .int 0])), (koc, .inl (cy 0, 192, .inl kfoc)), (kki, .inl (cy 0, 40, .inl (fun _ => 0))), (kce, .inl (cy 0, 40, .inl (fun _ => 0))), (ksi, .inl (cy 0, 40, .inl (fun _ => 0))), (ksp, .inl (cy 0, 40, .inl (fun _ => 0))), (kla, .inr (2, [.int 5, .int 9, .int 0, .ref kld, .ref ksr, .ref ktx, .ref kvl])), (kld, .inl (cy 0, 5, .inl kfl)), (ksr, .inl (cy 0, 5, .inl (fun _ => 0))), (ktx, .inl (cy 3, 3, .inr (.inr (.inr (.inr kgt))))), (kvl, .inl (cy 0, 5, .inl (fun _ => 0))), (kf0, .inr (1, [.ref kc0, .ref kk0, .int 0])), (kc0, .inl (cy 0, 48, .inl (fun _ => 0))), (kk0, .inl (cy 0, 48, .inl (fun _ => 0))), (kf1, .inr (1, [.ref kc1, .ref kk1, .int 0])), (kc1, .inl (cy 0, 48, .inl (fun _ => 0))), (kk1, .inl (cy 0, 48, .inl (fun _ => 0))), (kf2, .inr (1, [.ref kc2, .ref kk2, .int 0])), (kc2, .inl (cy 0, 48, .inl (fun _ => 0))), (kk2, .inl (cy 0, 48, .inl (fun _ => 0))), (kle, .inr (3, [.ref kte, .ref kne, .ref kmi, .int 0, .ref ktr, .ref kbe, .int 0, .int 0, .int 0])), (kte, .inl (cy 0, 7, .inl (fun _ => 0))), (kne, .inl (cy 0, 7, .inl (fun _ => 0))), (kmi, .inl (cy 0, 7, .inl (fun _ => 0))), (ktr, .inr (5, [.ref krta7, .int 0])), (krta7, .inl (cy 0, 7, .inl (fun _ => 0))), (kbe, .inr (5, [.ref krba7, .int 0])), (krba7, .inl (cy 0, 7, .inl (fun _ => 0))), (kta, .inr (5, [.ref krta, .int 0])), (krta, .inl (cy 0, 48, .inl (fun _ => 0))), (kwa, .inr (5, [.ref krwa, .int 0])), (krwa, .inl (cy 0, 24, .inl (fun _ => 0))), (kwk, .inl (cy 4, 8, .inr (.inr (.inr (.inr kgw))))), (kw0, .inr (9, [.int 0, .int 0, .int 0, .int 5, .int 60, .int 0, .int 0, .int 0, .int 0, .ref kwy0, .ref kwn0])), (kwy0, .inl (cy 0, 192, .inl (fun _ => 0))), (kwn0, .inl (cy 0, 192, .inl (fun _ => 0))), (kw1, .inr (9, [.int 0, .int 0, .int 0, .int 5, .int 60, .int 0, .int 0, .int 0, .int 0, .ref kwy1, .ref kwn1])), (kwy1, .inl (cy 0, 192, .inl (fun _ => 0))), (kwn1, .inl (cy 0, 192, .inl (fun _ => 0))), (kw2, .inr (9, [.int 0, .int 0, .int 0, .int 5, .int 60, .int 0, .int 0, .int 0, .int 0, .ref kwy2, .ref kwn2])), (kwy2, .inl (cy 0, 192, .inl (fun _ => 0))), (kwn2, .inl (cy 0, 192, .inl (fun _ => 0))), (kw3, .inr (9, [.int 0, .int 0, .int 0, .int 5, .int 60, .int 0, .int 0, .int 0, .int 0, .ref kwy3, .ref kwn3])), (kwy3, .inl (cy 0, 192, .inl (fun _ => 0))), (kwn3, .inl (cy 0, 192, .inl (fun _ => 0))), (kw4, .inr (9, [.int 0, .int 0, .int 0, .int 5, .int 60, .int 0, .int 0, .int 0, .int 0, .ref kwy4, .ref kwn4])), (kwy4, .inl (cy 0, 192, .inl (fun _ => 0))), (kwn4, .inl (cy 0, 192, .inl (fun _ => 0))), (kw5, .inr (9, [.int 0, .int 0, .int 0, .int 5, .int 60, .int 0, .int 0, .int 0, .int 0, .ref kwy5, .ref kwn5])), (kwy5, .inl (cy 0, 192, .inl (fun _ => 0))), (kwn5, .inl (cy 0, 192, .inl (fun _ => 0))), (kw6, .inr (9, [.int 0, .int 0, .int 0, .int 5, .int 60, .int 0, .int 0, .int 0, .int 0, .ref kwy6, .ref kwn6])), (kwy6, .inl (cy 0, 192, .inl (fun _ => 0))), (kwn6, .inl (cy 0, 192, .inl (fun _ => 0))), (kw7, .inr (9, [.int 0, .int 0, .int 0, .int 5, .int 60, .int 0, .int 0, .int 0, .int 0, .ref kwy7, .ref kwn7])), (kwy7, .inl (cy 0, 192, .inl (fun _ => 0))), (kwn7, .inl (cy 0, 192, .inl (fun _ => 0))), (zlv, .inr (10, [.ref zst, .ref zla, .ref zle, .ref zta, .ref zwa, .ref zwk, .int 0, .int 0])), (zst, .inr (7, [.ref zoc, .ref zki, .ref zce, .ref zsi, .ref zsp, .int 0])), (zoc, .inl (cy 0, 192, .inl zfoc)), (zki, .inl (cy 0, 40, .inl (fun _ => 0))), (zce, .inl (cy 0, 40, .inl (fun _ => 0))), (zsi, .inl (cy 0, 40, .inl (fun _ => 0))), (zsp, .inl (cy 0, 40, .inl (fun _ => 0))), (zla, .inr (2, [.int 5, .int 9, .int 0, .ref zld, .ref zsr, .ref ztx, .ref zvl])), (zld, .inl (cy 0, 5, .inl zfl)), (zsr, .inl (cy 0, 5, .inl (fun _ => 0))), (ztx, .inl (cy 3, 3, .inr (.inr (.inr (.inr zgt))))), (zvl, .inl (cy 0, 5, .inl (fun _ => 0))), (zf0, .inr (1, [.ref zc0, .ref zk0, .int 0])), (zc0, .inl (cy 0, 48, .inl (fun _ => 0))), (zk0, .inl (cy 0, 48, .inl (fun _ => 0))), (zf1, .inr (1, [.ref zc1, .ref zk1, .int 0])), (zc1, .inl (cy 0, 48, .inl (fun _ => 0))), (zk1, .inl (cy 0, 48, .inl (fun _ => 0))), (zf2, .inr (1, [.ref zc2, .ref zk2, .int 0])), (zc2, .inl (cy 0, 48, .inl (fun _ => 0))), (zk2, .inl (cy 0, 48, .inl (fun _ => 0))), (zle, .inr (3, [.ref zte, .ref zne, .ref zmi, .int 0, .ref ztr, .ref zbe, .int 0, .int 0, .int 0])), (zte, .inl (cy 0, 7, .inl (fun _ => 0))), (zne, .inl (cy 0, 7, .inl (fun _ => 0))), (zmi, .inl (cy 0, 7, .inl (fun _ => 0))), (ztr, .inr (5, [.ref zrta7, .int 0])), (zrta7, .inl (cy 0, 7, .inl (fun _ => 0))), (zbe, .inr (5, [.ref zrba7, .int 0])), (zrba7, .inl (cy 0, 7, .inl (fun _ => 0))), (zta, .inr (5, [.ref zrta, .int 0])), (zrta, .inl (cy 0, 48, .inl (fun _ => 0))), (zwa, .inr (5, [.ref zrwa, .int 0])), (zrwa, .inl (cy 0, 24, .inl (fun _ => 0))), (zwk, .inl (cy 4, 8, .inr (.inr (.inr (.inr zgw))))), (zw0, .inr (9, [.int 0, .int 0, .int 0, .int 5, .int 60, .int 0, .int 0, .int 0, .int 0, .ref zwy0, .ref zwn0])), (zwy0, .inl (cy 0, 192, .inl (fun _ => 0))), (zwn0, .inl (cy 0, 192, .inl (fun _ => 0))), (zw1, .inr (9, [.int 0, .int 0, .int 0, .int 5, .int 60, .int 0, .int 0, .int 0, .int 0, .ref zwy1, .ref zwn1])), (zwy1, .inl (cy 0, 192, .inl (fun _ => 0))), (zwn1, .inl (cy 0, 192, .inl (fun _ => 0))), (zw2, .inr (9, [.int 0, .int 0, .int 0, .int 5, .int 60, .int 0, .int 0, .int 0, .int 0, .ref zwy2, .ref zwn2])), (zwy2, .inl (cy 0, 192, .inl (fun _ => 0))), (zwn2, .inl (cy 0, 192, .inl (fun _ => 0))), (zw3, .inr (9, [.int 0, .int 0, .int 0, .int 5, .int 60, .int 0, .int 0, .int 0, .int 0, .ref zwy3, .ref zwn3])), (zwy3, .inl (cy 0, 192, .inl (fun _ => 0))), (zwn3, .inl (cy 0, 192, .inl (fun _ => 0))), (zw4, .inr (9, [.int 0, .int 0, .int 0, .int 5, .int 60, .int 0, .int 0, .int 0, .int 0, .ref zwy4, .ref zwn4])), (zwy4, .inl (cy 0, 192, .inl (fun _ => 0))), (zwn4, .inl (cy 0, 192, .inl (fun _ => 0))), (zw5, .inr (9, [.int 0, .int 0, .int 0, .int 5, .int 60, .int 0, .int 0, .int 0, .int 0, .ref zwy5, .ref zwn5])), (zwy5, .inl (cy 0, 192, .inl (fun _ => 0))), (zwn5, .inl (cy 0, 192, .inl (fun _ => 0))), (zw6, .inr (9, [.int 0, .int 0, .int 0, .int 5, .int 60, .int 0, .int 0, .int 0, .int 0, .ref zwy6, .ref zwn6])), (zwy6, .inl (cy 0, 192, .inl (fun _ => 0))), (zwn6, .inl (cy 0, 192, .inl (fun _ => 0))), (zw7, .inr (9, [.int 0, .int 0, .int 0, .int 5, .int 60, .int 0, .int 0, .int 0, .int 0, .ref zwy7, .ref zwn7])), (zwy7, .inl (cy 0, 192, .inl (fun _ => 0))), (zwn7, .inl (cy 0, 192, .inl (fun _ => 0))), (re, .inr (4, [.ref dr, .ref t0, .ref nm, .int 0, .int (-1), .int 0, .int 0])), (dr, .inr (1, [.ref co, .ref ck, .int 0])), (co, .inl (cy 0, 48, .inl (fun _ => 0))), (ck, .inl (cy 0, 48, .inl (fun _ => 0))), (t0, .inr (5, [.ref t0a, .int 0])), (t0a, .inl (cy 0, 0, .inl (fun _ => 0))), (fi, .inr (0, [.ref fc, .ref fd_, .ref fl_, .ref fh, .int 0, .int 0])), (fc, .inl (cy 0, 192, .inl (fun _ => 0))), (fd_, .inl (cy 1, 192, .inl (fun _ => 0))), (fl_, .inl (cy 2, 24, .inr (.inl (fun _ => 0)))), (fh, .inl (cy 0, 8, .inl (fun _ => 0))), (vo, .inr (8, [.ref bg, .ref vt, .int 0, .int 0, .int 0, .int 0])), (bg, .inr (5, [.ref bga, .int 0])), (bga, .inl (cy 0, 30, .inl (fun _ => 0))), (vt, .inr (5, [.ref vta, .int 0])), (vta, .inl (cy 0, 30, .inl (fun _ => 0))), (m0, .inr (12, [.ref nw, .ref nk, .ref na, .int 0, .ref fd, .ref ea, .ref so, .int (-1), .ref nd, .int 0, .int 0, .int 0, .int 0, .int 0, .int 0, .ref cd, .ref nmd, .ref pl, .ref tl, .ref fr_, .ref rw_, .ref brw, .int 0, .int 0, .ref po, .ref trc, .int 0, .int 0, .int 0, .ref wi, .ref sz_, .ref nu, .ref ca])), (nw, .inl (cy 0, 3567, .inl nw0)), (nk, .inl (cy 0, 3567, .inl (fun _ => 0))), (na, .inl (cy 0, 3567, .inl (fun _ => 0))), (fd, .inl (cy 0, 7, .inl (fun _ => 0))), (ea, .inl (cy 0, 8, .inl ea0)), (so, .inl (cy 0, 8, .inl so0)), (nd, .inl (cy 6, 3, .inr (.inr (.inr (.inr gn))))), (cd, .inl (cy 0, 49, .inl (fun _ => 0))), (nmd, .inl (cy 0, 5, .inl (fun _ => 0))), (pl, .inl (cy 0, 49, .inl (fun _ => 0))), (tl, .inl (cy 1, 1536, .inl (fun _ => 0))), (fr_, .inl (cy 0, 192, .inl (fun _ => 0))), (rw_, .inl (cy 0, 7, .inl (fun _ => 0))), (brw, .inl (cy 0, 7, .inl (fun _ => 0))), (po, .inl (cy 0, 8, .inl (fun _ => 0))), (trc, .inl (cy 0, 30, .inl (fun _ => 0))), (wi, .inl (cy 0, 4, .inl (fun _ => 0))), (sz_, .inl (cy 0, 4, .inl (fun _ => 0))), (nu, .inl (cy 0, 96, .inl (fun _ => 0))), (ca, .inl (cy 0, 24, .inl (fun _ => 0)))] H) (hD : va_D A [(s3, .inr (6, [.int 0, .int 0, .ref u3])), (u3, .inl (cy 0, 24, .inl (fun _ => 0))), (s2, .inr (6, [.int 0, .int 0, .ref u2])), (u2, .inl (cy 0, 24, .inl (fun _ => 0))), (s1, .inr (6, [.int 0, .int 0, .ref u1])), (u1, .inl (cy 0, 24, .inl (fun _ => 0))), (s0, .inr (6, [.int 0, .int 0, .ref u0])), (u0, .inl (cy 0, 24, .inl (fun _ => 0))), (er, .inl (cy 0, 7, .inl (fun _ => 0))), (sh, .inl (cy 5, 4, .inr (.inr (.inr (.inr gs))))), (x0, .inr (11, [.ref lv, .ref klv, .ref zlv, .ref sh, .ref er, .ref re, .ref fi, .ref vo, .int 0])), (lv, .inr (10, [.ref st, .ref la, .ref le, .ref ta, .ref wa, .ref wk, .int 0, .int 0])), (st, .inr (7, [.ref oc, .ref ki, .ref ce, .ref si, .ref sp, .int 0])), (oc, .inl (cy 0, 192, .inl foc)), (ki, .inl (cy 0, 40, .inl (fun _ => 0))), (ce, .inl (cy 0, 40, .inl (fun _ => 0))), (si, .inl (cy 0, 40, .inl (fun _ => 0))), (sp, .inl (cy 0, 40, .inl (fun _ => 0))), (la, .inr (2, [.int 5, .int 9, .int 0, .ref ld, .ref sr, .ref tx, .ref vl])), (ld, .inl (cy 0, 5, .inl fl)), (sr, .inl (cy 0, 5, .inl (fun _ => 0))), (tx, .inl (cy 3, 3, .inr (.inr (.inr (.inr gt))))), (vl, .inl (cy 0, 5, .inl (fun _ => 0))), (f0, .inr (1, [.ref c0, .ref k0, .int 0])), (c0, .inl (cy 0, 48, .inl (fun _ => 0))), (k0, .inl (cy 0, 48, .inl (fun _ => 0))), (f1, .inr (1, [.ref c1, .ref k1, .int 0])), (c1, .inl (cy 0, 48, .inl (fun _ => 0))), (k1, .inl (cy 0, 48, .inl (fun _ => 0))), (f2, .inr (1, [.ref c2, .ref k2, .int 0])), (c2, .inl (cy 0, 48, .inl (fun _ => 0))), (k2, .inl (cy 0, 48, .inl (fun _ => 0))), (le, .inr (3, [.ref te, .ref ne, .ref mi, .int 0, .ref tr, .ref be, .int 0, .int 0, .int 0])), (te, .inl (cy 0, 7, .inl (fun _ => 0))), (ne, .inl (cy 0, 7, .inl (fun _ => 0))), (mi, .inl (cy 0, 7, .inl (fun _ => 0))), (tr, .inr (5, [.ref rta7, .int 0])), (rta7, .inl (cy 0, 7, .inl (fun _ => 0))), (be, .inr (5, [.ref rba7, .int 0])), (rba7, .inl (cy 0, 7, .inl (fun _ => 0))), (ta, .inr (5, [.ref rta, .int 0])), (rta, .inl (cy 0, 48, .inl (fun _ => 0))), (wa, .inr (5, [.ref rwa, .int 0])), (rwa, .inl (cy 0, 24, .inl (fun _ => 0))), (wk, .inl (cy 4, 8, .inr (.inr (.inr (.inr gw))))), (w0, .inr (9, [.int 0, .int 0, .int 0, .int 5, .int 60, .int 0, .int 0, .int 0, .int 0, .ref wy0, .ref wn0])), (wy0, .inl (cy 0, 192, .inl (fun _ => 0))), (wn0, .inl (cy 0, 192, .inl (fun _ => 0))), (w1, .inr (9, [.int 0, .int 0, .int 0, .int 5, .int 60, .int 0, .int 0, .int 0, .int 0, .ref wy1, .ref wn1])), (wy1, .inl (cy 0, 192, .inl (fun _ => 0))), (wn1, .inl (cy 0, 192, .inl (fun _ => 0))), (w2, .inr (9, [.int 0, .int 0, .int 0, .int 5, .int 60, .int 0, .int 0, .int 0, .int 0, .ref wy2, .ref wn2])), (wy2, .inl (cy 0, 192, .inl (fun _ => 0))), (wn2, .inl (cy 0, 192, .inl (fun _ => 0))), (w3, .inr (9, [.int 0, .int 0, .int 0, .int 5, .int 60, .int 0, .int 0, .int 0, .int 0, .ref wy3, .ref wn3])), (wy3, .inl (cy 0, 192, .inl (fun _ => 0))), (wn3, .inl (cy 0, 192, .inl (fun _ => 0))), (w4, .inr (9, [.int 0, .int 0, .int 0, .int 5, .int 60, .int 0, .int 0, .int 0, .int 0, .ref wy4, .ref wn4])), (wy4, .inl (cy 0, 192, .inl (fun _ => 0))), (wn4, .inl (cy 0, 192, .inl (fun _ => 0))), (w5, .inr (9, [.int 0, .int 0, .int 0, .int 5, .int 60, .int 0, .int 0, .int 0, .int 0, .ref wy5, .ref wn5])), (wy5, .inl (cy 0, 192, .inl (fun _ => 0))), (wn5, .inl (cy 0, 192, .inl (fun _ => 0))), (w6, .inr (9, [.int 0, .int 0, .int 0, .int 5, .int 60, .int 0, .int 0, .int 0, .int 0, .ref wy6, .ref wn6])), (wy6, .inl (cy 0, 192, .inl (fun _ => 0))), (wn6, .inl (cy 0, 192, .inl (fun _ => 0))), (w7, .inr (9, [.int 0, .int 0, .int 0, .int 5, .int 60, .int 0, .int 0, .int 0, .int 0, .ref wy7, .ref wn7])), (wy7, .inl (cy 0, 192, .inl (fun _ => 0))), (wn7, .inl (cy 0, 192, .inl (fun _ => 0))), (klv, .inr (10, [.ref kst, .ref kla, .ref kle, .ref kta, .ref kwa, .ref kwk, .int 0, .int 0])), (kst, .inr (7, [.ref koc, .ref kki, .ref kce, .ref ksi, .ref ksp, .int 0])), (koc, .inl (cy 0, 192, .inl kfoc)), (kki, .inl (cy 0, 40, .inl (fun _ => 0))), (kce, .inl (cy 0, 40, .inl (fun _ => 0))), (ksi, .inl (cy 0, 40, .inl (fun _ => 0))), (ksp, .inl (cy 0, 40, .inl (fun _ => 0))), (kla, .inr (2, [.int 5, .int 9, .int 0, .ref kld, .ref ksr, .ref ktx, .ref kvl])), (kld, .inl (cy 0, 5, .inl kfl)), (ksr, .inl (cy 0, 5, .inl (fun _ => 0))), (ktx, .inl (cy 3, 3, .inr (.inr (.inr (.inr kgt))))), (kvl, .inl (cy 0, 5, .inl (fun _ => 0))), (kf0, .inr (1, [.ref kc0, .ref kk0, .int 0])), (kc0, .inl (cy 0, 48, .inl (fun _ => 0))), (kk0, .inl (cy 0, 48, .inl (fun _ => 0))), (kf1, .inr (1, [.ref kc1, .ref kk1, .int 0])), (kc1, .inl (cy 0, 48, .inl (fun _ => 0))), (kk1, .inl (cy 0, 48, .inl (fun _ => 0))), (kf2, .inr (1, [.ref kc2, .ref kk2, .int 0])), (kc2, .inl (cy 0, 48, .inl (fun _ => 0))), (kk2, .inl (cy 0, 48, .inl (fun _ => 0))), (kle, .inr (3, [.ref kte, .ref kne, .ref kmi, .int 0, .ref ktr, .ref kbe, .int 0, .int 0, .int 0])), (kte, .inl (cy 0, 7, .inl (fun _ => 0))), (kne, .inl (cy 0, 7, .inl (fun _ => 0))), (kmi, .inl (cy 0, 7, .inl (fun _ => 0))), (ktr, .inr (5, [.ref krta7, .int 0])), (krta7, .inl (cy 0, 7, .inl (fun _ => 0))), (kbe, .inr (5, [.ref krba7, .int 0])), (krba7, .inl (cy 0, 7, .inl (fun _ => 0))), (kta, .inr (5, [.ref krta, .int 0])), (krta, .inl (cy 0, 48, .inl (fun _ => 0))), (kwa, .inr (5, [.ref krwa, .int 0])), (krwa, .inl (cy 0, 24, .inl (fun _ => 0))), (kwk, .inl (cy 4, 8, .inr (.inr (.inr (.inr kgw))))), (kw0, .inr (9, [.int 0, .int 0, .int 0, .int 5, .int 60, .int 0, .int 0, .int 0, .int 0, .ref kwy0, .ref kwn0])), (kwy0, .inl (cy 0, 192, .inl (fun _ => 0))), (kwn0, .inl (cy 0, 192, .inl (fun _ => 0))), (kw1, .inr (9, [.int 0, .int 0, .int 0, .int 5, .int 60, .int 0, .int 0, .int 0, .int 0, .ref kwy1, .ref kwn1])), (kwy1, .inl (cy 0, 192, .inl (fun _ => 0))), (kwn1, .inl (cy 0, 192, .inl (fun _ => 0))), (kw2, .inr (9, [.int 0, .int 0, .int 0, .int 5, .int 60, .int 0, .int 0, .int 0, .int 0, .ref kwy2, .ref kwn2])), (kwy2, .inl (cy 0, 192, .inl (fun _ => 0))), (kwn2, .inl (cy 0, 192, .inl (fun _ => 0))), (kw3, .inr (9, [.int 0, .int 0, .int 0, .int 5, .int 60, .int 0, .int 0, .int 0, .int 0, .ref kwy3, .ref kwn3])), (kwy3, .inl (cy 0, 192, .inl (fun _ => 0))), (kwn3, .inl (cy 0, 192, .inl (fun _ => 0))), (kw4, .inr (9, [.int 0, .int 0, .int 0, .int 5, .int 60, .int 0, .int 0, .int 0, .int 0, .ref kwy4, .ref kwn4])), (kwy4, .inl (cy 0, 192, .inl (fun _ => 0))), (kwn4, .inl (cy 0, 192, .inl (fun _ => 0))), (kw5, .inr (9, [.int 0, .int 0, .int 0, .int 5, .int 60, .int 0, .int 0, .int 0, .int 0, .ref kwy5, .ref kwn5])), (kwy5, .inl (cy 0, 192, .inl (fun _ => 0))), (kwn5, .inl (cy 0, 192, .inl (fun _ => 0))), (kw6, .inr (9, [.int 0, .int 0, .int 0, .int 5, .int 60, .int 0, .int 0, .int 0, .int 0, .ref kwy6, .ref kwn6])), (kwy6, .inl (cy 0, 192, .inl (fun _ => 0))), (kwn6, .inl (cy 0, 192, .inl (fun _ => 0))), (kw7, .inr (9, [.int 0, .int 0, .int 0, .int 5, .int 60, .int 0, .int 0, .int 0, .int 0, .ref kwy7, .ref kwn7])), (kwy7, .inl (cy 0, 192, .inl (fun _ => 0))), (kwn7, .inl (cy 0, 192, .inl (fun _ => 0))), (zlv, .inr (10, [.ref zst, .ref zla, .ref zle, .ref zta, .ref zwa, .ref zwk, .int 0, .int 0])), (zst, .inr (7, [.ref zoc, .ref zki, .ref zce, .ref zsi, .ref zsp, .int 0])), (zoc, .inl (cy 0, 192, .inl zfoc)), (zki, .inl (cy 0, 40, .inl (fun _ => 0))), (zce, .inl (cy 0, 40, .inl (fun _ => 0))), (zsi, .inl (cy 0, 40, .inl (fun _ => 0))), (zsp, .inl (cy 0, 40, .inl (fun _ => 0))), (zla, .inr (2, [.int 5, .int 9, .int 0, .ref zld, .ref zsr, .ref ztx, .ref zvl])), (zld, .inl (cy 0, 5, .inl zfl)), (zsr, .inl (cy 0, 5, .inl (fun _ => 0))), (ztx, .inl (cy 3, 3, .inr (.inr (.inr (.inr zgt))))), (zvl, .inl (cy 0, 5, .inl (fun _ => 0))), (zf0, .inr (1, [.ref zc0, .ref zk0, .int 0])), (zc0, .inl (cy 0, 48, .inl (fun _ => 0))), (zk0, .inl (cy 0, 48, .inl (fun _ => 0))), (zf1, .inr (1, [.ref zc1, .ref zk1, .int 0])), (zc1, .inl (cy 0, 48, .inl (fun _ => 0))), (zk1, .inl (cy 0, 48, .inl (fun _ => 0))), (zf2, .inr (1, [.ref zc2, .ref zk2, .int 0])), (zc2, .inl (cy 0, 48, .inl (fun _ => 0))), (zk2, .inl (cy 0, 48, .inl (fun _ => 0))), (zle, .inr (3, [.ref zte, .ref zne, .ref zmi, .int 0, .ref ztr, .ref zbe, .int 0, .int 0, .int 0])), (zte, .inl (cy 0, 7, .inl (fun _ => 0))), (zne, .inl (cy 0, 7, .inl (fun _ => 0))), (zmi, .inl (cy 0, 7, .inl (fun _ => 0))), (ztr, .inr (5, [.ref zrta7, .int 0])), (zrta7, .inl (cy 0, 7, .inl (fun _ => 0))), (zbe, .inr (5, [.ref zrba7, .int 0])), (zrba7, .inl (cy 0, 7, .inl (fun _ => 0))), (zta, .inr (5, [.ref zrta, .int 0])), (zrta, .inl (cy 0, 48, .inl (fun _ => 0))), (zwa, .inr (5, [.ref zrwa, .int 0])), (zrwa, .inl (cy 0, 24, .inl (fun _ => 0))), (zwk, .inl (cy 4, 8, .inr (.inr (.inr (.inr zgw))))), (zw0, .inr (9, [.int 0, .int 0, .int 0, .int 5, .int 60, .int 0, .int 0, .int 0, .int 0, .ref zwy0, .ref zwn0])), (zwy0, .inl (cy 0, 192, .inl (fun _ => 0))), (zwn0, .inl (cy 0, 192, .inl (fun _ => 0))), (zw1, .inr (9, [.int 0, .int 0, .int 0, .int 5, .int 60, .int 0, .int 0, .int 0, .int 0, .ref zwy1, .ref zwn1])), (zwy1, .inl (cy 0, 192, .inl (fun _ => 0))), (zwn1, .inl (cy 0, 192, .inl (fun _ => 0))), (zw2, .inr (9, [.int 0, .int 0, .int 0, .int 5, .int 60, .int 0, .int 0, .int 0, .int 0, .ref zwy2, .ref zwn2])), (zwy2, .inl (cy 0, 192, .inl (fun _ => 0))), (zwn2, .inl (cy 0, 192, .inl (fun _ => 0))), (zw3, .inr (9, [.int 0, .int 0, .int 0, .int 5, .int 60, .int 0, .int 0, .int 0, .int 0, .ref zwy3, .ref zwn3])), (zwy3, .inl (cy 0, 192, .inl (fun _ => 0))), (zwn3, .inl (cy 0, 192, .inl (fun _ => 0))), (zw4, .inr (9, [.int 0, .int 0, .int 0, .int 5, .int 60, .int 0, .int 0, .int 0, .int 0, .ref zwy4, .ref zwn4])), (zwy4, .inl (cy 0, 192, .inl (fun _ => 0))), (zwn4, .inl (cy 0, 192, .inl (fun _ => 0))), (zw5, .inr (9, [.int 0, .int 0, .int 0, .int 5, .int 60, .int 0, .int 0, .int 0, .int 0, .ref zwy5, .ref zwn5])), (zwy5, .inl (cy 0, 192, .inl (fun _ => 0))), (zwn5, .inl (cy 0, 192, .inl (fun _ => 0))), (zw6, .inr (9, [.int 0, .int 0, .int 0, .int 5, .int 60, .int 0, .int 0, .int 0, .int 0, .ref zwy6, .ref zwn6])), (zwy6, .inl (cy 0, 192, .inl (fun _ => 0))), (zwn6, .inl (cy 0, 192, .inl (fun _ => 0))), (zw7, .inr (9, [.int 0, .int 0, .int 0, .int 5, .int 60, .int 0, .int 0, .int 0, .int 0, .ref zwy7, .ref zwn7])), (zwy7, .inl (cy 0, 192, .inl (fun _ => 0))), (zwn7, .inl (cy 0, 192, .inl (fun _ => 0))), (re, .inr (4, [.ref dr, .ref t0, .ref nm, .int 0, .int (-1), .int 0, .int 0])), (dr, .inr (1, [.ref co, .ref ck, .int 0])), (co, .inl (cy 0, 48, .inl (fun _ => 0))), (ck, .inl (cy 0, 48, .inl (fun _ => 0))), (t0, .inr (5, [.ref t0a, .int 0])), (t0a, .inl (cy 0, 0, .inl (fun _ => 0))), (fi, .inr (0, [.ref fc, .ref fd_, .ref fl_, .ref fh, .int 0, .int 0])), (fc, .inl (cy 0, 192, .inl (fun _ => 0))), (fd_, .inl (cy 1, 192, .inl (fun _ => 0))), (fl_, .inl (cy 2, 24, .inr (.inl (fun _ => 0)))), (fh, .inl (cy 0, 8, .inl (fun _ => 0))), (vo, .inr (8, [.ref bg, .ref vt, .int 0, .int 0, .int 0, .int 0])), (bg, .inr (5, [.ref bga, .int 0])), (bga, .inl (cy 0, 30, .inl (fun _ => 0))), (vt, .inr (5, [.ref vta, .int 0])), (vta, .inl (cy 0, 30, .inl (fun _ => 0))), (m0, .inr (12, [.ref nw, .ref nk, .ref na, .int 0, .ref fd, .ref ea, .ref so, .int (-1), .ref nd, .int 0, .int 0, .int 0, .int 0, .int 0, .int 0, .ref cd, .ref nmd, .ref pl, .ref tl, .ref fr_, .ref rw_, .ref brw, .int 0, .int 0, .ref po, .ref trc, .int 0, .int 0, .int 0, .ref wi, .ref sz_, .ref nu, .ref ca])), (nw, .inl (cy 0, 3567, .inl nw0)), (nk, .inl (cy 0, 3567, .inl (fun _ => 0))), (na, .inl (cy 0, 3567, .inl (fun _ => 0))), (fd, .inl (cy 0, 7, .inl (fun _ => 0))), (ea, .inl (cy 0, 8, .inl ea0)), (so, .inl (cy 0, 8, .inl so0)), (nd, .inl (cy 6, 3, .inr (.inr (.inr (.inr gn))))), (cd, .inl (cy 0, 49, .inl (fun _ => 0))), (nmd, .inl (cy 0, 5, .inl (fun _ => 0))), (pl, .inl (cy 0, 49, .inl (fun _ => 0))), (tl, .inl (cy 1, 1536, .inl (fun _ => 0))), (fr_, .inl (cy 0, 192, .inl (fun _ => 0))), (rw_, .inl (cy 0, 7, .inl (fun _ => 0))), (brw, .inl (cy 0, 7, .inl (fun _ => 0))), (po, .inl (cy 0, 8, .inl (fun _ => 0))), (trc, .inl (cy 0, 30, .inl (fun _ => 0))), (wi, .inl (cy 0, 4, .inl (fun _ => 0))), (sz_, .inl (cy 0, 4, .inl (fun _ => 0))), (nu, .inl (cy 0, 96, .inl (fun _ => 0))), (ca, .inl (cy 0, 24, .inl (fun _ => 0)))]) : ∃ ad : rf → Nat, skA ad = sk ∧ saA ad = sa ∧ ad (94, 0, 0) = b ∧ ad (11, 0, 0) = x0 ∧ ad (12, 0, 0) = m0 ∧ WO EE G cy ad A (Mz0 foc kfoc zfoc fl kfl zfl) H := by
  subst X43
  refine ⟨fun c => match c.1 with | 94 => b | 91 => sk c.2.1 | 90 => sa c.2.1 | _ => ([s3, u3, s2, u2, s1, u1, s0, u0, er, sh, x0, lv, st, oc, ki, ce, si, sp, la, ld, sr, tx, vl, f0, c0, k0, f1, c1, k1, f2, c2, k2, le, te, ne, mi, tr, rta7, be, rba7, ta, rta, wa, rwa, wk, w0, wy0, wn0, w1, wy1, wn1, w2, wy2, wn2, w3, wy3, wn3, w4, wy4, wn4, w5, wy5, wn5, w6, wy6, wn6, w7, wy7, wn7, klv, kst, koc, kki, kce, ksi, ksp, kla, kld, ksr, ktx, kvl, kf0, kc0, kk0, kf1, kc1, kk1, kf2, kc2, kk2, kle, kte, kne, kmi, ktr, krta7, kbe, krba7, kta, krta, kwa, krwa, kwk, kw0, kwy0, kwn0, kw1, kwy1, kwn1, kw2, kwy2, kwn2, kw3, kwy3, kwn3, kw4, kwy4, kwn4, kw5, kwy5, kwn5, kw6, kwy6, kwn6, kw7, kwy7, kwn7, zlv, zst, zoc, zki, zce, zsi, zsp, zla, zld, zsr, ztx, zvl, zf0, zc0, zk0, zf1, zc1, zk1, zf2, zc2, zk2, zle, zte, zne, zmi, ztr, zrta7, zbe, zrba7, zta, zrta, zwa, zrwa, zwk, zw0, zwy0, zwn0, zw1, zwy1, zwn1, zw2, zwy2, zwn2, zw3, zwy3, zwn3, zw4, zwy4, zwn4, zw5, zwy5, zwn5, zw6, zwy6, zwn6, zw7, zwy7, zwn7, re, dr, co, ck, t0, t0a, fi, fc, fd_, fl_, fh, vo, bg, bga, vt, vta, m0, nw, nk, na, fd, ea, so, nd, cd, nmd, pl, tl, fr_, rw_, brw, po, trc, wi, sz_, nu, ca] : List Nat).getD (psn c) 0, rfl, rfl, rfl, rfl, rfl, WO_of hP hD ?_⟩
  rw [EE_lit]
  refine List.forall_mem_cons.mpr ⟨⟨_, rfl, fun h => h⟩, ?_⟩
  refine List.forall_mem_cons.mpr ⟨⟨_, rfl, fun h => h⟩, ?_⟩
  refine List.forall_mem_cons.mpr ⟨⟨_, rfl, fun h => h⟩, ?_⟩
  refine List.forall_mem_cons.mpr ⟨⟨_, rfl, fun h => h⟩, ?_⟩
  refine List.forall_mem_cons.mpr ⟨⟨_, rfl, fun h => h⟩, ?_⟩
  refine List.forall_mem_cons.mpr ⟨⟨_, rfl, fun h => h⟩, ?_⟩
  refine List.forall_mem_cons.mpr ⟨⟨_, rfl, fun h => h⟩, ?_⟩
  refine List.forall_mem_cons.mpr ⟨⟨_, rfl, fun h => h⟩, ?_⟩
  refine List.forall_mem_cons.mpr ⟨⟨_, rfl, fun h => h⟩, ?_⟩
  refine List.forall_mem_cons.mpr ⟨⟨_, rfl, fun h => h⟩, ?_⟩
  refine List.forall_mem_cons.mpr ⟨⟨_, rfl, fun h => h⟩, ?_⟩
  refine List.forall_mem_cons.mpr ⟨⟨_, rfl, fun h => h⟩, ?_⟩
  refine List.forall_mem_cons.mpr ⟨⟨_, rfl, fun h => h⟩, ?_⟩
  refine List.forall_mem_cons.mpr ⟨⟨_, rfl, fun h => h⟩, ?_⟩
  refine List.forall_mem_cons.mpr ⟨⟨_, rfl, fun h => h⟩, ?_⟩
  refine List.forall_mem_cons.mpr ⟨⟨_, rfl, fun h => h⟩, ?_⟩
  refine List.forall_mem_cons.mpr ⟨⟨_, rfl, fun h => h⟩, ?_⟩
  refine List.forall_mem_cons.mpr ⟨⟨_, rfl, fun h => h⟩, ?_⟩
  refine List.forall_mem_cons.mpr ⟨⟨_, rfl, fun h => h⟩, ?_⟩
  refine List.forall_mem_cons.mpr ⟨⟨_, rfl, fun h => h⟩, ?_⟩
  refine List.forall_mem_cons.mpr ⟨⟨_, rfl, fun h => h⟩, ?_⟩
  refine List.forall_mem_cons.mpr ⟨⟨_, rfl, fun h => h⟩, ?_⟩
  refine List.forall_mem_cons.mpr ⟨⟨_, rfl, fun h => h⟩, ?_⟩
  refine List.forall_mem_cons.mpr ⟨⟨_, rfl, fun h => h⟩, ?_⟩
  refine List.forall_mem_cons.mpr ⟨⟨_, rfl, fun h => h⟩, ?_⟩
  refine List.forall_mem_cons.mpr ⟨⟨_, rfl, fun h => h⟩, ?_⟩
  refine List.forall_mem_cons.mpr ⟨⟨_, rfl, fun h => h⟩, ?_⟩
  refine List.forall_mem_cons.mpr ⟨⟨_, rfl, fun h => h⟩, ?_⟩
  refine List.forall_mem_cons.mpr ⟨⟨_, rfl, fun h => h⟩, ?_⟩
  refine List.forall_mem_cons.mpr ⟨⟨_, rfl, fun h => h⟩, ?_⟩
  refine List.forall_mem_cons.mpr ⟨⟨_, rfl, fun h => h⟩, ?_⟩
  refine List.forall_mem_cons.mpr ⟨⟨_, rfl, fun h => h⟩, ?_⟩
  refine List.forall_mem_cons.mpr ⟨⟨_, rfl, fun h => h⟩, ?_⟩
  refine List.forall_mem_cons.mpr ⟨⟨_, rfl, fun h => h⟩, ?_⟩
  refine List.forall_mem_cons.mpr ⟨⟨_, rfl, fun h => h⟩, ?_⟩
  refine List.forall_mem_cons.mpr ⟨⟨_, rfl, fun h => h⟩, ?_⟩
  refine List.forall_mem_cons.mpr ⟨⟨_, rfl, fun h => h⟩, ?_⟩
  refine List.forall_mem_cons.mpr ⟨⟨_, rfl, fun h => h⟩, ?_⟩
  refine List.forall_mem_cons.mpr ⟨⟨_, rfl, fun h => h⟩, ?_⟩
  refine List.forall_mem_cons.mpr ⟨⟨_, rfl, fun h => h⟩, ?_⟩
  refine List.forall_mem_cons.mpr ⟨⟨_, rfl, fun h => h⟩, ?_⟩
  refine List.forall_mem_cons.mpr ⟨⟨_, rfl, fun h => h⟩, ?_⟩
  refine List.forall_mem_cons.mpr ⟨⟨_, rfl, fun h => h⟩, ?_⟩
  refine List.forall_mem_cons.mpr ⟨⟨_, rfl, fun h => h⟩, ?_⟩
  refine List.forall_mem_cons.mpr ⟨⟨_, rfl, fun h => h⟩, ?_⟩
  refine List.forall_mem_cons.mpr ⟨⟨_, rfl, fun h => h⟩, ?_⟩
  refine List.forall_mem_cons.mpr ⟨⟨_, rfl, fun h => h⟩, ?_⟩
  refine List.forall_mem_cons.mpr ⟨⟨_, rfl, fun h => h⟩, ?_⟩
  refine List.forall_mem_cons.mpr ⟨⟨_, rfl, fun h => h⟩, ?_⟩
  refine List.forall_mem_cons.mpr ⟨⟨_, rfl, fun h => h⟩, ?_⟩
  refine List.forall_mem_cons.mpr ⟨⟨_, rfl, fun h => h⟩, ?_⟩
  refine List.forall_mem_cons.mpr ⟨⟨_, rfl, fun h => h⟩, ?_⟩
  refine List.forall_mem_cons.mpr ⟨⟨_, rfl, fun h => h⟩, ?_⟩
  refine List.forall_mem_cons.mpr ⟨⟨_, rfl, fun h => h⟩, ?_⟩
  refine List.forall_mem_cons.mpr ⟨⟨_, rfl, fun h => h⟩, ?_⟩
  refine List.forall_mem_cons.mpr ⟨⟨_, rfl, fun h => h⟩, ?_⟩
  refine List.forall_mem_cons.mpr ⟨⟨_, rfl, fun h => h⟩, ?_⟩
  refine List.forall_mem_cons.mpr ⟨⟨_, rfl, fun h => h⟩, ?_⟩
  refine List.forall_mem_cons.mpr ⟨⟨_, rfl, fun h => h⟩, ?_⟩
  refine List.forall_mem_cons.mpr ⟨⟨_, rfl, fun h => h⟩, ?_⟩
  refine List.forall_mem_cons.mpr ⟨⟨_, rfl, fun h => h⟩, ?_⟩
  refine List.forall_mem_cons.mpr ⟨⟨_, rfl, fun h => h⟩, ?_⟩
  refine List.forall_mem_cons.mpr ⟨⟨_, rfl, fun h => h⟩, ?_⟩
  refine List.forall_mem_cons.mpr ⟨⟨_, rfl, fun h => h⟩, ?_⟩
  refine List.forall_mem_cons.mpr ⟨⟨_, rfl, fun h => h⟩, ?_⟩
  refine List.forall_mem_cons.mpr ⟨⟨_, rfl, fun h => h⟩, ?_⟩
  refine List.forall_mem_cons.mpr ⟨⟨_, rfl, fun h => h⟩, ?_⟩
  refine List.forall_mem_cons.mpr ⟨⟨_, rfl, fun h => h⟩, ?_⟩
  refine List.forall_mem_cons.mpr ⟨⟨_, rfl, fun h => h⟩, ?_⟩
  refine List.forall_mem_cons.mpr ⟨⟨_, rfl, fun h => h⟩, ?_⟩
  refine List.forall_mem_cons.mpr ⟨⟨_, rfl, fun h => h⟩, ?_⟩
  refine List.forall_mem_cons.mpr ⟨⟨_, rfl, fun h => h⟩, ?_⟩
  refine List.forall_mem_cons.mpr ⟨⟨_, rfl, fun h => h⟩, ?_⟩
  refine List.forall_mem_cons.mpr ⟨⟨_, rfl, fun h => h⟩, ?_⟩
  refine List.forall_mem_cons.mpr ⟨⟨_, rfl, fun h => h⟩, ?_⟩
  refine List.forall_mem_cons.mpr ⟨⟨_, rfl, fun h => h⟩, ?_⟩
  refine List.forall_mem_cons.mpr ⟨⟨_, rfl, fun h => h⟩, ?_⟩
  refine List.forall_mem_cons.mpr ⟨⟨_, rfl, fun h => h⟩, ?_⟩
  refine List.forall_mem_cons.mpr ⟨⟨_, rfl, fun h => h⟩, ?_⟩
  refine List.forall_mem_cons.mpr ⟨⟨_, rfl, fun h => h⟩, ?_⟩
  refine List.forall_mem_cons.mpr ⟨⟨_, rfl, fun h => h⟩, ?_⟩
  refine List.forall_mem_cons.mpr ⟨⟨_, rfl, fun h => h⟩, ?_⟩
  refine List.forall_mem_cons.mpr ⟨⟨_, rfl, fun h => h⟩, ?_⟩
  refine List.forall_mem_cons.mpr ⟨⟨_, rfl, fun h => h⟩, ?_⟩
  refine List.forall_mem_cons.mpr ⟨⟨_, rfl, fun h => h⟩, ?_⟩
  refine List.forall_mem_cons.mpr ⟨⟨_, rfl, fun h => h⟩, ?_⟩
  refine List.forall_mem_cons.mpr ⟨⟨_, rfl, fun h => h⟩, ?_⟩
  refine List.forall_mem_cons.mpr ⟨⟨_, rfl, fun h => h⟩, ?_⟩
  refine List.forall_mem_cons.mpr ⟨⟨_, rfl, fun h => h⟩, ?_⟩
  refine List.forall_mem_cons.mpr ⟨⟨_, rfl, fun h => h⟩, ?_⟩
  refine List.forall_mem_cons.mpr ⟨⟨_, rfl, fun h => h⟩, ?_⟩
  refine List.forall_mem_cons.mpr ⟨⟨_, rfl, fun h => h⟩, ?_⟩
  refine List.forall_mem_cons.mpr ⟨⟨_, rfl, fun h => h⟩, ?_⟩
  refine List.forall_mem_cons.mpr ⟨⟨_, rfl, fun h => h⟩, ?_⟩
  refine List.forall_mem_cons.mpr ⟨⟨_, rfl, fun h => h⟩, ?_⟩
  refine List.forall_mem_cons.mpr ⟨⟨_, rfl, fun h => h⟩, ?_⟩
  refine List.forall_mem_cons.mpr ⟨⟨_, rfl, fun h => h⟩, ?_⟩
  refine List.forall_mem_cons.mpr ⟨⟨_, rfl, fun h => h⟩, ?_⟩
  refine List.forall_mem_cons.mpr ⟨⟨_, rfl, fun h => h⟩, ?_⟩
  refine List.forall_mem_cons.mpr ⟨⟨_, rfl, fun h => at_refs h (fun j hj => match j, hj with | 0, _ => X0 | 1, _ => X1 | 2, _ => X2 | j + 3, hj => absurd hj (by omega))⟩, ?_⟩
  refine List.forall_mem_cons.mpr ⟨⟨_, rfl, fun h => at_refs h (fun j hj => match j, hj with | 0, _ => X13 | 1, _ => X14 | 2, _ => X15 | j + 3, hj => absurd hj (by omega))⟩, ?_⟩
  refine List.forall_mem_cons.mpr ⟨⟨_, rfl, fun h => at_refs h (fun j hj => match j, hj with | 0, _ => X26 | 1, _ => X27 | 2, _ => X28 | j + 3, hj => absurd hj (by omega))⟩, ?_⟩
  refine List.forall_mem_cons.mpr ⟨⟨_, rfl, fun h => h⟩, ?_⟩
  refine List.forall_mem_cons.mpr ⟨⟨_, rfl, fun h => h⟩, ?_⟩
  refine List.forall_mem_cons.mpr ⟨⟨_, rfl, fun h => h⟩, ?_⟩
  refine List.forall_mem_cons.mpr ⟨⟨_, rfl, fun h => h⟩, ?_⟩
  refine List.forall_mem_cons.mpr ⟨⟨_, rfl, fun h => h⟩, ?_⟩
  refine List.forall_mem_cons.mpr ⟨⟨_, rfl, fun h => h⟩, ?_⟩
  refine List.forall_mem_cons.mpr ⟨⟨_, rfl, fun h => h⟩, ?_⟩
  refine List.forall_mem_cons.mpr ⟨⟨_, rfl, fun h => h⟩, ?_⟩
  refine List.forall_mem_cons.mpr ⟨⟨_, rfl, fun h => h⟩, ?_⟩
  refine List.forall_mem_cons.mpr ⟨⟨_, rfl, fun h => h⟩, ?_⟩
  refine List.forall_mem_cons.mpr ⟨⟨_, rfl, fun h => h⟩, ?_⟩
  refine List.forall_mem_cons.mpr ⟨⟨_, rfl, fun h => h⟩, ?_⟩
  refine List.forall_mem_cons.mpr ⟨⟨_, rfl, fun h => h⟩, ?_⟩
  refine List.forall_mem_cons.mpr ⟨⟨_, rfl, fun h => h⟩, ?_⟩
  refine List.forall_mem_cons.mpr ⟨⟨_, rfl, fun h => h⟩, ?_⟩
  refine List.forall_mem_cons.mpr ⟨⟨_, rfl, fun h => h⟩, ?_⟩
  refine List.forall_mem_cons.mpr ⟨⟨_, rfl, fun h => h⟩, ?_⟩
  refine List.forall_mem_cons.mpr ⟨⟨_, rfl, fun h => h⟩, ?_⟩
  refine List.forall_mem_cons.mpr ⟨⟨_, rfl, fun h => h⟩, ?_⟩
  refine List.forall_mem_cons.mpr ⟨⟨_, rfl, fun h => h⟩, ?_⟩
  refine List.forall_mem_cons.mpr ⟨⟨_, rfl, fun h => h⟩, ?_⟩
  refine List.forall_mem_cons.mpr ⟨⟨_, rfl, fun h => h⟩, ?_⟩
  refine List.forall_mem_cons.mpr ⟨⟨_, rfl, fun h => h⟩, ?_⟩
  refine List.forall_mem_cons.mpr ⟨⟨_, rfl, fun h => h⟩, ?_⟩
  refine List.forall_mem_cons.mpr ⟨⟨_, rfl, fun h => h⟩, ?_⟩
  refine List.forall_mem_cons.mpr ⟨⟨_, rfl, fun h => h⟩, ?_⟩
  refine List.forall_mem_cons.mpr ⟨⟨_, rfl, fun h => h⟩, ?_⟩
  refine List.forall_mem_cons.mpr ⟨⟨_, rfl, fun h => h⟩, ?_⟩
  refine List.forall_mem_cons.mpr ⟨⟨_, rfl, fun h => h⟩, ?_⟩
  refine List.forall_mem_cons.mpr ⟨⟨_, rfl, fun h => h⟩, ?_⟩
  refine List.forall_mem_cons.mpr ⟨⟨_, rfl, fun h => h⟩, ?_⟩
  refine List.forall_mem_cons.mpr ⟨⟨_, rfl, fun h => h⟩, ?_⟩
  refine List.forall_mem_cons.mpr ⟨⟨_, rfl, fun h => h⟩, ?_⟩
  refine List.forall_mem_cons.mpr ⟨⟨_, rfl, fun h => h⟩, ?_⟩
  refine List.forall_mem_cons.mpr ⟨⟨_, rfl, fun h => h⟩, ?_⟩
  refine List.forall_mem_cons.mpr ⟨⟨_, rfl, fun h => h⟩, ?_⟩
  refine List.forall_mem_cons.mpr ⟨⟨_, rfl, fun h => h⟩, ?_⟩
  refine List.forall_mem_cons.mpr ⟨⟨_, rfl, fun h => h⟩, ?_⟩
  refine List.forall_mem_cons.mpr ⟨⟨_, rfl, fun h => h⟩, ?_⟩
  refine List.forall_mem_cons.mpr ⟨⟨_, rfl, fun h => h⟩, ?_⟩
  refine List.forall_mem_cons.mpr ⟨⟨_, rfl, fun h => h⟩, ?_⟩
  refine List.forall_mem_cons.mpr ⟨⟨_, rfl, fun h => h⟩, ?_⟩
  refine List.forall_mem_cons.mpr ⟨⟨_, rfl, fun h => h⟩, ?_⟩
  refine List.forall_mem_cons.mpr ⟨⟨_, rfl, fun h => h⟩, ?_⟩
  refine List.forall_mem_cons.mpr ⟨⟨_, rfl, fun h => h⟩, ?_⟩
  refine List.forall_mem_cons.mpr ⟨⟨_, rfl, fun h => h⟩, ?_⟩
  refine List.forall_mem_cons.mpr ⟨⟨_, rfl, fun h => h⟩, ?_⟩
  refine List.forall_mem_cons.mpr ⟨⟨_, rfl, fun h => h⟩, ?_⟩
  refine List.forall_mem_cons.mpr ⟨⟨_, rfl, fun h => h⟩, ?_⟩
  refine List.forall_mem_cons.mpr ⟨⟨_, rfl, fun h => h⟩, ?_⟩
  refine List.forall_mem_cons.mpr ⟨⟨_, rfl, fun h => h⟩, ?_⟩
  refine List.forall_mem_cons.mpr ⟨⟨_, rfl, fun h => h⟩, ?_⟩
  refine List.forall_mem_cons.mpr ⟨⟨_, rfl, fun h => h⟩, ?_⟩
  refine List.forall_mem_cons.mpr ⟨⟨_, rfl, fun h => h⟩, ?_⟩
  refine List.forall_mem_cons.mpr ⟨⟨_, rfl, fun h => h⟩, ?_⟩
  refine List.forall_mem_cons.mpr ⟨⟨_, rfl, fun h => h⟩, ?_⟩
  refine List.forall_mem_cons.mpr ⟨⟨_, rfl, fun h => h⟩, ?_⟩
  refine List.forall_mem_cons.mpr ⟨⟨_, rfl, fun h => h⟩, ?_⟩
  refine List.forall_mem_cons.mpr ⟨⟨_, rfl, fun h => h⟩, ?_⟩
  refine List.forall_mem_cons.mpr ⟨⟨_, rfl, fun h => h⟩, ?_⟩
  refine List.forall_mem_cons.mpr ⟨⟨_, rfl, fun h => h⟩, ?_⟩
  refine List.forall_mem_cons.mpr ⟨⟨_, rfl, fun h => h⟩, ?_⟩
  refine List.forall_mem_cons.mpr ⟨⟨_, rfl, fun h => h⟩, ?_⟩
  refine List.forall_mem_cons.mpr ⟨⟨_, rfl, fun h => h⟩, ?_⟩
  refine List.forall_mem_cons.mpr ⟨⟨_, rfl, fun h => h⟩, ?_⟩
  refine List.forall_mem_cons.mpr ⟨⟨_, rfl, fun h => h⟩, ?_⟩
  refine List.forall_mem_cons.mpr ⟨⟨_, rfl, fun h => h⟩, ?_⟩
  refine List.forall_mem_cons.mpr ⟨⟨_, rfl, fun h => h⟩, ?_⟩
  refine List.forall_mem_cons.mpr ⟨⟨_, rfl, fun h => h⟩, ?_⟩
  refine List.forall_mem_cons.mpr ⟨⟨_, rfl, fun h => h⟩, ?_⟩
  refine List.forall_mem_cons.mpr ⟨⟨_, rfl, fun h => h⟩, ?_⟩
  refine List.forall_mem_cons.mpr ⟨⟨_, rfl, fun h => h⟩, ?_⟩
  refine List.forall_mem_cons.mpr ⟨⟨_, rfl, fun h => h⟩, ?_⟩
  refine List.forall_mem_cons.mpr ⟨⟨_, rfl, fun h => h⟩, ?_⟩
  refine List.forall_mem_cons.mpr ⟨⟨_, rfl, fun h => h⟩, ?_⟩
  refine List.forall_mem_cons.mpr ⟨⟨_, rfl, fun h => h⟩, ?_⟩
  refine List.forall_mem_cons.mpr ⟨⟨_, rfl, fun h => h⟩, ?_⟩
  refine List.forall_mem_cons.mpr ⟨⟨_, rfl, fun h => h⟩, ?_⟩
  refine List.forall_mem_cons.mpr ⟨⟨_, rfl, fun h => h⟩, ?_⟩
  refine List.forall_mem_cons.mpr ⟨⟨_, rfl, fun h => h⟩, ?_⟩
  refine List.forall_mem_cons.mpr ⟨⟨_, rfl, fun h => h⟩, ?_⟩
  refine List.forall_mem_cons.mpr ⟨⟨_, rfl, fun h => h⟩, ?_⟩
  refine List.forall_mem_cons.mpr ⟨⟨_, rfl, fun h => h⟩, ?_⟩
  refine List.forall_mem_cons.mpr ⟨⟨_, rfl, fun h => h⟩, ?_⟩
  refine List.forall_mem_cons.mpr ⟨⟨_, rfl, fun h => h⟩, ?_⟩
  refine List.forall_mem_cons.mpr ⟨⟨_, rfl, fun h => h⟩, ?_⟩
  refine List.forall_mem_cons.mpr ⟨⟨_, rfl, fun h => h⟩, ?_⟩
  refine List.forall_mem_cons.mpr ⟨⟨_, rfl, fun h => h⟩, ?_⟩
  refine List.forall_mem_cons.mpr ⟨⟨_, rfl, fun h => h⟩, ?_⟩
  refine List.forall_mem_cons.mpr ⟨⟨_, rfl, fun h => h⟩, ?_⟩
  refine List.forall_mem_cons.mpr ⟨⟨_, rfl, fun h => h⟩, ?_⟩
  refine List.forall_mem_cons.mpr ⟨⟨_, rfl, fun h => h⟩, ?_⟩
  refine List.forall_mem_cons.mpr ⟨⟨_, rfl, fun h => h⟩, ?_⟩
  refine List.forall_mem_cons.mpr ⟨⟨_, rfl, fun h => h⟩, ?_⟩
  refine List.forall_mem_cons.mpr ⟨⟨_, rfl, fun h => at_refs h (fun j hj => match j, hj with | 0, _ => X3 | 1, _ => X4 | 2, _ => X5 | 3, _ => X6 | 4, _ => X7 | 5, _ => X8 | 6, _ => X9 | 7, _ => X10 | j + 8, hj => absurd hj (by omega))⟩, ?_⟩
  refine List.forall_mem_cons.mpr ⟨⟨_, rfl, fun h => at_refs h (fun j hj => match j, hj with | 0, _ => X16 | 1, _ => X17 | 2, _ => X18 | 3, _ => X19 | 4, _ => X20 | 5, _ => X21 | 6, _ => X22 | 7, _ => X23 | j + 8, hj => absurd hj (by omega))⟩, ?_⟩
  refine List.forall_mem_cons.mpr ⟨⟨_, rfl, fun h => at_refs h (fun j hj => match j, hj with | 0, _ => X29 | 1, _ => X30 | 2, _ => X31 | 3, _ => X32 | 4, _ => X33 | 5, _ => X34 | 6, _ => X35 | 7, _ => X36 | j + 8, hj => absurd hj (by omega))⟩, ?_⟩
  refine List.forall_mem_cons.mpr ⟨⟨_, rfl, fun h => at_refs h (fun j hj => match j, hj with | 0, _ => X39 | 1, _ => X40 | 2, _ => X41 | 3, _ => X42 | j + 4, hj => absurd hj (by omega))⟩, ?_⟩
  refine List.forall_mem_cons.mpr ⟨⟨_, rfl, fun h => h⟩, ?_⟩
  refine List.forall_mem_cons.mpr ⟨⟨_, rfl, fun h => h⟩, ?_⟩
  refine List.forall_mem_cons.mpr ⟨⟨_, rfl, fun h => h⟩, ?_⟩
  refine List.forall_mem_cons.mpr ⟨⟨_, rfl, fun h => h⟩, ?_⟩
  refine List.forall_mem_cons.mpr ⟨⟨_, rfl, fun h => h⟩, ?_⟩
  refine List.forall_mem_cons.mpr ⟨⟨_, rfl, fun h => h⟩, ?_⟩
  refine List.forall_mem_cons.mpr ⟨⟨_, rfl, fun h => h⟩, ?_⟩
  refine List.forall_mem_cons.mpr ⟨⟨_, rfl, fun h => h⟩, ?_⟩
  refine List.forall_mem_cons.mpr ⟨⟨_, rfl, fun h => at_refs h (fun j hj => match j, hj with | 0, _ => X44 | 1, _ => X45 | 2, _ => X46 | j + 3, hj => absurd hj (by omega))⟩, ?_⟩
  refine List.forall_mem_cons.mpr ⟨⟨_, rfl, fun h => h⟩, ?_⟩
  refine List.forall_mem_cons.mpr ⟨⟨_, rfl, fun h => h⟩, ?_⟩
  refine List.forall_mem_cons.mpr ⟨⟨_, rfl, fun h => h⟩, ?_⟩
  refine List.forall_mem_cons.mpr ⟨⟨_, rfl, fun h => h⟩, ?_⟩
  refine List.forall_mem_cons.mpr ⟨⟨_, rfl, fun h => h⟩, ?_⟩
  refine List.forall_mem_cons.mpr ⟨⟨_, rfl, fun h => h⟩, ?_⟩
  refine List.forall_mem_cons.mpr ⟨⟨_, rfl, fun h => h⟩, ?_⟩
  refine List.forall_mem_cons.mpr ⟨⟨_, rfl, fun h => h⟩, ?_⟩
  refine List.forall_mem_cons.mpr ⟨⟨_, rfl, fun h => h⟩, ?_⟩
  refine List.forall_mem_cons.mpr ⟨⟨_, rfl, fun h => h⟩, ?_⟩
  refine List.forall_mem_cons.mpr ⟨⟨_, rfl, fun h => h⟩, ?_⟩
  refine List.forall_mem_cons.mpr ⟨⟨_, rfl, fun h => h⟩, ?_⟩
  refine List.forall_mem_cons.mpr ⟨⟨_, rfl, fun h => h⟩, ?_⟩
  exact fun c hc => absurd hc (List.not_mem_nil)
theorem start_I (fo0 fo1 fo2 fl0 fl1 fl2 : Nat → Int32) : Inv (Mz0 fo0 fo1 fo2 fl0 fl1 fl2) := by
  rintro ⟨r, b, w⟩ k
  unfold IN
  dsimp only
  split
  · intro hk; subst hk; show 0 ≤ (0 : Int32).toInt ∧ (0 : Int32).toInt ≤ 24; decide
  · intro hk; subst hk; show 0 ≤ (0 : Int32).toInt ∧ (0 : Int32).toInt ≤ 1; decide
  · intro hk; subst hk; show 0 ≤ (0 : Int32).toInt ∧ (0 : Int32).toInt ≤ 1; decide
  · intro hk; subst hk; show 0 ≤ (0 : Int32).toInt ∧ (0 : Int32).toInt ≤ 1; decide
  · trivial
theorem nw0_at (k : Nat) : (k = 6 ∧ nw0 k = 5) ∨ (k = 7 ∧ nw0 k = 9) ∨ ((9 ≤ k ∧ k ≤ 13) ∧ nw0 k = 50) ∨ nw0 k = 0 := by
  unfold nw0 upd
  by_cases h13 : k = 13
  · subst h13; right; right; left; exact ⟨by omega, rfl⟩
  · rw [if_neg h13]
    by_cases h12 : k = 12
    · subst h12; right; right; left; exact ⟨by omega, rfl⟩
    · rw [if_neg h12]
      by_cases h11 : k = 11
      · subst h11; right; right; left; exact ⟨by omega, rfl⟩
      · rw [if_neg h11]
        by_cases h10 : k = 10
        · subst h10; right; right; left; exact ⟨by omega, rfl⟩
        · rw [if_neg h10]
          by_cases h9 : k = 9
          · subst h9; right; right; left; exact ⟨by omega, rfl⟩
          · rw [if_neg h9]
            by_cases h7 : k = 7
            · subst h7; right; left; exact ⟨rfl, rfl⟩
            · rw [if_neg h7]
              by_cases h6 : k = 6
              · subst h6; left; exact ⟨rfl, rfl⟩
              · rw [if_neg h6]; right; right; right; rfl
theorem NW5_0 : NW5 (fun _ => 0) := ⟨fun k => by
  have h : (0 : Int32).toInt = 0 := rfl
  show PN k 0
  unfold PN
  omega, fun u _ => ⟨0, 0, by omega, rfl, rfl⟩⟩
theorem NW5_nw0 : NW5 (fun k => nw0 k) := by
  refine ⟨fun k => ?_, fun u hu => ⟨0, 0, by omega, ?_, rfl⟩⟩
  · show PN k (nw0 k)
    have h0 : (0 : Int32).toInt = 0 := rfl
    have h5 : (5 : Int32).toInt = 5 := rfl
    have h9 : (9 : Int32).toInt = 9 := rfl
    have h50 : (50 : Int32).toInt = 50 := rfl
    unfold PN
    rcases nw0_at k with ⟨h, e⟩ | ⟨h, e⟩ | ⟨h, e⟩ | e
    all_goals (rw [e]; omega)
  · show (nw0 (345 + 50 * u)).toInt = 0
    rcases nw0_at (345 + 50 * u) with ⟨h, e⟩ | ⟨h, e⟩ | ⟨h, e⟩ | e
    · omega
    · omega
    · omega
    · rw [e]; rfl
theorem start_D (fo0 fo1 fo2 fl0 fl1 fl2 : Nat → Int32) : InvD (Mz0 fo0 fo1 fo2 fl0 fl1 fl2) := by
  refine ⟨?_, NW5_nw0, NW5_0, NW5_0⟩
  rintro ⟨r, b, w⟩ k
  unfold IND
  dsimp only
  split
  · show IN12 k (if k = 7 then -1 else 0)
    unfold IN12
    split <;> first | trivial | (show _ ≤ (0 : Int32).toInt ∧ (0 : Int32).toInt ≤ _; decide)
  · intro hk
    show ea0 k = EAq.getD k 0
    have h : ∀ k, k < 8 → ea0 k = EAq.getD k 0 := by decide +kernel
    exact h k hk
  · intro hk
    show so0 k = SOq.getD k 0
    have h : ∀ k, k < 8 → so0 k = SOq.getD k 0 := by decide +kernel
    exact h k hk
  · show 0 ≤ (0 : Int32).toInt ∧ (0 : Int32).toInt ≤ 24; decide
  · trivial
end
section
/-! at the start both hold the same -/
theorem start_R (fo0 fo1 fo2 fl0 fl1 fl2 : Nat → Int32) (h0 : ∀ j, j < 5 → fl0 j = 50) : RXz (Mz0 fo0 fo1 fo2 fl0 fl1 fl2).1 := by
  rintro ⟨r, b, w⟩ k ⟨r2, b2, w2⟩ j p g
  unfold PRz at p
  dsimp only at p g
  have hb1 : ¬ b = 1 := fun q => g q (by show (if (3 : Nat) = 7 then (-1 : Int32) else 0).toInt = 0; decide)
  rcases p with ⟨p0, p1, p2, p3, p⟩ | p | p
  · obtain rfl : b = 0 := by omega
    obtain rfl : r2 = 50 := by omega
    subst p2 p3
    rcases p with p | p | p | p | p | p
    · obtain ⟨rfl, rfl, rfl, rfl⟩ := p; show (0 : Int32) = nw0 0; decide
    · obtain ⟨rfl, rfl, rfl, rfl⟩ := p; show (0 : Int32) = nw0 3; decide
    · obtain ⟨rfl, hw, rfl, rfl⟩ := p
      obtain rfl | rfl : w = 0 ∨ w = 1 := by omega
      · show (0 : Int32) = nw0 4; decide
      · show (0 : Int32) = nw0 5; decide
    · obtain ⟨rfl, rfl, hk, rfl⟩ := p
      obtain rfl | rfl | rfl : k = 0 ∨ k = 1 ∨ k = 2 := by omega
      · show ([5, 9, 0] : List Int32).getD 0 0 = nw0 6; decide
      · show ([5, 9, 0] : List Int32).getD 1 0 = nw0 7; decide
      · show ([5, 9, 0] : List Int32).getD 2 0 = nw0 8; decide
    · obtain ⟨rfl, rfl, hk, rfl⟩ := p
      show fl0 k = nw0 (9 + k)
      rw [h0 k hk]
      obtain rfl | rfl | rfl | rfl | rfl : k = 0 ∨ k = 1 ∨ k = 2 ∨ k = 3 ∨ k = 4 := by omega
      all_goals decide
    · obtain ⟨rfl, rfl, hk, rfl⟩ := p
      show (0 : Int32) = nw0 (14 + k)
      obtain rfl | rfl | rfl | rfl | rfl : k = 0 ∨ k = 1 ∨ k = 2 ∨ k = 3 ∨ k = 4 := by omega
      all_goals decide
  · obtain ⟨rfl, rfl, rfl, rfl, rfl, rfl, rfl, rfl⟩ := p
    show (0 : Int32) = (if (3 : Nat) = 7 then (-1 : Int32) else 0)
    decide
  · obtain ⟨rfl, rfl, hw, rfl, rfl, rfl, p⟩ := p
    rcases p with ⟨rfl, rfl⟩ | ⟨rfl, rfl⟩ <;> rfl
end
section
/-! at the start the full relation holds -/
theorem nw0_z {j : Nat} (h : ¬ (6 ≤ j ∧ j ≤ 13)) : nw0 j = 0 := by
  unfold nw0 upd
  rw [if_neg (by omega), if_neg (by omega), if_neg (by omega), if_neg (by omega), if_neg (by omega), if_neg (by omega), if_neg (by omega)]
theorem start_RY (fo0 fo1 fo2 fl0 fl1 fl2 : Nat → Int32) (h0 : ∀ j, j < 5 → fl0 j = 50) (ho : ∀ j, j < 192 → fo0 j = -1) : RY (Mz0 fo0 fo1 fo2 fl0 fl1 fl2).1 := by
  have hx := start_R fo0 fo1 fo2 fl0 fl1 fl2 h0
  have q0 := il_0
  have im := il_m1
  have e50 : ∀ k, (Mz0 fo0 fo1 fo2 fl0 fl1 fl2).1 (50, 0, 0) k = nw0 k := fun _ => rfl
  have z : ∀ j, ¬ (6 ≤ j ∧ j ≤ 13) → ((Mz0 fo0 fo1 fo2 fl0 fl1 fl2).1 (50, 0, 0) j).toInt = 0 := fun j h => by rw [e50, nw0_z h]; exact q0
  have nt : nTh ((Mz0 fo0 fo1 fo2 fl0 fl1 fl2).1 (50, 0, 0)) = 0 := z 1 (by omega)
  have nw : nWa ((Mz0 fo0 fo1 fo2 fl0 fl1 fl2).1 (50, 0, 0)) = 0 := z 2 (by omega)
  have r0 : ∀ j, ¬ (6 ≤ j ∧ j ≤ 13) → (Mz0 fo0 fo1 fo2 fl0 fl1 fl2).1 (50, 0, 0) j = 0 := fun j h => by rw [e50, nw0_z h]
  refine ⟨hx, im, ⟨⟨LWR_rx hx, ⟨?_, fun t ht => by omega⟩, ⟨?_, fun w hw => by omega⟩, fun u hu => ⟨?_, fun i hi => ?_⟩, ⟨fun t ht => by omega, fun w hw => by omega, fun c hc => Or.inl ?_⟩, fun w hw => by omega, fun t ht => by omega, fun w h1 h2 => ⟨fun k hk => r0 _ (by omega), fun c hc => r0 _ (by omega)⟩⟩, fun l hl => ?_, fun i hi => ?_, fun i hi => ?_⟩, fun h => ?_, fun w hw => ⟨rfl, rfl, fun i hi => ?_⟩⟩
  · exact (r0 1 (by omega)).symm
  · exact (r0 2 (by omega)).symm
  · exact (r0 _ (by omega)).symm
  · have := z (345 + 50 * u) (by omega)
    omega
  · show (fo0 c).toInt = -1
    rw [ho c hc]; exact im
  · have := z 3 (by omega)
    omega
  · have := z 4 (by omega)
    omega
  · have := z 5 (by omega)
    omega
  · exact absurd q0 h
  · have e : ((Mz0 fo0 fo1 fo2 fl0 fl1 fl2).1 (67, 0, 0) w).toInt = 0 := q0
    omega
end
section
/-! words of the tables that are used, by their places; decode rows; classes -/
set_option maxRecDepth 20000 in
theorem m_101 : Cond.classLink RL 7 RX11 ∈ BASE := bmT1 23 rfl rfl
set_option maxRecDepth 20000 in
theorem m_103 : Cond.methodLink RL 9 yX11_init ∈ BASE := bmT1 25 rfl rfl
set_option maxRecDepth 20000 in
theorem m_104 : Cond.instanceMethod yX11_init ∈ BASE := bmT1 26 rfl rfl
set_option maxRecDepth 20000 in
theorem m_105 : Cond.code yX11_init cX11_init 2 none ∈ BASE := bmT1 27 rfl rfl
set_option maxRecDepth 20000 in
theorem m_1312 : Cond.classLink RL 10 RX12 ∈ BASE := bmT6 34 rfl rfl
set_option maxRecDepth 20000 in
theorem m_1314 : Cond.methodLink RL 12 yX12_init ∈ BASE := bmT6 36 rfl rfl
set_option maxRecDepth 20000 in
theorem m_1315 : Cond.instanceMethod yX12_init ∈ BASE := bmT6 37 rfl rfl
set_option maxRecDepth 20000 in
theorem m_1316 : Cond.code yX12_init cX12_init 2 none ∈ BASE := bmT6 38 rfl rfl
theorem kI_X11_init : KI yX11_init cX11_init 2 0 := ⟨m_104, rfl, m_79, m_105, nhM_0, nhV_0, pdn_30⟩
theorem kI_X12_init : KI yX12_init cX12_init 2 0 := ⟨m_1315, rfl, m_92, m_1316, nhM_17, nhV_17, pdn_30⟩
/-! decode rows -/
theorem dL_law_0 : decode code 0 = .ok (.new 7, 3) := by decide +kernel
theorem dL_law_3 : decode code 3 = .ok (.dup, 1) := by decide +kernel
theorem dL_law_4 : decode code 4 = .ok (.invokespecial 9, 3) := by decide +kernel
theorem dL_law_7 : decode code 7 = .ok (.astore_n 1, 1) := by decide +kernel
theorem dL_law_8 : decode code 8 = .ok (.new 10, 3) := by decide +kernel
theorem dL_law_11 : decode code 11 = .ok (.dup, 1) := by decide +kernel
theorem dL_law_12 : decode code 12 = .ok (.invokespecial 12, 3) := by decide +kernel
theorem dL_law_15 : decode code 15 = .ok (.astore_n 2, 1) := by decide +kernel
theorem dL_law_16 : decode code 16 = .ok (.iconst 0, 1) := by decide +kernel
theorem dL_law_17 : decode code 17 = .ok (.istore_n 3, 1) := by decide +kernel
theorem dL_law_1737 : decode code 1737 = .ok (.iconst 1, 1) := by decide +kernel
theorem dL_law_1738 : decode code 1738 = .ok (.ireturn, 1) := by decide +kernel
end
