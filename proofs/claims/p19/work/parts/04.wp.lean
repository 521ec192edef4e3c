/-! the general base: statics and constant Strings are heap facts outside the world -/
abbrev STs : List (String × String × List Int32) := [(RX9, "REACHES", [3, 12, 1, 6, 0, 6, 5, 10]), (RX9, "SPEEDS", [1, 1, 1, 1, 1, 1, 1, 2]), (RX9, "HEARS_TO", [9, 9, 9, 9, 9, 9, 5, 9]), (RX9, "ABOVE", [-1, 0, 0, 0, 0, 1, 3, 1]), (RX7, "EAST", [0, 1, 1, 1, 0, -1, -1, -1]), (RX7, "SOUTH", [-1, -1, 0, 1, 1, 1, 0, -1]), (RX8, "BODIES", [10, 11, 12, 13, 20, 0, 0, 21, 0, 30, 0, 0, 40, 0, 41, 0, 0, 0, 50, 0, 0, 60, 0, 0, 0, 70, 71, 0, 0, 0, 0, 80])]
abbrev SBs : List (List Int32) := [[], [108, 111, 121, 112], [115, 110, 116], [102, 108, 114, 98, 116], [108, 111, 121, 112], [115, 110, 116], [102, 108, 114, 98, 116]]
def NW (ws : va_W) : Nat → Prop := fun q => ∃ (k : Nat) (e : va_E), ws[k]? = some (q, e)
def STAT (sa sk : Nat → Nat) (B : Nat → Prop) (U : State) (H : Heap) : Prop :=
  (∀ (k : Nat) (q : String × String × List Int32), STs[k]? = some q → va_Z q.1 q.2.1 "[I" (.ref (sa k)) B U H ∧ va_T .int (sa k) q.2.2.length (fun j => .int (q.2.2.getD j 0)) B U H) ∧ va_Z "java/lang/String" "COMPACT_STRINGS" "Z" (.int 1) B U H ∧
  (∀ (k : Nat) (l : List Int32), SBs[k]? = some l → va_O "java/lang/String" (sk k) B U H ∧ va_OF "java/lang/String" "coder" "B" (.int 0) (sk k) B U H ∧ va_OF "java/lang/String" "value" "[B" (.ref (sa (10 + k))) (sk k) B U H ∧ va_T .byte (sa (10 + k)) l.length (fun j => .int (l.getD j 0)) B U H) ∧
  va_Zq "jdk/internal/util/Preconditions" "SIOOBE_FORMATTER" "Ljava/util/function/BiFunction;" B U H
theorem STAT.moved {sa sk : Nat → Nat} {B : Nat → Prop} {u U : State} {H : Heap} (hvm : u.vm.Alike U.vm) (h : STAT sa sk B u H) : STAT sa sk B U H :=
  ⟨fun k q hq => ⟨(h.1 k q hq).1.moved hvm, (h.1 k q hq).2.moved hvm⟩, h.2.1.moved hvm, fun k l hl => ⟨(h.2.2.1 k l hl).1.moved hvm, (h.2.2.1 k l hl).2.1.moved hvm, (h.2.2.1 k l hl).2.2.1.moved hvm, (h.2.2.1 k l hl).2.2.2.moved hvm⟩, h.2.2.2.moved hvm⟩
theorem STAT.kept {sa sk : Nat → Nat} {B : Nat → Prop} {U : State} {H H1 : Heap} (h : STAT sa sk B U H) (hq : ∀ a : Nat, a < H.size → ¬ B a → H1[a]? = H[a]?) : STAT sa sk B U H1 :=
  ⟨fun k q hk => ⟨(h.1 k q hk).1.kept hq, (h.1 k q hk).2.kept hq⟩, h.2.1.kept hq, fun k l hl => ⟨(h.2.2.1 k l hl).1.kept hq, (h.2.2.1 k l hl).2.1.kept hq, (h.2.2.1 k l hl).2.2.1.kept hq, (h.2.2.1 k l hl).2.2.2.kept hq⟩, h.2.2.2.kept hq⟩
theorem STAT.narrow {sa sk : Nat → Nat} {A B : Nat → Prop} {U : State} {H : Heap} (h : STAT sa sk A U H) (hAB : ∀ q, B q → A q) : STAT sa sk B U H :=
  ⟨fun k q hk => ⟨(h.1 k q hk).1.narrow hAB, (h.1 k q hk).2.narrow hAB⟩, h.2.1.narrow hAB, fun k l hl => ⟨(h.2.2.1 k l hl).1.narrow hAB, (h.2.2.1 k l hl).2.1.narrow hAB, (h.2.2.1 k l hl).2.2.1.narrow hAB, (h.2.2.1 k l hl).2.2.2.narrow hAB⟩, h.2.2.2.narrow hAB⟩
theorem nA_up {ws : va_W} {H : Heap} {a : Nat} {cell : Cell} (h : H[a]? = some cell) (hn : ¬ NW ws a) : ¬ va_A ws H.size a := fun q => q.elim hn (fun z => absurd (Array.getElem?_eq_some_iff.mp h).1 (Nat.not_lt.mpr z))
theorem STAT.up {sa sk : Nat → Nat} {ws : va_W} {U : State} {H : Heap} (h : STAT sa sk (NW ws) U H) : STAT sa sk (va_A ws H.size) U H := by
  have hZ : ∀ {C n d : String} {v : Value}, va_Z C n d v (NW ws) U H → va_Z C n d v (va_A ws H.size) U H := fun ⟨cf, kf, fi, f, a, ce, h1, h2, h3, h4, h5, h6, h7, h8⟩ => ⟨cf, kf, fi, f, a, ce, h1, h2, h3, h4, h5, h6, h7, nA_up h5 h8⟩
  have hT : ∀ {ty : FieldType} {t N : Nat} {f : Nat → Value}, va_T ty t N f (NW ws) U H → va_T ty t N f (va_A ws H.size) U H := fun ⟨ce, h1, h2, h3, h4, h5, h6, h7⟩ => ⟨ce, h1, h2, h3, h4, h5, h6, nA_up h1 h7⟩
  have hO : ∀ {E : String} {t : Nat}, va_O E t (NW ws) U H → va_O E t (va_A ws H.size) U H := fun ⟨ce, h1, h2, h3, h4⟩ => ⟨ce, h1, h2, h3, nA_up h1 h4⟩
  have hF : ∀ {o n d : String} {v : Value} {t : Nat}, va_OF o n d v t (NW ws) U H → va_OF o n d v t (va_A ws H.size) U H := fun ⟨cf, k, i, f, ce, h1, h2, h3, h4, h5, h6⟩ => ⟨cf, k, i, f, ce, h1, h2, h3, h4, h5, nA_up h3 h6⟩
  exact ⟨fun k q hk => ⟨hZ (h.1 k q hk).1, hT (h.1 k q hk).2⟩, hZ h.2.1, fun k l hl => ⟨hO (h.2.2.1 k l hl).1, hF (h.2.2.1 k l hl).2.1, hF (h.2.2.1 k l hl).2.2.1, hT (h.2.2.1 k l hl).2.2.2⟩, h.2.2.2.elim (fun q => Or.inl (hZ q)) (fun ⟨t, q⟩ => Or.inr ⟨t, hZ q⟩)⟩
def PG (G : va_G) (cy : Nat → ClassId) (sk sa : Nat → Nat) (sz : Nat) (ws : va_W) (U : State) : Prop := PR G cy sk sz ws U ∧ STAT sa sk (NW ws) U U.heap
theorem PG_blind {av : List Value} {G : va_G} {cy : Nat → ClassId} {sk sa : Nat → Nat} {sz : Nat} {ws : va_W} : FrameBlind (va_Pc av (PG G cy sk sa sz ws)) := fun a U g mk h => ⟨h.1, ⟨h.2.1.1, h.2.1.2.1, EN.same (u := U) (U := U.calling g mk a) rfl h.2.1.2.2.1, h.2.1.2.2.2⟩, STAT.moved (u := U) (U := U.calling g mk a) (Vm.Alike.refl U.vm) h.2.2⟩
theorem PG_of {av : List Value} {G : va_G} {cy : Nat → ClassId} {sk sa : Nat → Nat} {H : Heap} {ws : va_W} {A : Nat → Prop} {s : State} {locs : List Loc} (hS : va_S A s.heap H locs) (hT : STAT sa sk A s s.heap) (hP : va_P G classes ws H) (hD : va_D A ws) (hE : EN G cy sk s) : ∀ U : State, U.heap = H → s.WarmedH U.vm → va_Pc av (PG G cy sk sa H.size ws) av.toArray U :=
  fun U hU hW => ⟨rfl, ⟨by rw [hU], by rw [hU]; exact hP, hE.warm hW, hD.weaken (fun _ _ _ _ => trivial)⟩, by rw [hU]; exact ((hT.kept hS.2.1).narrow (fun q ⟨k, e, h⟩ => hD.2 k _ h)).moved hW.alike⟩
theorem D_nw {ws : va_W} {A : Nat → Prop} (h : va_D A ws) : va_D (NW ws) ws := ⟨h.1, fun k q hk => ⟨k, q.2, hk⟩⟩
/-! references by role, world and number; values; the memory -/
abbrev rf : Type := Nat × Nat × Nat
abbrev mV : Type := Int32 ⊕ Int64 ⊕ rf
abbrev mM : Type := (rf → Nat → Int32) × (Nat → Int64)
abbrev vI (x : Int32) : mV := .inl x
abbrev vL (x : Int64) : mV := .inr (.inl x)
abbrev vR (c : rf) : mV := .inr (.inr c)
def gv (ad : rf → Nat) (v : mV) : Value := match v with
  | .inl x => .int x
  | .inr (.inl x) => .long x
  | .inr (.inr c) => .ref (ad c)
def gl (ad : rf → Nat) (l : List (Nat × mV)) : List (Nat × Value) := l.map (fun q => (q.1, gv ad q.2))
def vc2 (v : mV) : Bool := match v with
  | .inr (.inl _) => true
  | _ => false
def lset (l : List (Nat × mV)) (i : Nat) (v : mV) : List (Nat × mV) := (i, v) :: l.filter (fun q => !(q.1 == i) && !(q.1 + 1 == i && vc2 q.2))
def lset2 (l : List (Nat × mV)) (i : Nat) (v : mV) : List (Nat × mV) := (i, v) :: l.filter (fun q => !(q.1 == i) && (!(q.1 == i + 1) && !(q.1 + 1 == i && vc2 q.2)))
theorem gv_cat (ad : rf → Nat) (v : mV) : ((gv ad v).category == 2) = vc2 v := by rcases v with x | x | x <;> rfl
theorem gl_lset (ad : rf → Nat) (l : List (Nat × mV)) (i : Nat) (v : mV) : (i, gv ad v) :: (gl ad l).filter (fun q => !(q.1 == i) && !(q.1 + 1 == i && q.2.category == 2)) = gl ad (lset l i v) := by
  unfold gl lset
  rw [List.map_cons, List.filter_map]
  congr 2
  refine List.filter_congr fun q _ => ?_
  simp only [Function.comp, gv_cat]
theorem gl_lset2 (ad : rf → Nat) (l : List (Nat × mV)) (i : Nat) (v : mV) : (i, gv ad v) :: (gl ad l).filter (fun q => !(q.1 == i) && (!(q.1 == i + 1) && !(q.1 + 1 == i && q.2.category == 2))) = gl ad (lset2 l i v) := by
  unfold gl lset2
  rw [List.map_cons, List.filter_map]
  congr 2
  refine List.filter_congr fun q _ => ?_
  simp only [Function.comp, gv_cat]
theorem gl_at {ad : rf → Nat} {l : List (Nat × mV)} {k i : Nat} {v : mV} (h : l[k]? = some (i, v)) : (gl ad l)[k]? = some (i, gv ad v) := by
  unfold gl
  rw [List.getElem?_map, h]; rfl
abbrev fR : Type := Nat → Nat → Int32 → mV
def oI : fR := fun _ _ x => vI x
def oS (r : Nat) : fR := fun b w _ => vR (r, b, w)
def oW (r w : Nat) : fR := fun b _ _ => vR (r, b, w)
def oC (c : rf) : fR := fun _ _ _ => vR c
def oD (t : List rf) : fR := fun _ _ x => vR (t.getD x.toNatClampNeg (0, 0, 0))
def rl (w : Nat) : Nat := ([48, 24, 7, 7, 30, 30, 0] : List Nat).getD w 0
def OB (r : Nat) : Option (Nat × List fR) := match r with
  | 0 => some (0, [oC (20, 0, 0), oC (21, 0, 0), oC (22, 0, 0), oC (23, 0, 0), oI, oI])
  | 1 => some (1, [oS 24, oS 25, oI])
  | 2 => some (2, [oI, oI, oI, oS 26, oS 27, oS 28, oS 29])
  | 3 => some (3, [oS 30, oS 31, oS 32, oI, oW 5 2, oW 5 3, oI, oI, oI])
  | 4 => some (4, [oC (1, 3, 0), oD [(5, 3, 6), (5, 0, 0)], oD [(91, 0, 0), (91, 1, 0), (91, 2, 0), (91, 3, 0)], oI, oI, oI, oI])
  | 5 => some (5, [oS 33, oI])
  | 6 => some (6, [oI, oI, oS 34])
  | 7 => some (7, [oS 35, oS 36, oS 37, oS 38, oS 39, oI])
  | 8 => some (8, [oC (5, 3, 4), oC (5, 3, 5), oI, oI, oI, oI])
  | 9 => some (9, [oI, oI, oI, oI, oI, oI, oI, oI, oI, oS 40, oS 41])
  | 10 => some (10, [oS 7, oS 2, oS 3, oW 5 0, oW 5 1, oS 42, oI, oI])
  | 11 => some (11, [oC (10, 0, 0), oC (10, 1, 0), oC (10, 2, 0), oC (43, 0, 0), oC (44, 0, 0), oC (4, 0, 0), oC (0, 0, 0), oC (8, 0, 0), oI])
  | 12 => some (12, [oC (50, 0, 0), oC (51, 0, 0), oC (52, 0, 0), oI, oC (53, 0, 0), oC (54, 0, 0), oC (55, 0, 0), oI, oC (56, 0, 0), oI, oI, oI, oI, oI, oI, oC (57, 0, 0), oC (58, 0, 0), oC (59, 0, 0), oC (60, 0, 0), oC (61, 0, 0), oC (62, 0, 0), oC (63, 0, 0), oI, oI, oC (64, 0, 0), oC (65, 0, 0), oI, oI, oI, oC (66, 0, 0), oC (67, 0, 0), oC (68, 0, 0), oC (69, 0, 0)])
  | _ => none
def AR (r : Nat) : Option (Nat × (Nat → Nat)) := match r with
  | 20 => some (0, fun _ => 192)
  | 21 => some (1, fun _ => 192)
  | 22 => some (2, fun _ => 24)
  | 23 => some (0, fun _ => 8)
  | 24 => some (0, fun _ => 48)
  | 25 => some (0, fun _ => 48)
  | 26 => some (0, fun _ => 5)
  | 27 => some (0, fun _ => 5)
  | 29 => some (0, fun _ => 5)
  | 30 => some (0, fun _ => 7)
  | 31 => some (0, fun _ => 7)
  | 32 => some (0, fun _ => 7)
  | 33 => some (0, rl)
  | 34 => some (0, fun _ => 24)
  | 35 => some (0, fun _ => 192)
  | 36 => some (0, fun _ => 40)
  | 37 => some (0, fun _ => 40)
  | 38 => some (0, fun _ => 40)
  | 39 => some (0, fun _ => 40)
  | 40 => some (0, fun _ => 192)
  | 41 => some (0, fun _ => 192)
  | 44 => some (0, fun _ => 7)
  | 50 => some (0, fun _ => 3567)
  | 51 => some (0, fun _ => 3567)
  | 52 => some (0, fun _ => 3567)
  | 53 => some (0, fun _ => 7)
  | 54 => some (0, fun _ => 8)
  | 55 => some (0, fun _ => 8)
  | 57 => some (0, fun _ => 49)
  | 58 => some (0, fun _ => 5)
  | 59 => some (0, fun _ => 49)
  | 60 => some (1, fun _ => 1536)
  | 61 => some (0, fun _ => 192)
  | 62 => some (0, fun _ => 7)
  | 63 => some (0, fun _ => 7)
  | 64 => some (0, fun _ => 8)
  | 65 => some (0, fun _ => 30)
  | 66 => some (0, fun _ => 4)
  | 67 => some (0, fun _ => 4)
  | 68 => some (0, fun _ => 96)
  | 69 => some (0, fun _ => 24)
  | _ => none
def RA (r : Nat) : Option (Nat × Nat × (Nat → Nat → rf)) := match r with
  | 28 => some (3, 3, fun b j => (1, b, j))
  | 42 => some (4, 8, fun b j => (9, b, j))
  | 43 => some (5, 4, fun _ j => (6, 0, j))
  | 56 => some (6, 3, fun _ j => (91, 4 + j, 0))
  | _ => none
def rg (q : Nat × Nat × Nat × Nat × Nat) : List rf := (List.range q.2.2.1).flatMap (fun i => (List.range q.2.2.2.2).map (fun j => (q.1, q.2.1 + i, q.2.2.2.1 + j)))
theorem rg_mem {q : Nat × Nat × Nat × Nat × Nat} {b w : Nat} (h1 : q.2.1 ≤ b) (h2 : b < q.2.1 + q.2.2.1) (h3 : q.2.2.2.1 ≤ w) (h4 : w < q.2.2.2.1 + q.2.2.2.2) : (q.1, b, w) ∈ rg q := by
  refine List.mem_flatMap.mpr ⟨b - q.2.1, List.mem_range.mpr (by omega), List.mem_map.mpr ⟨w - q.2.2.2.1, List.mem_range.mpr (by omega), ?_⟩⟩
  rw [show q.2.1 + (b - q.2.1) = b by omega, show q.2.2.2.1 + (w - q.2.2.2.1) = w by omega]
def TCC : List (Nat × Nat × Nat × Nat × Nat) := [(0, 0, 1, 0, 1), (1, 0, 3, 0, 3), (1, 3, 1, 0, 1), (2, 0, 3, 0, 1), (3, 0, 3, 0, 1), (4, 0, 1, 0, 1), (5, 0, 3, 0, 4), (5, 3, 1, 4, 3), (6, 0, 1, 0, 4), (7, 0, 3, 0, 1), (8, 0, 1, 0, 1), (9, 0, 3, 0, 8), (10, 0, 3, 0, 1), (11, 0, 1, 0, 1), (20, 0, 1, 0, 1), (21, 0, 1, 0, 1), (22, 0, 1, 0, 1), (23, 0, 1, 0, 1), (24, 0, 3, 0, 3), (24, 3, 1, 0, 1), (25, 0, 3, 0, 3), (25, 3, 1, 0, 1), (26, 0, 3, 0, 1), (27, 0, 3, 0, 1), (28, 0, 3, 0, 1), (29, 0, 3, 0, 1), (30, 0, 3, 0, 1), (31, 0, 3, 0, 1), (32, 0, 3, 0, 1), (33, 0, 3, 0, 4), (33, 3, 1, 4, 3), (34, 0, 1, 0, 4), (35, 0, 3, 0, 1), (36, 0, 3, 0, 1), (37, 0, 3, 0, 1), (38, 0, 3, 0, 1), (39, 0, 3, 0, 1), (40, 0, 3, 0, 8), (41, 0, 3, 0, 8), (42, 0, 3, 0, 1), (43, 0, 1, 0, 1), (44, 0, 1, 0, 1)]
def CC : List rf := TCC.flatMap rg
theorem CC_in (i : Nat) {q : Nat × Nat × Nat × Nat × Nat} (hq : TCC[i]? = some q) {b w : Nat} (h1 : q.2.1 ≤ b) (h2 : b < q.2.1 + q.2.2.1) (h3 : q.2.2.2.1 ≤ w) (h4 : w < q.2.2.2.1 + q.2.2.2.2) : (q.1, b, w) ∈ CC := List.mem_flatMap.mpr ⟨q, List.mem_of_getElem? hq, rg_mem h1 h2 h3 h4⟩
theorem CC_nd : CC.Nodup := by decide +kernel
theorem CC_22 : ∀ c ∈ CC, c.1 = 22 → c = (22, 0, 0) := by decide +kernel
def TDD : List (Nat × Nat × Nat × Nat × Nat) := [(12, 0, 1, 0, 1), (50, 0, 1, 0, 1), (51, 0, 1, 0, 1), (52, 0, 1, 0, 1), (53, 0, 1, 0, 1), (54, 0, 1, 0, 1), (55, 0, 1, 0, 1), (56, 0, 1, 0, 1), (57, 0, 1, 0, 1), (58, 0, 1, 0, 1), (59, 0, 1, 0, 1), (60, 0, 1, 0, 1), (61, 0, 1, 0, 1), (62, 0, 1, 0, 1), (63, 0, 1, 0, 1), (64, 0, 1, 0, 1), (65, 0, 1, 0, 1), (66, 0, 1, 0, 1), (67, 0, 1, 0, 1), (68, 0, 1, 0, 1), (69, 0, 1, 0, 1)]
def DD : List rf := TDD.flatMap rg
theorem DD_in (i : Nat) {q : Nat × Nat × Nat × Nat × Nat} (hq : TDD[i]? = some q) {b w : Nat} (h1 : q.2.1 ≤ b) (h2 : b < q.2.1 + q.2.2.1) (h3 : q.2.2.2.1 ≤ w) (h4 : w < q.2.2.2.1 + q.2.2.2.2) : (q.1, b, w) ∈ DD := List.mem_flatMap.mpr ⟨q, List.mem_of_getElem? hq, rg_mem h1 h2 h3 h4⟩
theorem DD_nd : DD.Nodup := by decide +kernel
theorem DD_22 : ∀ c ∈ DD, c.1 = 22 → c = (22, 0, 0) := by decide +kernel
def vF (b w : Nat) : Prop := (b < 3 ∧ w < 3) ∨ (b = 3 ∧ w = 0)
def vRw (b w : Nat) : Prop := (b < 3 ∧ w < 4) ∨ (b = 3 ∧ 4 ≤ w ∧ w < 7)
theorem ic_0 : ((0, 0, 0) : rf) ∈ CC := CC_in 0 (q := (0, 0, 1, 0, 1)) rfl (by dsimp only; omega) (by dsimp only; omega) (by dsimp only; omega) (by dsimp only; omega)
theorem ic_1 {b w : Nat} (h : vF b w) : ((1, b, w) : rf) ∈ CC := h.elim (fun h => CC_in 1 (q := (1, 0, 3, 0, 3)) rfl (by dsimp only; omega) (by dsimp only; omega) (by dsimp only; omega) (by dsimp only; omega)) (fun h => CC_in 2 (q := (1, 3, 1, 0, 1)) rfl (by dsimp only; omega) (by dsimp only; omega) (by dsimp only; omega) (by dsimp only; omega))
theorem ic_2 {b : Nat} (hb : b < 3) : ((2, b, 0) : rf) ∈ CC := CC_in 3 (q := (2, 0, 3, 0, 1)) rfl (by dsimp only; omega) (by dsimp only; omega) (by dsimp only; omega) (by dsimp only; omega)
theorem ic_3 {b : Nat} (hb : b < 3) : ((3, b, 0) : rf) ∈ CC := CC_in 4 (q := (3, 0, 3, 0, 1)) rfl (by dsimp only; omega) (by dsimp only; omega) (by dsimp only; omega) (by dsimp only; omega)
theorem ic_4 : ((4, 0, 0) : rf) ∈ CC := CC_in 5 (q := (4, 0, 1, 0, 1)) rfl (by dsimp only; omega) (by dsimp only; omega) (by dsimp only; omega) (by dsimp only; omega)
theorem ic_5 {b w : Nat} (h : vRw b w) : ((5, b, w) : rf) ∈ CC := h.elim (fun h => CC_in 6 (q := (5, 0, 3, 0, 4)) rfl (by dsimp only; omega) (by dsimp only; omega) (by dsimp only; omega) (by dsimp only; omega)) (fun h => CC_in 7 (q := (5, 3, 1, 4, 3)) rfl (by dsimp only; omega) (by dsimp only; omega) (by dsimp only; omega) (by dsimp only; omega))
theorem ic_6 {w : Nat} (hw : w < 4) : ((6, 0, w) : rf) ∈ CC := CC_in 8 (q := (6, 0, 1, 0, 4)) rfl (by dsimp only; omega) (by dsimp only; omega) (by dsimp only; omega) (by dsimp only; omega)
theorem ic_7 {b : Nat} (hb : b < 3) : ((7, b, 0) : rf) ∈ CC := CC_in 9 (q := (7, 0, 3, 0, 1)) rfl (by dsimp only; omega) (by dsimp only; omega) (by dsimp only; omega) (by dsimp only; omega)
theorem ic_8 : ((8, 0, 0) : rf) ∈ CC := CC_in 10 (q := (8, 0, 1, 0, 1)) rfl (by dsimp only; omega) (by dsimp only; omega) (by dsimp only; omega) (by dsimp only; omega)
theorem ic_9 {b w : Nat} (hb : b < 3) (hw : w < 8) : ((9, b, w) : rf) ∈ CC := CC_in 11 (q := (9, 0, 3, 0, 8)) rfl (by dsimp only; omega) (by dsimp only; omega) (by dsimp only; omega) (by dsimp only; omega)
theorem ic_10 {b : Nat} (hb : b < 3) : ((10, b, 0) : rf) ∈ CC := CC_in 12 (q := (10, 0, 3, 0, 1)) rfl (by dsimp only; omega) (by dsimp only; omega) (by dsimp only; omega) (by dsimp only; omega)
theorem ic_11 : ((11, 0, 0) : rf) ∈ CC := CC_in 13 (q := (11, 0, 1, 0, 1)) rfl (by dsimp only; omega) (by dsimp only; omega) (by dsimp only; omega) (by dsimp only; omega)
theorem ic_12 : ((12, 0, 0) : rf) ∈ DD := DD_in 0 (q := (12, 0, 1, 0, 1)) rfl (by dsimp only; omega) (by dsimp only; omega) (by dsimp only; omega) (by dsimp only; omega)
theorem ic_20 : ((20, 0, 0) : rf) ∈ CC := CC_in 14 (q := (20, 0, 1, 0, 1)) rfl (by dsimp only; omega) (by dsimp only; omega) (by dsimp only; omega) (by dsimp only; omega)
theorem ic_21 : ((21, 0, 0) : rf) ∈ CC := CC_in 15 (q := (21, 0, 1, 0, 1)) rfl (by dsimp only; omega) (by dsimp only; omega) (by dsimp only; omega) (by dsimp only; omega)
theorem ic_22 : ((22, 0, 0) : rf) ∈ CC := CC_in 16 (q := (22, 0, 1, 0, 1)) rfl (by dsimp only; omega) (by dsimp only; omega) (by dsimp only; omega) (by dsimp only; omega)
theorem ic_23 : ((23, 0, 0) : rf) ∈ CC := CC_in 17 (q := (23, 0, 1, 0, 1)) rfl (by dsimp only; omega) (by dsimp only; omega) (by dsimp only; omega) (by dsimp only; omega)
theorem ic_24 {b w : Nat} (h : vF b w) : ((24, b, w) : rf) ∈ CC := h.elim (fun h => CC_in 18 (q := (24, 0, 3, 0, 3)) rfl (by dsimp only; omega) (by dsimp only; omega) (by dsimp only; omega) (by dsimp only; omega)) (fun h => CC_in 19 (q := (24, 3, 1, 0, 1)) rfl (by dsimp only; omega) (by dsimp only; omega) (by dsimp only; omega) (by dsimp only; omega))
theorem ic_25 {b w : Nat} (h : vF b w) : ((25, b, w) : rf) ∈ CC := h.elim (fun h => CC_in 20 (q := (25, 0, 3, 0, 3)) rfl (by dsimp only; omega) (by dsimp only; omega) (by dsimp only; omega) (by dsimp only; omega)) (fun h => CC_in 21 (q := (25, 3, 1, 0, 1)) rfl (by dsimp only; omega) (by dsimp only; omega) (by dsimp only; omega) (by dsimp only; omega))
theorem ic_26 {b : Nat} (hb : b < 3) : ((26, b, 0) : rf) ∈ CC := CC_in 22 (q := (26, 0, 3, 0, 1)) rfl (by dsimp only; omega) (by dsimp only; omega) (by dsimp only; omega) (by dsimp only; omega)
theorem ic_27 {b : Nat} (hb : b < 3) : ((27, b, 0) : rf) ∈ CC := CC_in 23 (q := (27, 0, 3, 0, 1)) rfl (by dsimp only; omega) (by dsimp only; omega) (by dsimp only; omega) (by dsimp only; omega)
theorem ic_28 {b : Nat} (hb : b < 3) : ((28, b, 0) : rf) ∈ CC := CC_in 24 (q := (28, 0, 3, 0, 1)) rfl (by dsimp only; omega) (by dsimp only; omega) (by dsimp only; omega) (by dsimp only; omega)
theorem ic_29 {b : Nat} (hb : b < 3) : ((29, b, 0) : rf) ∈ CC := CC_in 25 (q := (29, 0, 3, 0, 1)) rfl (by dsimp only; omega) (by dsimp only; omega) (by dsimp only; omega) (by dsimp only; omega)
theorem ic_30 {b : Nat} (hb : b < 3) : ((30, b, 0) : rf) ∈ CC := CC_in 26 (q := (30, 0, 3, 0, 1)) rfl (by dsimp only; omega) (by dsimp only; omega) (by dsimp only; omega) (by dsimp only; omega)
theorem ic_31 {b : Nat} (hb : b < 3) : ((31, b, 0) : rf) ∈ CC := CC_in 27 (q := (31, 0, 3, 0, 1)) rfl (by dsimp only; omega) (by dsimp only; omega) (by dsimp only; omega) (by dsimp only; omega)
theorem ic_32 {b : Nat} (hb : b < 3) : ((32, b, 0) : rf) ∈ CC := CC_in 28 (q := (32, 0, 3, 0, 1)) rfl (by dsimp only; omega) (by dsimp only; omega) (by dsimp only; omega) (by dsimp only; omega)
theorem ic_33 {b w : Nat} (h : vRw b w) : ((33, b, w) : rf) ∈ CC := h.elim (fun h => CC_in 29 (q := (33, 0, 3, 0, 4)) rfl (by dsimp only; omega) (by dsimp only; omega) (by dsimp only; omega) (by dsimp only; omega)) (fun h => CC_in 30 (q := (33, 3, 1, 4, 3)) rfl (by dsimp only; omega) (by dsimp only; omega) (by dsimp only; omega) (by dsimp only; omega))
theorem ic_34 {w : Nat} (hw : w < 4) : ((34, 0, w) : rf) ∈ CC := CC_in 31 (q := (34, 0, 1, 0, 4)) rfl (by dsimp only; omega) (by dsimp only; omega) (by dsimp only; omega) (by dsimp only; omega)
theorem ic_35 {b : Nat} (hb : b < 3) : ((35, b, 0) : rf) ∈ CC := CC_in 32 (q := (35, 0, 3, 0, 1)) rfl (by dsimp only; omega) (by dsimp only; omega) (by dsimp only; omega) (by dsimp only; omega)
theorem ic_36 {b : Nat} (hb : b < 3) : ((36, b, 0) : rf) ∈ CC := CC_in 33 (q := (36, 0, 3, 0, 1)) rfl (by dsimp only; omega) (by dsimp only; omega) (by dsimp only; omega) (by dsimp only; omega)
theorem ic_37 {b : Nat} (hb : b < 3) : ((37, b, 0) : rf) ∈ CC := CC_in 34 (q := (37, 0, 3, 0, 1)) rfl (by dsimp only; omega) (by dsimp only; omega) (by dsimp only; omega) (by dsimp only; omega)
theorem ic_38 {b : Nat} (hb : b < 3) : ((38, b, 0) : rf) ∈ CC := CC_in 35 (q := (38, 0, 3, 0, 1)) rfl (by dsimp only; omega) (by dsimp only; omega) (by dsimp only; omega) (by dsimp only; omega)
theorem ic_39 {b : Nat} (hb : b < 3) : ((39, b, 0) : rf) ∈ CC := CC_in 36 (q := (39, 0, 3, 0, 1)) rfl (by dsimp only; omega) (by dsimp only; omega) (by dsimp only; omega) (by dsimp only; omega)
theorem ic_40 {b w : Nat} (hb : b < 3) (hw : w < 8) : ((40, b, w) : rf) ∈ CC := CC_in 37 (q := (40, 0, 3, 0, 8)) rfl (by dsimp only; omega) (by dsimp only; omega) (by dsimp only; omega) (by dsimp only; omega)
theorem ic_41 {b w : Nat} (hb : b < 3) (hw : w < 8) : ((41, b, w) : rf) ∈ CC := CC_in 38 (q := (41, 0, 3, 0, 8)) rfl (by dsimp only; omega) (by dsimp only; omega) (by dsimp only; omega) (by dsimp only; omega)
theorem ic_42 {b : Nat} (hb : b < 3) : ((42, b, 0) : rf) ∈ CC := CC_in 39 (q := (42, 0, 3, 0, 1)) rfl (by dsimp only; omega) (by dsimp only; omega) (by dsimp only; omega) (by dsimp only; omega)
theorem ic_43 : ((43, 0, 0) : rf) ∈ CC := CC_in 40 (q := (43, 0, 1, 0, 1)) rfl (by dsimp only; omega) (by dsimp only; omega) (by dsimp only; omega) (by dsimp only; omega)
theorem ic_44 : ((44, 0, 0) : rf) ∈ CC := CC_in 41 (q := (44, 0, 1, 0, 1)) rfl (by dsimp only; omega) (by dsimp only; omega) (by dsimp only; omega) (by dsimp only; omega)
theorem ic_50 : ((50, 0, 0) : rf) ∈ DD := DD_in 1 (q := (50, 0, 1, 0, 1)) rfl (by dsimp only; omega) (by dsimp only; omega) (by dsimp only; omega) (by dsimp only; omega)
theorem ic_51 : ((51, 0, 0) : rf) ∈ DD := DD_in 2 (q := (51, 0, 1, 0, 1)) rfl (by dsimp only; omega) (by dsimp only; omega) (by dsimp only; omega) (by dsimp only; omega)
theorem ic_52 : ((52, 0, 0) : rf) ∈ DD := DD_in 3 (q := (52, 0, 1, 0, 1)) rfl (by dsimp only; omega) (by dsimp only; omega) (by dsimp only; omega) (by dsimp only; omega)
theorem ic_53 : ((53, 0, 0) : rf) ∈ DD := DD_in 4 (q := (53, 0, 1, 0, 1)) rfl (by dsimp only; omega) (by dsimp only; omega) (by dsimp only; omega) (by dsimp only; omega)
theorem ic_54 : ((54, 0, 0) : rf) ∈ DD := DD_in 5 (q := (54, 0, 1, 0, 1)) rfl (by dsimp only; omega) (by dsimp only; omega) (by dsimp only; omega) (by dsimp only; omega)
theorem ic_55 : ((55, 0, 0) : rf) ∈ DD := DD_in 6 (q := (55, 0, 1, 0, 1)) rfl (by dsimp only; omega) (by dsimp only; omega) (by dsimp only; omega) (by dsimp only; omega)
theorem ic_56 : ((56, 0, 0) : rf) ∈ DD := DD_in 7 (q := (56, 0, 1, 0, 1)) rfl (by dsimp only; omega) (by dsimp only; omega) (by dsimp only; omega) (by dsimp only; omega)
theorem ic_57 : ((57, 0, 0) : rf) ∈ DD := DD_in 8 (q := (57, 0, 1, 0, 1)) rfl (by dsimp only; omega) (by dsimp only; omega) (by dsimp only; omega) (by dsimp only; omega)
theorem ic_58 : ((58, 0, 0) : rf) ∈ DD := DD_in 9 (q := (58, 0, 1, 0, 1)) rfl (by dsimp only; omega) (by dsimp only; omega) (by dsimp only; omega) (by dsimp only; omega)
theorem ic_59 : ((59, 0, 0) : rf) ∈ DD := DD_in 10 (q := (59, 0, 1, 0, 1)) rfl (by dsimp only; omega) (by dsimp only; omega) (by dsimp only; omega) (by dsimp only; omega)
theorem ic_60 : ((60, 0, 0) : rf) ∈ DD := DD_in 11 (q := (60, 0, 1, 0, 1)) rfl (by dsimp only; omega) (by dsimp only; omega) (by dsimp only; omega) (by dsimp only; omega)
theorem ic_61 : ((61, 0, 0) : rf) ∈ DD := DD_in 12 (q := (61, 0, 1, 0, 1)) rfl (by dsimp only; omega) (by dsimp only; omega) (by dsimp only; omega) (by dsimp only; omega)
theorem ic_62 : ((62, 0, 0) : rf) ∈ DD := DD_in 13 (q := (62, 0, 1, 0, 1)) rfl (by dsimp only; omega) (by dsimp only; omega) (by dsimp only; omega) (by dsimp only; omega)
theorem ic_63 : ((63, 0, 0) : rf) ∈ DD := DD_in 14 (q := (63, 0, 1, 0, 1)) rfl (by dsimp only; omega) (by dsimp only; omega) (by dsimp only; omega) (by dsimp only; omega)
theorem ic_64 : ((64, 0, 0) : rf) ∈ DD := DD_in 15 (q := (64, 0, 1, 0, 1)) rfl (by dsimp only; omega) (by dsimp only; omega) (by dsimp only; omega) (by dsimp only; omega)
theorem ic_65 : ((65, 0, 0) : rf) ∈ DD := DD_in 16 (q := (65, 0, 1, 0, 1)) rfl (by dsimp only; omega) (by dsimp only; omega) (by dsimp only; omega) (by dsimp only; omega)
theorem ic_66 : ((66, 0, 0) : rf) ∈ DD := DD_in 17 (q := (66, 0, 1, 0, 1)) rfl (by dsimp only; omega) (by dsimp only; omega) (by dsimp only; omega) (by dsimp only; omega)
theorem ic_67 : ((67, 0, 0) : rf) ∈ DD := DD_in 18 (q := (67, 0, 1, 0, 1)) rfl (by dsimp only; omega) (by dsimp only; omega) (by dsimp only; omega) (by dsimp only; omega)
theorem ic_68 : ((68, 0, 0) : rf) ∈ DD := DD_in 19 (q := (68, 0, 1, 0, 1)) rfl (by dsimp only; omega) (by dsimp only; omega) (by dsimp only; omega) (by dsimp only; omega)
theorem ic_69 : ((69, 0, 0) : rf) ∈ DD := DD_in 20 (q := (69, 0, 1, 0, 1)) rfl (by dsimp only; omega) (by dsimp only; omega) (by dsimp only; omega) (by dsimp only; omega)
def fvs (ad : rf → Nat) (M : mM) (c : rf) : List fR → Nat → List Value
  | [], _ => []
  | f :: l, k => gv ad (f c.2.1 c.2.2 (M.1 c k)) :: fvs ad M c l (k + 1)
def arE (cy : Nat → ClassId) (k n : Nat) (f : Nat → Int32) (g : Nat → Int64) : va_E := match k with
  | 0 => .inl (cy 0, n, .inl f)
  | 1 => .inl (cy 1, n, .inl f)
  | _ => .inl (cy 2, n, .inr (.inl g))
def ent (cy : Nat → ClassId) (ad : rf → Nat) (M : mM) (c : rf) : va_E := match OB c.1 with
  | some q => .inr (q.1, fvs ad M c q.2 0)
  | none => match AR c.1 with
    | some q => arE cy q.1 (q.2 c.2.2) (M.1 c) M.2
    | none => match RA c.1 with
      | some (t, n, g) => .inl (cy t, n, .inr (.inr (.inr (.inr (fun j => some (ad (g c.2.1 j)))))))
      | none => .inr (0, [])
def WS (cls : List rf) (cy : Nat → ClassId) (ad : rf → Nat) (M : mM) : va_W := cls.map (fun c => (ad c, ent cy ad M c))
def up (M : mM) (c : rf) (k : Nat) (v : Int32) : mM := (fun c' k' => if c' = c ∧ k' = k then v else M.1 c' k', M.2)
def upL (M : mM) (k : Nat) (v : Int64) : mM := (M.1, vp_updL M.2 k v)
def cp (M : mM) (c0 c1 : rf) (sp dp n : Nat) : mM := (fun c' k' => if c' = c1 then va_cpy (M.1 c0) (M.1 c1) sp dp n k' else M.1 c' k', M.2)
theorem up_same (M : mM) (c : rf) (k : Nat) (v : Int32) : (up M c k v).1 c k = v := if_pos ⟨rfl, rfl⟩
theorem up_ne {M : mM} {c c' : rf} {k k' : Nat} {v : Int32} (h : ¬ (c' = c ∧ k' = k)) : (up M c k v).1 c' k' = M.1 c' k' := if_neg h
theorem up_row (M : mM) (c : rf) (k : Nat) (v : Int32) : (up M c k v).1 c = upd (M.1 c) k v := by
  funext j
  unfold up upd
  by_cases h : j = k
  · rw [if_pos h]; exact if_pos ⟨rfl, h⟩
  · rw [if_neg h]; exact if_neg (fun q => h q.2)
theorem up_other {M : mM} {c c' : rf} (k : Nat) (v : Int32) (h : c' ≠ c) : (up M c k v).1 c' = M.1 c' := by
  funext j
  exact if_neg (fun q => h q.1)
theorem cp_row (M : mM) (c0 c1 : rf) (sp dp n : Nat) : (cp M c0 c1 sp dp n).1 c1 = va_cpy (M.1 c0) (M.1 c1) sp dp n := by
  funext j
  exact if_pos rfl
theorem cp_other {M : mM} {c0 c1 c' : rf} (sp dp n : Nat) (h : c' ≠ c1) : (cp M c0 c1 sp dp n).1 c' = M.1 c' := by
  funext j
  exact if_neg h
theorem fvs_get (ad : rf → Nat) (M : mM) (c : rf) : ∀ (fs : List fR) (k0 k : Nat), (fvs ad M c fs k0)[k]? = (fs[k]?).map (fun f => gv ad (f c.2.1 c.2.2 (M.1 c (k0 + k))))
  | [], _, _ => rfl
  | f :: l, k0, 0 => rfl
  | f :: l, k0, k + 1 => by
    have h := fvs_get ad M c l (k0 + 1) k
    rw [show k0 + 1 + k = k0 + (k + 1) by omega] at h
    exact h
theorem fvs_cong {ad : rf → Nat} {M M' : mM} {c : rf} (h : M'.1 c = M.1 c) : ∀ (fs : List fR) (k0 : Nat), fvs ad M' c fs k0 = fvs ad M c fs k0
  | [], _ => rfl
  | f :: l, k0 => by
    show gv ad (f _ _ (M'.1 c k0)) :: _ = gv ad (f _ _ (M.1 c k0)) :: _
    rw [h, fvs_cong h l]
theorem fvs_set {ad : rf → Nat} {M : mM} {c : rf} {fs : List fR} {k : Nat} {f : fR} (hf : fs[k]? = some f) (x : Int32) : (fvs ad M c fs 0).set k (gv ad (f c.2.1 c.2.2 x)) = fvs ad (up M c k x) c fs 0 := by
  refine List.ext_getElem? fun j => ?_
  rw [List.getElem?_set, fvs_get, fvs_get, Nat.zero_add]
  by_cases h : k = j
  · subst h
    have hl : k < (fvs ad M c fs 0).length := by
      have h1 := fvs_get ad M c fs 0 k
      rw [hf] at h1
      exact (List.getElem?_eq_some_iff.mp h1).1
    rw [if_pos rfl, if_pos hl, hf, up_same]; rfl
  · rw [if_neg h, up_ne (fun q => h q.2.symm)]
theorem ent_cong {cy : Nat → ClassId} {ad : rf → Nat} {M M' : mM} {c : rf} (h : M'.1 c = M.1 c) (h3 : M'.2 = M.2) : ent cy ad M' c = ent cy ad M c := by
  unfold ent
  rw [h, h3]
  simp only [fvs_cong h]
theorem WS_mem {cls : List rf} {cy : Nat → ClassId} {ad : rf → Nat} {M : mM} {c : rf} (h : c ∈ cls) : ∃ q0 : Nat, cls[q0]? = some c ∧ (WS cls cy ad M)[q0]? = some (ad c, ent cy ad M c) := by
  obtain ⟨q0, hq⟩ := List.mem_iff_getElem?.mp h
  exact ⟨q0, hq, by unfold WS; rw [List.getElem?_map, hq]; rfl⟩
theorem WS_set {cls : List rf} (hnd : cls.Nodup) {cy : Nat → ClassId} {ad : rf → Nat} {M M' : mM} {c : rf} {q0 : Nat} (hq : cls[q0]? = some c) (h : ∀ c', c' ∈ cls → c' ≠ c → ent cy ad M' c' = ent cy ad M c') : (WS cls cy ad M).set q0 (ad c, ent cy ad M' c) = WS cls cy ad M' := by
  refine List.ext_getElem? fun j => ?_
  have hl : q0 < cls.length := (List.getElem?_eq_some_iff.mp hq).1
  rw [List.getElem?_set]
  unfold WS
  rw [List.getElem?_map, List.getElem?_map, List.length_map]
  by_cases e : q0 = j
  · subst e
    rw [if_pos rfl, if_pos hl, hq]; rfl
  · rw [if_neg e]
    cases hj : cls[j]? with
    | none => rfl
    | some c' =>
      have hne : c' ≠ c := fun q => by
        subst q
        exact e ((List.getElem?_inj hl hnd).mp (hq.trans hj.symm))
      show some (ad c', ent cy ad M c') = some (ad c', ent cy ad M' c')
      rw [h c' (List.mem_of_getElem? hj) hne]
def skA (ad : rf → Nat) : Nat → Nat := fun k => ad (91, k, 0)
def saA (ad : rf → Nat) : Nat → Nat := fun k => ad (90, k, 0)
def rmd (d : Nat) : Room := { frames := d, cells := 0, slots := 0, locals := 100 * d }
def WO (cls : List rf) (G : va_G) (cy : Nat → ClassId) (ad : rf → Nat) (A : Nat → Prop) (M : mM) (H : Heap) : Prop := va_P G classes (WS cls cy ad M) H ∧ va_D A (WS cls cy ad M)
def CX (G : va_G) (cy : Nat → ClassId) (ad : rf → Nat) (y : MethodName) (b : ByteArray) (n : Nat) (r : Option FieldType) (p : Program) (s : State) (m : MethodId) (args : Array Value) (meth : Method) (c : Code) (A : Nat → Prop) : Prop :=
  p.tables.exec = Jvm.exec ∧ c.code = b ∧ meth.sig.returnType = r ∧ c.maxLocals = n ∧ (∀ w ∈ BASE, w.before args s = true) ∧ s.vm.findClass y.cls = some m.cls ∧ meth.locks = false ∧ EN G cy (skA ad) s ∧ STAT (saA ad) (skA ad) A s s.heap ∧ ∀ q : Nat, s.heap.size ≤ q → A q
def QC (cls : List rf) (G : va_G) (cy : Nat → ClassId) (ad : rf → Nat) (r : Option FieldType) (A : Nat → Prop) (Q : Int32 → mM → Prop) : Array Value → State → Outcome → State → Prop := match r with
  | none => va_Qv (fun M' : mM => Q 0 M') (fun M' t => WO cls G cy ad A M' t.heap) A
  | some _ => va_Qi (fun r (M' : mM) => Q r M') (fun M' t => WO cls G cy ad A M' t.heap) A
/-- from here on the method comes to its end, with Q of its answer and of the memory -/
def WP (cls : List rf) (l : Launch) (G : va_G) (cy : Nat → ClassId) (ad : rf → Nat) (y : MethodName) (b : ByteArray) (n : Nat) (r : Option FieldType) (d : Nat) (pc : Nat) (ls : List (Nat × mV)) (st : List mV) (M : mM) (Q : Int32 → mM → Prop) : Prop :=
  ∀ (p : Program) (e : Env) (s : State) (m : MethodId) (args : Array Value) (below : List Frame) (meth : Method) (c : Code) (A : Nat → Prop), CX G cy ad y b n r p s m args meth c A →
  ∀ (lsA : Array Slot) (H : Heap) (locs : List Loc), lv_has lsA n (gl ad ls) → WO cls G cy ad A M H → va_S A s.heap H locs →
  W p l e (rmd d) s m args below meth c H locs 0 0 (MQ below (QC cls G cy ad r A Q) args s 0 0 A) (F0 m pc lsA (st.map (gv ad)))
