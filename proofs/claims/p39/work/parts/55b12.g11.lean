/-! what a walker does by its habit -/
def hbV (f l r u t : Int32) : Nat → Int32 := fun i => if i = 0 then f else if i = 1 then l else if i = 2 then r else if i = 3 then u else t
def habS (n : Nat → Int32) (f l r u t : Int32) : Int32 := if (n 445).toInt ≤ 0 then (if f.toInt = 1 then 1 else 0) else evR n 2 (hbV f l r u t)
theorem sval5 {M M1 M2 M3 M4 M5 : mM} {c : rf} {a0 a1 a2 a3 a4 : Int32} (h1 : M1 = up M c 0 a0) (h2 : M2 = up M1 c 1 a1) (h3 : M3 = up M2 c 2 a2) (h4 : M4 = up M3 c 3 a3) (h5 : M5 = up M4 c 4 a4) : ∀ i, i < 5 → M5.1 c i = hbV a0 a1 a2 a3 a4 i := fun i hi => by
  obtain rfl | rfl | rfl | rfl | rfl : i = 0 ∨ i = 1 ∨ i = 2 ∨ i = 3 ∨ i = 4 := by omega
  · rw [zupN h5 (by simp), zupN h4 (by simp), zupN h3 (by simp), zupN h2 (by simp), zupE h1 rfl rfl]; rfl
  · rw [zupN h5 (by simp), zupN h4 (by simp), zupN h3 (by simp), zupE h2 rfl rfl]; rfl
  · rw [zupN h5 (by simp), zupN h4 (by simp), zupE h3 rfl rfl]; rfl
  · rw [zupN h5 (by simp), zupE h4 rfl rfl]; rfl
  · rw [zupE h5 rfl rfl]; rfl
theorem x2habit {b : Nat} {v u t s q : Int32} {M M' : mM} {r : Int32} {n : Nat → Int32} (h : SP_X2_habitValue b v u t s q M r M') (hT : TXR b M.1 n) (hW : WT n) : r = habS n v u t s q := by
  have q0 := il_0
  have T := hT 2 (by omega)
  simp only [show 345 + 50 * 2 = 445 by decide, show 346 + 50 * 2 = 446 by decide] at T
  unfold habS
  unfold SP_X2_habitValue at h
  rcases h with ⟨r1_, hs5_, h4_, (⟨h6_, M7_, hM8_, M11_, hM12_, M15_, hM16_, M19_, hM20_, M23_, hM24_, -, M28_, -, hF32_, r27_, hs34_, hr_, hM_⟩ | ⟨h6_, (⟨h35_, hr_, hM_⟩ | ⟨h35_, hr_, hM_⟩)⟩)⟩
  · have g := x1given hs5_
    rw [T.1] at g
    have k : ∀ (c : rf) (j : Nat), c.1 ≠ 29 → M23_.1 c j = M.1 c j := fun c j hc => by
      rw [zupR hM24_ hc, zupR hM20_ hc, zupR hM16_ hc, zupR hM12_ hc, zupR hM8_ hc]
    rw [if_neg (by omega), hr_]
    refine x1work (nn := 5) hs34_ (by omega) hW (by rw [k _ _ (by simp)]; exact T.1) (fun i hi => by rw [k _ _ (by simp)]; exact T.2 i hi) (sval5 hM8_ hM12_ hM16_ hM20_ hM24_) (by show 0 < (n 445).toInt; omega)
  · have g := x1given hs5_
    rw [T.1] at g
    rw [if_pos (by omega), if_neg h35_, hr_]
  · have g := x1given hs5_
    rw [T.1] at g
    rw [if_pos (by omega), if_pos h35_, hr_]
def HabC (b : Nat) (v : Int32) (w : Nat) (M M' : mM) : Prop := ∃ (s rf sl rl sr rr bu now r : Int32) (M2 : mM), s = M.1 (9, b, w) 2 ∧ SP_X9_yardsToFull b w s M rf ∧ sl = (s + (6 : Int32)) &&& (7 : Int32) ∧ SP_X9_yardsToFull b w sl M rl ∧ sr = (s + (2 : Int32)) &&& (7 : Int32) ∧ SP_X9_yardsToFull b w sr M rr ∧ bu = M.1 (9, b, w) 7 ∧ now = M.1 (10, b, 0) 7 ∧ FR (S_c_X2_habitValue b) M M2 ∧ SP_X2_habitValue b rf rl rr bu now M r M2 ∧
  ((¬ (fmX r).toInt = 0 ∧ ¬ (fmX r).toInt = 3 ∧ SP_X9_turn b w (fmX r) M2 M') ∨ ((fmX r).toInt = 3 ∧ SP_X9_turn b w (-2) M2 M') ∨ ((fmX r).toInt = 0 ∧ SP_X10_goOn b v M2 M'))
def clkP (now every : Int32) (kind : Int) : Prop := 0 < every.toInt ∧ (now - now / every * every).toInt = 0 ∧ undP kind 1
theorem lwC {b : Nat} {v : Int32} {M M' : mM} (h : SP_X10_letWalkerGo b v M M') (hv : 0 ≤ v.toInt ∧ v.toInt < (M.1 (10, b, 0) 6).toInt ∧ v.toInt < 8) (hk : 0 ≤ (M.1 (9, b, v.toInt.toNat) 0).toInt ∧ (M.1 (9, b, v.toInt.toNat) 0).toInt ≤ 7) :
    (¬ clkP (M.1 (10, b, 0) 7) (M.1 (9, b, v.toInt.toNat) 5) (M.1 (9, b, v.toInt.toNat) 0).toInt ∧ HabC b v v.toInt.toNat M M') ∨ (clkP (M.1 (10, b, 0) 7) (M.1 (9, b, v.toInt.toNat) 5) (M.1 (9, b, v.toInt.toNat) 0).toInt ∧ ∃ (r : Int32) (M1 : mM), SP_X10_makeClick b v M r M1 ∧ HabC b v v.toInt.toNat M1 M') := by
  have q1 := il_1
  unfold clkP
  unfold SP_X10_letWalkerGo at h
  rcases h with (⟨hs5_, h4_, j7_, h8_, h9_, z10_, e11_, (⟨h12_, z13_, e14_, r15_, hs19_, z22_, h23_, z24_, h26_, h25_, r27_, hs31_, z34_, h35_, z36_, h38_, h37_, r39_, hs43_, z44_, e45_, z46_, e47_, M49_, -, hF53_, r48_, hs55_, z56_, z56_h, (⟨h57_, (⟨h58_, M59_, -, hF63_, hs65_, hM_⟩ | ⟨h58_, M66_, -, hF70_, hs72_, hM_⟩)⟩ | ⟨h57_, M73_, -, hF77_, hs79_, hM_⟩)⟩ | ⟨h12_, z80_, e81_, z82_, h83_, (⟨h84_, z85_, e86_, r87_, hs91_, z94_, h95_, z96_, h98_, h97_, r99_, hs103_, z106_, h107_, z108_, h110_, h109_, r111_, hs115_, z116_, e117_, M121_, -, hF125_, r120_, hs127_, z128_, z128_h, (⟨h129_, (⟨h130_, M131_, -, hF135_, hs137_, hM_⟩ | ⟨h130_, M138_, -, hF142_, hs144_, hM_⟩)⟩ | ⟨h129_, M145_, -, hF149_, hs151_, hM_⟩)⟩ | ⟨h84_, r152_, hs156_, h155_, (⟨h157_, z158_, e159_, r160_, hs164_, z167_, h168_, z169_, h171_, h170_, r172_, hs176_, z179_, h180_, z181_, h183_, h182_, r184_, hs188_, z189_, e190_, M194_, -, hF198_, r193_, hs200_, z201_, z201_h, (⟨h202_, (⟨h203_, M204_, -, hF208_, hs210_, hM_⟩ | ⟨h203_, M211_, -, hF215_, hs217_, hM_⟩)⟩ | ⟨h202_, M218_, -, hF222_, hs224_, hM_⟩)⟩ | ⟨h157_, M226_, -, hF230_, r225_, hs232_, z233_, e234_, r235_, hs239_, z242_, h243_, z244_, h246_, h245_, r247_, hs251_, z254_, h255_, z256_, h258_, h257_, r259_, hs263_, z264_, e265_, z266_, e267_, M269_, -, hF273_, r268_, hs275_, z276_, z276_h, (⟨h277_, (⟨h278_, M279_, -, hF283_, hs285_, hM_⟩ | ⟨h278_, M286_, -, hF290_, hs292_, hM_⟩)⟩ | ⟨h277_, M293_, -, hF297_, hs299_, hM_⟩)⟩)⟩)⟩)⟩ | ⟨hs5_, hM_⟩)
  · obtain rfl : j7_ = v.toInt.toNat := by omega
    refine Or.inl ⟨fun q => by rw [← e11_] at q; omega, ?_⟩
    exact ⟨z13_, r15_, z24_, r27_, z36_, r39_, z44_, z46_, r48_, M49_, e14_, hs19_, by rw [h26_, h23_], hs31_, by rw [h38_, h35_], hs43_, e45_, e47_, hF53_, hs55_, Or.inl ⟨(by rw [← z56_h]; exact h57_), (by rw [← z56_h]; exact h58_), by rw [hM_, ← z56_h]; exact hs65_⟩⟩
  · obtain rfl : j7_ = v.toInt.toNat := by omega
    refine Or.inl ⟨fun q => by rw [← e11_] at q; omega, ?_⟩
    exact ⟨z13_, r15_, z24_, r27_, z36_, r39_, z44_, z46_, r48_, M49_, e14_, hs19_, by rw [h26_, h23_], hs31_, by rw [h38_, h35_], hs43_, e45_, e47_, hF53_, hs55_, Or.inr (Or.inl ⟨(by rw [← z56_h]; exact h58_), by rw [hM_]; exact hs72_⟩)⟩
  · obtain rfl : j7_ = v.toInt.toNat := by omega
    refine Or.inl ⟨fun q => by rw [← e11_] at q; omega, ?_⟩
    exact ⟨z13_, r15_, z24_, r27_, z36_, r39_, z44_, z46_, r48_, M49_, e14_, hs19_, by rw [h26_, h23_], hs31_, by rw [h38_, h35_], hs43_, e45_, e47_, hF53_, hs55_, Or.inr (Or.inr ⟨(by rw [← z56_h]; exact h57_), by rw [hM_]; exact hs79_⟩)⟩
  · obtain rfl : j7_ = v.toInt.toNat := by omega
    refine Or.inl ⟨fun q => h84_ (by rw [h83_, e81_, e11_]; exact q.2.1), ?_⟩
    exact ⟨z85_, r87_, z96_, r99_, z108_, r111_, z116_, z80_, r120_, M121_, e86_, hs91_, by rw [h98_, h95_], hs103_, by rw [h110_, h107_], hs115_, e117_, e81_, hF125_, hs127_, Or.inl ⟨(by rw [← z128_h]; exact h129_), (by rw [← z128_h]; exact h130_), by rw [hM_, ← z128_h]; exact hs137_⟩⟩
  · obtain rfl : j7_ = v.toInt.toNat := by omega
    refine Or.inl ⟨fun q => h84_ (by rw [h83_, e81_, e11_]; exact q.2.1), ?_⟩
    exact ⟨z85_, r87_, z96_, r99_, z108_, r111_, z116_, z80_, r120_, M121_, e86_, hs91_, by rw [h98_, h95_], hs103_, by rw [h110_, h107_], hs115_, e117_, e81_, hF125_, hs127_, Or.inr (Or.inl ⟨(by rw [← z128_h]; exact h130_), by rw [hM_]; exact hs144_⟩)⟩
  · obtain rfl : j7_ = v.toInt.toNat := by omega
    refine Or.inl ⟨fun q => h84_ (by rw [h83_, e81_, e11_]; exact q.2.1), ?_⟩
    exact ⟨z85_, r87_, z96_, r99_, z108_, r111_, z116_, z80_, r120_, M121_, e86_, hs91_, by rw [h98_, h95_], hs103_, by rw [h110_, h107_], hs115_, e117_, e81_, hF125_, hs127_, Or.inr (Or.inr ⟨(by rw [← z128_h]; exact h129_), by rw [hM_]; exact hs151_⟩)⟩
  · obtain rfl : j7_ = v.toInt.toNat := by omega
    have un := x9isOf hs156_ hk
    rw [q1] at un
    refine Or.inl ⟨fun q => (un.resolve_left (fun z => by omega)).2 q.2.2, ?_⟩
    exact ⟨z158_, r160_, z169_, r172_, z181_, r184_, z189_, z80_, r193_, M194_, e159_, hs164_, by rw [h171_, h168_], hs176_, by rw [h183_, h180_], hs188_, e190_, e81_, hF198_, hs200_, Or.inl ⟨(by rw [← z201_h]; exact h202_), (by rw [← z201_h]; exact h203_), by rw [hM_, ← z201_h]; exact hs210_⟩⟩
  · obtain rfl : j7_ = v.toInt.toNat := by omega
    have un := x9isOf hs156_ hk
    rw [q1] at un
    refine Or.inl ⟨fun q => (un.resolve_left (fun z => by omega)).2 q.2.2, ?_⟩
    exact ⟨z158_, r160_, z169_, r172_, z181_, r184_, z189_, z80_, r193_, M194_, e159_, hs164_, by rw [h171_, h168_], hs176_, by rw [h183_, h180_], hs188_, e190_, e81_, hF198_, hs200_, Or.inr (Or.inl ⟨(by rw [← z201_h]; exact h203_), by rw [hM_]; exact hs217_⟩)⟩
  · obtain rfl : j7_ = v.toInt.toNat := by omega
    have un := x9isOf hs156_ hk
    rw [q1] at un
    refine Or.inl ⟨fun q => (un.resolve_left (fun z => by omega)).2 q.2.2, ?_⟩
    exact ⟨z158_, r160_, z169_, r172_, z181_, r184_, z189_, z80_, r193_, M194_, e159_, hs164_, by rw [h171_, h168_], hs176_, by rw [h183_, h180_], hs188_, e190_, e81_, hF198_, hs200_, Or.inr (Or.inr ⟨(by rw [← z201_h]; exact h202_), by rw [hM_]; exact hs224_⟩)⟩
  · obtain rfl : j7_ = v.toInt.toNat := by omega
    have un := x9isOf hs156_ hk
    rw [q1] at un
    refine Or.inr ⟨⟨by rw [← e11_]; omega, by rw [← e11_, ← e81_, ← h83_]; assumption, (un.resolve_right (fun z => by omega)).2⟩, r225_, M226_, hs232_, ?_⟩
    exact ⟨z233_, r235_, z244_, r247_, z256_, r259_, z264_, z266_, r268_, M269_, e234_, hs239_, by rw [h246_, h243_], hs251_, by rw [h258_, h255_], hs263_, e265_, e267_, hF273_, hs275_, Or.inl ⟨(by rw [← z276_h]; exact h277_), (by rw [← z276_h]; exact h278_), by rw [hM_, ← z276_h]; exact hs285_⟩⟩
  · obtain rfl : j7_ = v.toInt.toNat := by omega
    have un := x9isOf hs156_ hk
    rw [q1] at un
    refine Or.inr ⟨⟨by rw [← e11_]; omega, by rw [← e11_, ← e81_, ← h83_]; assumption, (un.resolve_right (fun z => by omega)).2⟩, r225_, M226_, hs232_, ?_⟩
    exact ⟨z233_, r235_, z244_, r247_, z256_, r259_, z264_, z266_, r268_, M269_, e234_, hs239_, by rw [h246_, h243_], hs251_, by rw [h258_, h255_], hs263_, e265_, e267_, hF273_, hs275_, Or.inr (Or.inl ⟨(by rw [← z276_h]; exact h278_), by rw [hM_]; exact hs292_⟩)⟩
  · obtain rfl : j7_ = v.toInt.toNat := by omega
    have un := x9isOf hs156_ hk
    rw [q1] at un
    refine Or.inr ⟨⟨by rw [← e11_]; omega, by rw [← e11_, ← e81_, ← h83_]; assumption, (un.resolve_right (fun z => by omega)).2⟩, r225_, M226_, hs232_, ?_⟩
    exact ⟨z233_, r235_, z244_, r247_, z256_, r259_, z264_, z266_, r268_, M269_, e234_, hs239_, by rw [h246_, h243_], hs251_, by rw [h258_, h255_], hs263_, e265_, e267_, hF273_, hs275_, Or.inr (Or.inr ⟨(by rw [← z276_h]; exact h277_), by rw [hM_]; exact hs299_⟩)⟩
  · have q0 := il_0; have := x10has hs5_; omega
/-- the model's -/
def trD (s r : Int32) : Int32 := if r.toInt = 1 then (s + (1 : Int32)) &&& (7 : Int32) else if r.toInt = 2 then (s + (2 : Int32)) &&& (7 : Int32) else (s + (6 : Int32)) &&& (7 : Int32)
def HabD (v : Int32) (M M' : mM) : Prop := ∃ (r : Int32) (M2 : mM), InvD M2 ∧ FR S_c_X12_habitOf M M2 ∧ SP_X12_habitOf v M r M2 ∧ ((¬ r.toInt = 0 ∧ M' = up M2 (50, 0, 0) (182 + 9 * v.toInt.toNat) (trD (M2.1 (50, 0, 0) (182 + 9 * v.toInt.toNat)) r)) ∨ (r.toInt = 0 ∧ SP_X12_goesOn v M2 M'))
theorem wgD {v : Int32} {M M' : mM} (h : SP_X12_walkerGoes v M M') (hv : 0 ≤ v.toInt ∧ v.toInt ≤ 7) :
    ((M.1 (50, 0, 0) (186 + 9 * v.toInt.toNat)).toInt = 0 ∧ M' = M) ∨ (¬ (M.1 (50, 0, 0) (186 + 9 * v.toInt.toNat)).toInt = 0 ∧
      ((¬ clkP (M.1 (50, 0, 0) 0) (M.1 (50, 0, 0) (185 + 9 * v.toInt.toNat)) (M.1 (50, 0, 0) (180 + 9 * v.toInt.toNat)).toInt ∧ HabD v M M') ∨ (clkP (M.1 (50, 0, 0) 0) (M.1 (50, 0, 0) (185 + 9 * v.toInt.toNat)) (M.1 (50, 0, 0) (180 + 9 * v.toInt.toNat)).toInt ∧ ∃ (r : Int32) (M1 : mM), InvD M1 ∧ SP_X12_clicks v M r M1 ∧ HabD v M1 M'))) := by
  have q1 := il_1
  have i1 : (1 : Int32).toInt = 1 := by decide
  have i2 : (2 : Int32).toInt = 2 := by decide
  have i6 : (6 : Int32).toInt = 6 := by decide
  have T1 : ∀ {s r a x : Int32}, 0 ≤ s.toInt ∧ s.toInt ≤ 7 → a.toInt = s.toInt + 1 → x = a &&& (7 : Int32) → r.toInt = 1 → x = trD s r := fun {s r a x} hs ha hx hr => by
    unfold trD
    rw [if_pos hr, hx, show a = s + (1 : Int32) from i32e (by rw [ha, addI (x := s) rfl i1 (by omega) (by omega)])]
  have T2 : ∀ {s r a x : Int32}, 0 ≤ s.toInt ∧ s.toInt ≤ 7 → a.toInt = s.toInt + 2 → x = a &&& (7 : Int32) → r.toInt = 2 → x = trD s r := fun {s r a x} hs ha hx hr => by
    unfold trD
    rw [if_neg (by omega), if_pos hr, hx, show a = s + (2 : Int32) from i32e (by rw [ha, addI (x := s) rfl i2 (by omega) (by omega)])]
  have T6 : ∀ {s r a x : Int32}, 0 ≤ s.toInt ∧ s.toInt ≤ 7 → a.toInt = s.toInt + 6 → x = a &&& (7 : Int32) → ¬ r.toInt = 1 → ¬ r.toInt = 2 → x = trD s r := fun {s r a x} hs ha hx hr hr2 => by
    unfold trD
    rw [if_neg hr, if_neg hr2, hx, show a = s + (6 : Int32) from i32e (by rw [ha, addI (x := s) rfl i6 (by omega) (by omega)])]
  unfold clkP
  unfold SP_X12_walkerGoes at h
  rcases h with ⟨r1_, hs5_, h4_, z6_, h7_, j10_, h11_, z8_, e9_, z12_, h13_, j16_, h17_, z14_, e15_, (⟨h18_, (⟨h19_, M21_, hI24_, hF25_, r20_, hs27_, (⟨h28_, z29_, h30_, z31_, h32_, j35_, h36_, z33_, e34_, h37_, (⟨h38_, (⟨h39_, z40_, h41_, z42_, h44_, h43_, j47_, h48_, M45_, hM46_, hM_⟩ | ⟨h39_, z51_, h52_, z53_, h55_, h54_, j58_, h59_, M56_, hM57_, hM_⟩)⟩ | ⟨h38_, z62_, h63_, z64_, h66_, h65_, j69_, h70_, M67_, hM68_, hM_⟩)⟩ | ⟨h28_, M73_, hI76_, hF77_, hs79_, hM_⟩)⟩ | ⟨h19_, z80_, e81_, z82_, h83_, (⟨h84_, M86_, hI89_, hF90_, r85_, hs92_, (⟨h93_, z94_, h95_, z96_, h97_, j100_, h101_, z98_, e99_, h102_, (⟨h103_, (⟨h104_, z105_, h106_, z107_, h109_, h108_, j112_, h113_, M110_, hM111_, hM_⟩ | ⟨h104_, z116_, h117_, z118_, h120_, h119_, j123_, h124_, M121_, hM122_, hM_⟩)⟩ | ⟨h103_, z127_, h128_, z129_, h131_, h130_, j134_, h135_, M132_, hM133_, hM_⟩)⟩ | ⟨h93_, M138_, hI141_, hF142_, hs144_, hM_⟩)⟩ | ⟨h84_, r145_, hs149_, h148_, r150_, hs154_, h153_, (⟨h155_, M157_, hI160_, hF161_, r156_, hs163_, (⟨h164_, z165_, h166_, z167_, h168_, j171_, h172_, z169_, e170_, h173_, (⟨h174_, (⟨h175_, z176_, h177_, z178_, h180_, h179_, j183_, h184_, M181_, hM182_, hM_⟩ | ⟨h175_, z187_, h188_, z189_, h191_, h190_, j194_, h195_, M192_, hM193_, hM_⟩)⟩ | ⟨h174_, z198_, h199_, z200_, h202_, h201_, j205_, h206_, M203_, hM204_, hM_⟩)⟩ | ⟨h164_, M209_, hI212_, hF213_, hs215_, hM_⟩)⟩ | ⟨h155_, M217_, hI220_, hF221_, r216_, hs223_, M225_, hI228_, hF229_, r224_, hs231_, (⟨h232_, z233_, h234_, z235_, h236_, j239_, h240_, z237_, e238_, h241_, (⟨h242_, (⟨h243_, z244_, h245_, z246_, h248_, h247_, j251_, h252_, M249_, hM250_, hM_⟩ | ⟨h243_, z255_, h256_, z257_, h259_, h258_, j262_, h263_, M260_, hM261_, hM_⟩)⟩ | ⟨h242_, z266_, h267_, z268_, h270_, h269_, j273_, h274_, M271_, hM272_, hM_⟩)⟩ | ⟨h232_, M277_, hI280_, hF281_, hs283_, hM_⟩)⟩)⟩)⟩)⟩ | ⟨h18_, hM_⟩)⟩
  all_goals
    obtain rfl : j10_ = 185 + 9 * v.toInt.toNat := by omega
    obtain rfl : j16_ = 186 + 9 * v.toInt.toNat := by omega
    rw [← e9_, ← e15_]
  · skip
    obtain rfl : j35_ = 182 + 9 * v.toInt.toNat := by omega
    obtain rfl : j47_ = 182 + 9 * v.toInt.toNat := by omega
    refine Or.inr ⟨h18_, Or.inl ⟨fun q => by omega, ?_⟩⟩
    exact ⟨r20_, M21_, hI24_, hF25_, hs27_, Or.inl ⟨h28_, by rw [hM_, hM46_, ← e34_, T6 h37_ h41_ h44_ h38_ h39_]⟩⟩
  · skip
    obtain rfl : j35_ = 182 + 9 * v.toInt.toNat := by omega
    obtain rfl : j58_ = 182 + 9 * v.toInt.toNat := by omega
    refine Or.inr ⟨h18_, Or.inl ⟨fun q => by omega, ?_⟩⟩
    exact ⟨r20_, M21_, hI24_, hF25_, hs27_, Or.inl ⟨h28_, by rw [hM_, hM57_, ← e34_, T2 h37_ h52_ h55_ h39_]⟩⟩
  · skip
    obtain rfl : j35_ = 182 + 9 * v.toInt.toNat := by omega
    obtain rfl : j69_ = 182 + 9 * v.toInt.toNat := by omega
    refine Or.inr ⟨h18_, Or.inl ⟨fun q => by omega, ?_⟩⟩
    exact ⟨r20_, M21_, hI24_, hF25_, hs27_, Or.inl ⟨h28_, by rw [hM_, hM68_, ← e34_, T1 h37_ h63_ h66_ h38_]⟩⟩
  · skip
    refine Or.inr ⟨h18_, Or.inl ⟨fun q => by omega, ?_⟩⟩
    exact ⟨r20_, M21_, hI24_, hF25_, hs27_, Or.inr ⟨h28_, by rw [hM_]; exact hs79_⟩⟩
  · skip
    obtain rfl : j100_ = 182 + 9 * v.toInt.toNat := by omega
    obtain rfl : j112_ = 182 + 9 * v.toInt.toNat := by omega
    refine Or.inr ⟨h18_, Or.inl ⟨fun q => h84_ (by rw [h83_, e81_]; exact q.2.1), ?_⟩⟩
    exact ⟨r85_, M86_, hI89_, hF90_, hs92_, Or.inl ⟨h93_, by rw [hM_, hM111_, ← e99_, T6 h102_ h106_ h109_ h103_ h104_]⟩⟩
  · skip
    obtain rfl : j100_ = 182 + 9 * v.toInt.toNat := by omega
    obtain rfl : j123_ = 182 + 9 * v.toInt.toNat := by omega
    refine Or.inr ⟨h18_, Or.inl ⟨fun q => h84_ (by rw [h83_, e81_]; exact q.2.1), ?_⟩⟩
    exact ⟨r85_, M86_, hI89_, hF90_, hs92_, Or.inl ⟨h93_, by rw [hM_, hM122_, ← e99_, T2 h102_ h117_ h120_ h104_]⟩⟩
  · skip
    obtain rfl : j100_ = 182 + 9 * v.toInt.toNat := by omega
    obtain rfl : j134_ = 182 + 9 * v.toInt.toNat := by omega
    refine Or.inr ⟨h18_, Or.inl ⟨fun q => h84_ (by rw [h83_, e81_]; exact q.2.1), ?_⟩⟩
    exact ⟨r85_, M86_, hI89_, hF90_, hs92_, Or.inl ⟨h93_, by rw [hM_, hM133_, ← e99_, T1 h102_ h128_ h131_ h103_]⟩⟩
  · skip
    refine Or.inr ⟨h18_, Or.inl ⟨fun q => h84_ (by rw [h83_, e81_]; exact q.2.1), ?_⟩⟩
    exact ⟨r85_, M86_, hI89_, hF90_, hs92_, Or.inr ⟨h93_, by rw [hM_]; exact hs144_⟩⟩
  · have kd := x12kindOf hs149_ hv
    have un := x12isUnder hs154_ h148_
    rw [q1, kd] at un
    obtain rfl : j171_ = 182 + 9 * v.toInt.toNat := by omega
    obtain rfl : j183_ = 182 + 9 * v.toInt.toNat := by omega
    refine Or.inr ⟨h18_, Or.inl ⟨fun q => (un.resolve_left (fun z => by omega)).2 q.2.2, ?_⟩⟩
    exact ⟨r156_, M157_, hI160_, hF161_, hs163_, Or.inl ⟨h164_, by rw [hM_, hM182_, ← e170_, T6 h173_ h177_ h180_ h174_ h175_]⟩⟩
  · have kd := x12kindOf hs149_ hv
    have un := x12isUnder hs154_ h148_
    rw [q1, kd] at un
    obtain rfl : j171_ = 182 + 9 * v.toInt.toNat := by omega
    obtain rfl : j194_ = 182 + 9 * v.toInt.toNat := by omega
    refine Or.inr ⟨h18_, Or.inl ⟨fun q => (un.resolve_left (fun z => by omega)).2 q.2.2, ?_⟩⟩
    exact ⟨r156_, M157_, hI160_, hF161_, hs163_, Or.inl ⟨h164_, by rw [hM_, hM193_, ← e170_, T2 h173_ h188_ h191_ h175_]⟩⟩
  · have kd := x12kindOf hs149_ hv
    have un := x12isUnder hs154_ h148_
    rw [q1, kd] at un
    obtain rfl : j171_ = 182 + 9 * v.toInt.toNat := by omega
    obtain rfl : j205_ = 182 + 9 * v.toInt.toNat := by omega
    refine Or.inr ⟨h18_, Or.inl ⟨fun q => (un.resolve_left (fun z => by omega)).2 q.2.2, ?_⟩⟩
    exact ⟨r156_, M157_, hI160_, hF161_, hs163_, Or.inl ⟨h164_, by rw [hM_, hM204_, ← e170_, T1 h173_ h199_ h202_ h174_]⟩⟩
  · have kd := x12kindOf hs149_ hv
    have un := x12isUnder hs154_ h148_
    rw [q1, kd] at un
    refine Or.inr ⟨h18_, Or.inl ⟨fun q => (un.resolve_left (fun z => by omega)).2 q.2.2, ?_⟩⟩
    exact ⟨r156_, M157_, hI160_, hF161_, hs163_, Or.inr ⟨h164_, by rw [hM_]; exact hs215_⟩⟩
  · have kd := x12kindOf hs149_ hv
    have un := x12isUnder hs154_ h148_
    rw [q1, kd] at un
    obtain rfl : j239_ = 182 + 9 * v.toInt.toNat := by omega
    obtain rfl : j251_ = 182 + 9 * v.toInt.toNat := by omega
    refine Or.inr ⟨h18_, Or.inr ⟨⟨by omega, by rw [← e81_, ← h83_]; assumption, (un.resolve_right (fun z => by omega)).2⟩, r216_, M217_, hI220_, hs223_, ?_⟩⟩
    exact ⟨r224_, M225_, hI228_, hF229_, hs231_, Or.inl ⟨h232_, by rw [hM_, hM250_, ← e238_, T6 h241_ h245_ h248_ h242_ h243_]⟩⟩
  · have kd := x12kindOf hs149_ hv
    have un := x12isUnder hs154_ h148_
    rw [q1, kd] at un
    obtain rfl : j239_ = 182 + 9 * v.toInt.toNat := by omega
    obtain rfl : j262_ = 182 + 9 * v.toInt.toNat := by omega
    refine Or.inr ⟨h18_, Or.inr ⟨⟨by omega, by rw [← e81_, ← h83_]; assumption, (un.resolve_right (fun z => by omega)).2⟩, r216_, M217_, hI220_, hs223_, ?_⟩⟩
    exact ⟨r224_, M225_, hI228_, hF229_, hs231_, Or.inl ⟨h232_, by rw [hM_, hM261_, ← e238_, T2 h241_ h256_ h259_ h243_]⟩⟩
  · have kd := x12kindOf hs149_ hv
    have un := x12isUnder hs154_ h148_
    rw [q1, kd] at un
    obtain rfl : j239_ = 182 + 9 * v.toInt.toNat := by omega
    obtain rfl : j273_ = 182 + 9 * v.toInt.toNat := by omega
    refine Or.inr ⟨h18_, Or.inr ⟨⟨by omega, by rw [← e81_, ← h83_]; assumption, (un.resolve_right (fun z => by omega)).2⟩, r216_, M217_, hI220_, hs223_, ?_⟩⟩
    exact ⟨r224_, M225_, hI228_, hF229_, hs231_, Or.inl ⟨h232_, by rw [hM_, hM272_, ← e238_, T1 h241_ h267_ h270_ h242_]⟩⟩
  · have kd := x12kindOf hs149_ hv
    have un := x12isUnder hs154_ h148_
    rw [q1, kd] at un
    refine Or.inr ⟨h18_, Or.inr ⟨⟨by omega, by rw [← e81_, ← h83_]; assumption, (un.resolve_right (fun z => by omega)).2⟩, r216_, M217_, hI220_, hs223_, ?_⟩⟩
    exact ⟨r224_, M225_, hI228_, hF229_, hs231_, Or.inr ⟨h232_, by rw [hM_]; exact hs283_⟩⟩
  · exact Or.inl ⟨h18_, hM_⟩
