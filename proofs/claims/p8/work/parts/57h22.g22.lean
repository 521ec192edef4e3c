/-! opened -/
theorem PRL_mono {e e2 : Int} {C D : mM} (h : PRL e C D) (he : e ≤ e2) : PRL e2 C D := by
  rcases h with ⟨t, h | h⟩
  · exact ⟨t, Or.inl (POK_mono h he)⟩
  · exact ⟨t, Or.inr h⟩
theorem TPE_kc {C D C2 D2 : mM} (hT : TPE C D) (kc : ∀ (c : rf) (k : Nat), ¬ (c = (4, 0, 0) ∧ ¬ k = 2) → C2.1 c k = C.1 c k) (kd : ∀ (c : rf) (k : Nat), ¬ (c = (12, 0, 0) ∧ ¬ k = 10) → D2.1 c k = D.1 c k) : TPE C2 D2 := by
  unfold TPE
  rw [kc _ _ (by simp), kc (4, 0, 0) 2 (by simp), kd (50, 0, 0) 4 (by simp), kd (12, 0, 0) 10 (by simp)]
  refine ⟨hT.1, hT.2.1, fun i hi => ?_, hT.2.2.2⟩
  rw [kc _ _ (by simp), kd _ _ (by simp)]
  exact hT.2.2.1 i hi
theorem PRL_open {e : Int} {C D C9 C20 D7 D30 D47 : mM} {z1 z7 z16 z24 z28 z40 z45 : Int32} (hT : TPE C D) (h : POK e C D) (qN : (D.1 (12, 0, 0) 9).toInt < (D.1 (50, 0, 0) 4).toInt)
    (a1 : z1 = C.1 (4, 0, 0) 5) (a2 : z7.toInt = z1.toInt + 1) (a3 : C9 = up C (4, 0, 0) 5 z7) (a4 : z16 = C9.1 (4, 0, 0) 3) (a5 : C20 = up C9 (4, 0, 0) 3 (z16 + (1 : Int32)))
    (b1 : D7 = up D (12, 0, 0) 13 0) (b2 : z24 = D7.1 (12, 0, 0) 11) (b3 : z28.toInt = z24.toInt + 1) (b4 : D30 = up D7 (12, 0, 0) 11 z28) (b5 : z40 = D30.1 (12, 0, 0) 9) (b6 : z45.toInt = z40.toInt + 1) (b7 : D47 = up D30 (12, 0, 0) 9 z45) : PRL (e - 1) C20 D47 ∧ (D47.1 (12, 0, 0) 9).toInt = (D.1 (12, 0, 0) 9).toInt + 1 := by
  have q0 := il_0
  obtain ⟨p1, p2, p3, p4, p5, p6, p7, p8, p9, p10⟩ := h
  have T1 := hT.2.1
  have kc : ∀ (c : rf) (k : Nat), ¬ (c = (4, 0, 0) ∧ (k = 3 ∨ k = 5)) → C20.1 c k = C.1 c k := fun c k q => by
    rw [zupN a5 (fun z => q ⟨z.1, Or.inl z.2⟩), zupN a3 (fun z => q ⟨z.1, Or.inr z.2⟩)]
  have kd : ∀ (c : rf) (k : Nat), ¬ (c = (12, 0, 0) ∧ (k = 9 ∨ k = 11 ∨ k = 13)) → D47.1 c k = D.1 c k := fun c k q => by
    rw [zupN b7 (fun z => q ⟨z.1, Or.inl z.2⟩), zupN b4 (fun z => q ⟨z.1, Or.inr (Or.inl z.2)⟩), zupN b1 (fun z => q ⟨z.1, Or.inr (Or.inr z.2)⟩)]
  have y1 := eT a1
  have y2 : z16.toInt = (D.1 (12, 0, 0) 9).toInt := by rw [a4, zupN a3 (by simp)]; exact p3
  have y3 : z24.toInt = (D.1 (12, 0, 0) 11).toInt := by rw [b2, zupN b1 (by simp)]
  have y4 : z40.toInt = (D.1 (12, 0, 0) 9).toInt := by rw [b5, zupN b4 (by simp), zupN b1 (by simp)]
  have C3 : (C20.1 (4, 0, 0) 3).toInt = (D.1 (12, 0, 0) 9).toInt + 1 := by rw [zupE a5 rfl rfl, addI (x := z16) rfl il_1 (by omega) (by omega)]; omega
  have C5 : (C20.1 (4, 0, 0) 5).toInt = z7.toInt := by rw [zupN a5 (by simp), zupE a3 rfl rfl]
  have D9 : (D47.1 (12, 0, 0) 9).toInt = (D.1 (12, 0, 0) 9).toInt + 1 := by rw [zupE b7 rfl rfl]; omega
  have D11 : (D47.1 (12, 0, 0) 11).toInt = z28.toInt := by rw [zupN b7 (by simp), zupE b4 rfl rfl]
  have D13 : (D47.1 (12, 0, 0) 13).toInt = 0 := by rw [zupN b7 (by simp), zupN b4 (by simp), zupE b1 rfl rfl]; exact q0
  refine ⟨⟨TPE_kc hT (fun c k q => kc c k (fun z => q ⟨z.1, by omega⟩)) (fun c k q => kd c k (fun z => q ⟨z.1, by omega⟩)), Or.inl ?_⟩, D9⟩
  unfold POK
  rw [kc (4, 0, 0) 4 (by simp), kc (4, 0, 0) 6 (by simp), kc (1, 3, 0) 2 (by simp), kd (12, 0, 0) 12 (by simp), kd (12, 0, 0) 14 (by simp), kd (12, 0, 0) 10 (by simp), kd (50, 0, 0) 4 (by simp)]
  refine ⟨p1, D13, by omega, by omega, p5, p6, p7, by omega, by omega, fun i hi => ?_⟩
  rw [kc _ _ (by simp), kd _ _ (by simp)]
  exact p10 i hi
theorem PRX_close {e : Int} {C C2 C3 D D2 D3 : mM} {z z' : Int32} (h : PRX e C C2 D D2) (hc : C3 = up C2 (4, 0, 0) 5 z) (hd : D3 = up D2 (12, 0, 0) 11 z') (hz : (C2.1 (4, 0, 0) 5).toInt = (D2.1 (12, 0, 0) 11).toInt → z.toInt = z'.toInt) : PRX e C C3 D D3 := by
  obtain ⟨⟨t, h⟩, h9⟩ := h
  refine ⟨⟨TPE_kc t (fun c k q => zupN hc (fun y => q ⟨y.1, by omega⟩)) (fun c k q => zupN hd (fun y => q ⟨y.1, by omega⟩)), ?_⟩, by rw [zupN hd (by simp)]; exact h9⟩
  rcases h with h | h
  · left
    obtain ⟨p1, p2, p3, p4, p5, p6, p7, p8, p9, p10⟩ := h
    unfold POK
    rw [zupN (k' := 4) hc (by simp), zupN (k' := 3) hc (by simp), zupN (k' := 6) hc (by simp), zupR (c' := (1, 3, 0)) hc (by simp), zupE (k' := 5) hc rfl rfl, zupN (k' := 13) hd (by simp), zupN (k' := 9) hd (by simp), zupN (k' := 12) hd (by simp), zupN (k' := 14) hd (by simp), zupN (k' := 10) hd (by simp), zupE (k' := 11) hd rfl rfl, zupR (c' := (50, 0, 0)) hd (by simp)]
    refine ⟨p1, p2, p3, p4, p5, p6, p7, p8, hz p9, fun i hi => ?_⟩
    rw [zupR hc (by simp), zupR hd (by simp)]
    exact p10 i hi
  · right
    unfold PBD at h ⊢
    rw [zupN (k' := 4) hc (by simp), zupN (k' := 13) hd (by simp), zupN (k' := 9) hd (by simp), zupR (c' := (50, 0, 0)) hd (by simp)]
    exact h
theorem opened_both {N N2 m : Nat} {QA QB QA2 QB2 : mM → mM → Prop} (hA : BOTH QA QA2) (hB : BOTH QB QB2) {e : Int} {v : Int32} {s : Int} {W : Nat} {a T : Int} {C C2 D D2 : mM} (h1 : SP_X4_readOpened N m QA QB v C C2) (h2 : SP_X12_opens N2 m QA2 QB2 v s W a T D D2) (hT : TPE C D) (h : POK e C D) (he : e ≤ 0) (qN : (D.1 (12, 0, 0) 9).toInt < (D.1 (50, 0, 0) 4).toInt) : PRX e C C2 D D2 := by
  have q0 := il_0
  have q1 := il_1
  have i41 : (41 : Int32).toInt = 41 := by decide
  have i58 : (58 : Int32).toInt = 58 := by decide
  have i63 : (63 : Int32).toInt = 63 := by decide
  have i93 : (93 : Int32).toInt = 93 := by decide
  have i9 : (2009 : Int32).toInt = 2009 := by decide
  have i8 : (2008 : Int32).toInt = 2008 := by decide
  have c9 : (2063 : Int32).toInt = cmI 2009 := by decide
  have c8 : (2126 : Int32).toInt = cmI 2008 := by decide
  have dep := h.2.2.2.2.2.2.2.2.1
  refine xE_SP_X4_readOpened h1 (fun c_z1_ c_e2_ c_h3_ => ⟨(fun c_h4_ c_z7_ c_h8_ c_M9_ c_hM10_ c_z16_ c_e17_ c_z18_ c_h19_ c_M20_ c_hM21_ => ⟨(fun c_h27_ => ⟨(fun c_h28_ _ c_M29_ _ c_hF33_ c_hs35_ c_h31_ c_M38_ _ c_hF42_ c_hs44_ c_M48_ _ c_hF52_ c_hs54_ c_h50_ c_M57_ _ c_hF61_ c_hs63_ c_M67_ _ c_hF71_ c_hs73_ c_h69_ c_M76_ _ c_hF80_ c_hs82_ c_M86_ _ c_hF90_ c_hs92_ c_z96_ c_e97_ c_h98_ c_z99_ c_h100_ c_M101_ c_hM102_ c_hM_ => ?_), (fun c_h28_ _ c_M108_ _ c_hF112_ c_hs114_ c_h110_ c_M117_ _ c_hF121_ c_hs123_ c_z127_ c_e128_ c_h129_ c_z130_ c_h131_ c_M132_ c_hM133_ c_hM_ => ?_)⟩), (fun c_h27_ _ c_M139_ _ c_hF143_ c_hs145_ c_h141_ c_M148_ _ c_hF152_ c_hs154_ c_z158_ c_e159_ c_h160_ c_z161_ c_h162_ c_M163_ c_hM164_ c_hM_ => ?_)⟩), (fun c_h4_ c_M170_ _ c_hF174_ c_hs176_ c_hM_ => ?_)⟩)
  · refine xE_SP_X12_opens h2 (fun d_z2_ d_e3_ d_h4_ d_h5_ => ⟨(fun d_h6_ d_M7_ d_hM8_ d_z17_ d_e18_ d_h19_ d_h20_ d_h21_ d_h22_ d_h23_ d_z24_ d_e25_ d_h26_ d_h27_ d_z28_ d_h29_ d_M30_ d_hM31_ d_z40_ d_e41_ d_h42_ d_h43_ d_h44_ d_z45_ d_h46_ d_M47_ d_hM48_ => ⟨(fun d_h55_ => ⟨(fun d_h56_ _ d_M57_ _ d_hF61_ d_hs63_ d_M66_ _ d_hF70_ d_hs72_ d_M74_ _ d_hF78_ d_hs80_ d_M83_ _ d_hF87_ d_hs89_ d_M91_ _ d_hF95_ d_hs97_ d_M100_ _ d_hF104_ d_hs106_ d_M108_ _ d_hF112_ d_hs114_ d_h110_ d_z116_ d_e117_ d_h118_ d_h119_ d_z120_ d_h121_ d_M122_ d_hM123_ d_hM_ => ?_), (fun d_h56_ _ d_M128_ _ d_hF132_ d_hs134_ d_M137_ _ d_hF141_ d_hs143_ d_h139_ d_z145_ d_e146_ d_h147_ d_h148_ d_z149_ d_h150_ d_M151_ d_hM152_ d_hM_ => ?_)⟩), (fun d_h55_ _ d_M157_ _ d_hF161_ d_hs163_ d_M166_ _ d_hF170_ d_hs172_ d_h168_ d_z174_ d_e175_ d_h176_ d_h177_ d_z178_ d_h179_ d_M180_ d_hM181_ d_hM_ => ?_)⟩), (fun d_h6_ d_M186_ d_hM187_ d_h193_ d_z196_ d_e197_ d_h198_ d_h199_ d_h200_ d_h201_ d_hM_ => ?_)⟩)
    · have op := PRL_open hT h qN c_e2_ c_h8_ c_hM10_ c_e17_ (show c_M20_ = up c_M9_ (4, 0, 0) 3 (c_z16_ + (1 : Int32)) by rw [c_hM21_, c_h19_]) d_hM8_ d_e25_ d_h29_ d_hM31_ d_e41_ d_h46_ d_hM48_
      have a1 := hB (e - 1) _ _ _ _ (by omega) op.1 c_hs35_ d_hs63_ c_hF33_ d_hF61_
      have a2 := expect_both c_hs44_ d_hs72_ (by omega) a1.1 c_hF42_ d_hF70_
      have a3 := hB (e - 1) _ _ _ _ (by omega) a2.1 c_hs54_ d_hs80_ c_hF52_ d_hF78_
      have a4 := expect_both c_hs63_ d_hs89_ (by omega) a3.1 c_hF61_ d_hF87_
      have a5 := hB (e - 1) _ _ _ _ (by omega) a4.1 c_hs73_ d_hs97_ c_hF71_ d_hF95_
      have a6 := expect_both c_hs82_ d_hs106_ (by omega) a5.1 c_hF80_ d_hF104_
      have a7 := PRL_code a6.1 he c_hs92_ d_hs114_ (by rw [i9]; exact c9) (by omega)
      have w1 := eT c_e97_
      have w2 := eT d_e117_
      rw [c_hM_, d_hM_]
      refine PRX_close ⟨a7.1, ?_⟩ c_hM102_ d_hM123_ (fun q => by omega)
      have := op.2
      have := a1.2
      have := a2.2
      have := a3.2
      have := a4.2
      have := a5.2
      have := a6.2
      have := a7.2
      omega
    · omega
    · omega
    · have := eT c_e2_
      have := eT d_e3_
      omega
  · refine xE_SP_X12_opens h2 (fun d_z2_ d_e3_ d_h4_ d_h5_ => ⟨(fun d_h6_ d_M7_ d_hM8_ d_z17_ d_e18_ d_h19_ d_h20_ d_h21_ d_h22_ d_h23_ d_z24_ d_e25_ d_h26_ d_h27_ d_z28_ d_h29_ d_M30_ d_hM31_ d_z40_ d_e41_ d_h42_ d_h43_ d_h44_ d_z45_ d_h46_ d_M47_ d_hM48_ => ⟨(fun d_h55_ => ⟨(fun d_h56_ _ d_M57_ _ d_hF61_ d_hs63_ d_M66_ _ d_hF70_ d_hs72_ d_M74_ _ d_hF78_ d_hs80_ d_M83_ _ d_hF87_ d_hs89_ d_M91_ _ d_hF95_ d_hs97_ d_M100_ _ d_hF104_ d_hs106_ d_M108_ _ d_hF112_ d_hs114_ d_h110_ d_z116_ d_e117_ d_h118_ d_h119_ d_z120_ d_h121_ d_M122_ d_hM123_ d_hM_ => ?_), (fun d_h56_ _ d_M128_ _ d_hF132_ d_hs134_ d_M137_ _ d_hF141_ d_hs143_ d_h139_ d_z145_ d_e146_ d_h147_ d_h148_ d_z149_ d_h150_ d_M151_ d_hM152_ d_hM_ => ?_)⟩), (fun d_h55_ _ d_M157_ _ d_hF161_ d_hs163_ d_M166_ _ d_hF170_ d_hs172_ d_h168_ d_z174_ d_e175_ d_h176_ d_h177_ d_z178_ d_h179_ d_M180_ d_hM181_ d_hM_ => ?_)⟩), (fun d_h6_ d_M186_ d_hM187_ d_h193_ d_z196_ d_e197_ d_h198_ d_h199_ d_h200_ d_h201_ d_hM_ => ?_)⟩)
    · omega
    · have op := PRL_open hT h qN c_e2_ c_h8_ c_hM10_ c_e17_ (show c_M20_ = up c_M9_ (4, 0, 0) 3 (c_z16_ + (1 : Int32)) by rw [c_hM21_, c_h19_]) d_hM8_ d_e25_ d_h29_ d_hM31_ d_e41_ d_h46_ d_hM48_
      have a1 := hB (e - 1) _ _ _ _ (by omega) op.1 c_hs114_ d_hs134_ c_hF112_ d_hF132_
      have a2 := expect_both c_hs123_ d_hs143_ (by omega) a1.1 c_hF121_ d_hF141_
      have w1 := eT c_e128_
      have w2 := eT d_e146_
      rw [c_hM_, d_hM_]
      refine PRX_close ⟨PRL_mono a2.1 (by omega), ?_⟩ c_hM133_ d_hM152_ (fun q => by omega)
      have := op.2
      have := a1.2
      have := a2.2
      omega
    · omega
    · have := eT c_e2_
      have := eT d_e3_
      omega
  · refine xE_SP_X12_opens h2 (fun d_z2_ d_e3_ d_h4_ d_h5_ => ⟨(fun d_h6_ d_M7_ d_hM8_ d_z17_ d_e18_ d_h19_ d_h20_ d_h21_ d_h22_ d_h23_ d_z24_ d_e25_ d_h26_ d_h27_ d_z28_ d_h29_ d_M30_ d_hM31_ d_z40_ d_e41_ d_h42_ d_h43_ d_h44_ d_z45_ d_h46_ d_M47_ d_hM48_ => ⟨(fun d_h55_ => ⟨(fun d_h56_ _ d_M57_ _ d_hF61_ d_hs63_ d_M66_ _ d_hF70_ d_hs72_ d_M74_ _ d_hF78_ d_hs80_ d_M83_ _ d_hF87_ d_hs89_ d_M91_ _ d_hF95_ d_hs97_ d_M100_ _ d_hF104_ d_hs106_ d_M108_ _ d_hF112_ d_hs114_ d_h110_ d_z116_ d_e117_ d_h118_ d_h119_ d_z120_ d_h121_ d_M122_ d_hM123_ d_hM_ => ?_), (fun d_h56_ _ d_M128_ _ d_hF132_ d_hs134_ d_M137_ _ d_hF141_ d_hs143_ d_h139_ d_z145_ d_e146_ d_h147_ d_h148_ d_z149_ d_h150_ d_M151_ d_hM152_ d_hM_ => ?_)⟩), (fun d_h55_ _ d_M157_ _ d_hF161_ d_hs163_ d_M166_ _ d_hF170_ d_hs172_ d_h168_ d_z174_ d_e175_ d_h176_ d_h177_ d_z178_ d_h179_ d_M180_ d_hM181_ d_hM_ => ?_)⟩), (fun d_h6_ d_M186_ d_hM187_ d_h193_ d_z196_ d_e197_ d_h198_ d_h199_ d_h200_ d_h201_ d_hM_ => ?_)⟩)
    · omega
    · omega
    · have op := PRL_open hT h qN c_e2_ c_h8_ c_hM10_ c_e17_ (show c_M20_ = up c_M9_ (4, 0, 0) 3 (c_z16_ + (1 : Int32)) by rw [c_hM21_, c_h19_]) d_hM8_ d_e25_ d_h29_ d_hM31_ d_e41_ d_h46_ d_hM48_
      have a1 := hA (e - 1) _ _ _ _ (by omega) op.1 c_hs145_ d_hs163_ c_hF143_ d_hF161_
      have a7 := PRL_code a1.1 he c_hs154_ d_hs172_ (by rw [i8]; exact c8) (by omega)
      have w1 := eT c_e159_
      have w2 := eT d_e175_
      rw [c_hM_, d_hM_]
      refine PRX_close ⟨a7.1, ?_⟩ c_hM164_ d_hM181_ (fun q => by omega)
      have := op.2
      have := a1.2
      have := a7.2
      omega
    · have := eT c_e2_
      have := eT d_e3_
      omega
  · have w1 := eT c_e2_
    refine xE_SP_X12_opens h2 (fun d_z2_ d_e3_ d_h4_ d_h5_ => ⟨(fun d_h6_ d_M7_ d_hM8_ d_z17_ d_e18_ d_h19_ d_h20_ d_h21_ d_h22_ d_h23_ d_z24_ d_e25_ d_h26_ d_h27_ d_z28_ d_h29_ d_M30_ d_hM31_ d_z40_ d_e41_ d_h42_ d_h43_ d_h44_ d_z45_ d_h46_ d_M47_ d_hM48_ => ⟨(fun d_h55_ => ⟨(fun d_h56_ _ d_M57_ _ d_hF61_ d_hs63_ d_M66_ _ d_hF70_ d_hs72_ d_M74_ _ d_hF78_ d_hs80_ d_M83_ _ d_hF87_ d_hs89_ d_M91_ _ d_hF95_ d_hs97_ d_M100_ _ d_hF104_ d_hs106_ d_M108_ _ d_hF112_ d_hs114_ d_h110_ d_z116_ d_e117_ d_h118_ d_h119_ d_z120_ d_h121_ d_M122_ d_hM123_ d_hM_ => ?_), (fun d_h56_ _ d_M128_ _ d_hF132_ d_hs134_ d_M137_ _ d_hF141_ d_hs143_ d_h139_ d_z145_ d_e146_ d_h147_ d_h148_ d_z149_ d_h150_ d_M151_ d_hM152_ d_hM_ => ?_)⟩), (fun d_h55_ _ d_M157_ _ d_hF161_ d_hs163_ d_M166_ _ d_hF170_ d_hs172_ d_h168_ d_z174_ d_e175_ d_h176_ d_h177_ d_z178_ d_h179_ d_M180_ d_hM181_ d_hM_ => ?_)⟩), (fun d_h6_ d_M186_ d_hM187_ d_h193_ d_z196_ d_e197_ d_h198_ d_h199_ d_h200_ d_h201_ d_hM_ => ?_)⟩)
    · have := eT d_e3_; omega
    · have := eT d_e3_; omega
    · have := eT d_e3_; omega
    · rw [c_hM_, d_hM_]
      exact PBD_bad hT h c_hs176_ (by rw [zupE d_hM187_ rfl rfl, q1]; omega) (fun c k q => zupN d_hM187_ q)
