section
/-! check -/
theorem RCH_map {α β : Type} {S : α → α → Prop} {T : β → β → Prop} (f : α → β) {a z : α} (h : RCH S a z) (hs : ∀ x y, S x y → T (f x) (f y)) : RCH T (f a) (f z) := rind h (fun z => RCH T (f a) (f z)) RCH.refl (fun x y p s => RCH.tail p (hs x y s))
/-- the waiting numbers' count alone differs -/
theorem WRR_n5 {b : Nat} {q : rf → Nat → Int32} {n n2 : Nat → Int32} (h : WRR b q n) (hN : NW5 n) (hn : ∀ j, j < 3567 → ¬ j = 5 → n2 j = n j) : WRR b q n2 := by
  obtain ⟨hL, hT, hW, hX, hO, hM⟩ := h
  have th := nTh_b hN
  have nw := nWa_b hN
  exact ⟨LWR_keep hL (fun _ _ _ => rfl) (fun j hj => hn j (by omega) (by omega)), THR_keep hT th.2 (fun _ _ _ => rfl) (fun j hj => hn j (by omega) (by omega)), WAR_keep hW nw.2 (fun _ _ _ _ => rfl) rfl (fun j hj => hn j (by omega) (by omega)),
    TXR_keep hX (TXz hN) (fun _ _ _ _ _ => rfl) (fun j h1 h2 => hn j (by omega) (by omega)), OCC_keep hO th.2 nw.2 (fun _ => rfl) (fun j hj => hn j (by omega) (by omega)) (fun j hj => hn j (by omega) (by omega)), MIR_keep hM th.2 nw.2 (fun j hj => hn j (by omega) (by omega)) (fun w h1 h2 => ⟨fun k hk => hn _ (by omega) (by omega), fun c hc => hn _ (by omega) (by omega)⟩)⟩
theorem RW_n5 {b : Nat} {q : rf → Nat → Int32} {n n2 : Nat → Int32} (h : RW b q n) (hN : NW5 n) (hn : ∀ j, j < 3567 → ¬ j = 5 → n2 j = n j) (h5 : (n2 5).toInt = 0) : RW b q n2 := by
  have nb := n345_b hN
  exact ⟨WRR_n5 h.1 hN hn, LER_keep h.2.1 nb.1.2 (fun _ _ _ => rfl) (fun j hj => hn j (by omega) (by omega)), TAR_keep h.2.2.1 nb.2.1.2 (fun _ => rfl) (fun j hj => hn j (by omega) (by omega)), fun i hi => by omega⟩
def CHc (w : Nat) (x y : Int32 × Int32 × mM) : Prop := x.2.1.toInt = 0 ∧ x.1.toInt < (x.2.2.1 (5, 2, 1) 1).toInt ∧ ∃ r : Int32, SP_X10_passTenth 2 x.2.2 y.2.2 ∧ FR (S_c_X10_passTenth 2) x.2.2 y.2.2 ∧ SP_X5_get 2 1 x.1 y.2.2 r ∧ y.1.toInt = x.1.toInt + 1 ∧ (((y.2.2.1 (9, 2, w) 1).toInt = r.toInt ∧ y.2.1.toInt = 0) ∨ (¬ (y.2.2.1 (9, 2, w) 1).toInt = r.toInt ∧ y.2.1.toInt = 1 + x.1.toInt))
def CHd (w : Nat) (N : Int) (x y : Int32 × Int32 × mM) : Prop := x.2.1.toInt = 0 ∧ (0 ≤ x.1.toInt ∧ x.1.toInt < N) ∧ SP_X12_tenth x.2.2 y.2.2 ∧ InvD x.2.2 ∧ y.1.toInt = x.1.toInt + 1 ∧ (((y.2.2.1 (50, 0, 0) (181 + 9 * w)).toInt = (y.2.2.1 (50, 0, 0) (321 + x.1.toInt.toNat)).toInt ∧ y.2.1.toInt = 0) ∨ (¬ (y.2.2.1 (50, 0, 0) (181 + 9 * w)).toInt = (y.2.2.1 (50, 0, 0) (321 + x.1.toInt.toNat)).toInt ∧ y.2.1.toInt = 1 + x.1.toInt))
def CHR (w : Nat) (N : Int) (x y : Int32 × Int32 × mM) : Prop := x.1.toInt = y.1.toInt ∧ x.2.1.toInt = y.2.1.toInt ∧ WRR 2 x.2.2.1 (y.2.2.1 (50, 0, 0)) ∧ (y.2.2.1 (12, 0, 0) 7).toInt = -1 ∧ (x.2.2.1 (5, 2, 1) 1).toInt = N ∧ (w : Int) < nWa (y.2.2.1 (50, 0, 0)) ∧ ∀ i : Nat, (i : Int) < N → x.2.2.1 (33, 2, 1) i = y.2.2.1 (50, 0, 0) (321 + i)
theorem check_loop {w : Nat} {N : Int} {C D : mM} {z t : Int32 × Int32 × mM} (hN : N ≤ 24) (h0 : CHR w N ((0 : Int32), (0 : Int32), C) ((0 : Int32), (0 : Int32), D)) (hc : RCH (CHc w) ((0 : Int32), (0 : Int32), C) z) (hd : RCH (CHd w N) ((0 : Int32), (0 : Int32), D) t)
    (fc : ¬ z.2.1.toInt = 0 ∨ (z.2.2.1 (5, 2, 1) 1).toInt ≤ z.1.toInt) (fd : ¬ t.2.1.toInt = 0 ∨ N ≤ t.1.toInt) : CHR w N z t := by
  have q0 := il_0
  have hl1 : ((rl 1 : Nat) : Int) = 24 := by decide
  refine lockE (CHR w N) hc hd h0 ?_ ?_ ?_
  · intro x z y t r s1 s2
    obtain ⟨r1, r2, r3, r4, r5, r6, r7⟩ := r
    obtain ⟨s0, s3, rr, s4, s5, s6, s7, s8⟩ := s1
    obtain ⟨t0, t3, t4, t5, t7, t8⟩ := s2
    have tb := tenth_both s4 t4 r3 t5 r4
    obtain ⟨b1, b2, b3⟩ := tb
    have kf := FSP_X12_tenth t4
    have kt := KSP_X12_tenth t4
    have nw := nWa_b t5.2.1
    have n2 : nWa (t.2.2.1 (50, 0, 0)) = nWa (y.2.2.1 (50, 0, 0)) := by unfold nWa; rw [kt 2 (by omega) (by first | decide | simp | (dsimp only; omega))]
    have c5 : z.2.2.1 (5, 2, 1) 1 = x.2.2.1 (5, 2, 1) 1 := s5 _ _ (fun q => by simp only [S_c_X10_passTenth, or_false] at q; omega)
    have c33 : ∀ i, z.2.2.1 (33, 2, 1) i = x.2.2.1 (33, 2, 1) i := fun i => s5 _ _ (fun q => by simp only [S_c_X10_passTenth, or_false] at q; omega)
    have wt : ∀ i : Nat, (i : Int) < N → z.2.2.1 (33, 2, 1) i = t.2.2.1 (50, 0, 0) (321 + i) := fun i hi => by rw [c33, kf _ (by omega) (by omega)]; exact r7 i hi
    have gt : rr = z.2.2.1 (33, 2, 1) x.1.toInt.toNat := by
      refine xE_SP_X5_get s6 ⟨(fun m_h1_ m_hr_ => ?_), (fun m_h1_ m_z2_ m_e3_ => ⟨(fun m_h4_ m_hr_ => ?_), (fun m_h4_ m_z5_ m_h6_ => ⟨(fun m_h7_ m_hr_ => ?_), (fun m_h7_ m_j10_ m_h11_ m_z8_ m_e9_ m_hr_ => ?_)⟩)⟩)⟩
      · omega
      · have := eT m_e3_
        rw [c5] at this
        omega
      · omega
      · rw [m_hr_, m_e9_, show m_j10_ = x.1.toInt.toNat by omega]
    have g33 := eT (wt x.1.toInt.toNat (by omega))
    rw [← gt, show 321 + x.1.toInt.toNat = 321 + y.1.toInt.toNat by omega] at g33
    have cel := eT ((b1.2.2.1.2 w (by omega)).1 1 (by omega))
    rw [show 180 + 9 * w + 1 = 181 + 9 * w by omega] at cel
    exact ⟨by omega, by omega, b1, b3, by rw [c5]; exact r5, by omega, wt⟩
  · intro y y' r s2
    obtain ⟨r1, r2, r3, r4, r5, r6, r7⟩ := r
    obtain ⟨t0, t3, -⟩ := s2
    omega
  · intro x x' r s1
    obtain ⟨r1, r2, r3, r4, r5, r6, r7⟩ := r
    obtain ⟨s0, s3, -⟩ := s1
    omega
theorem cb_38 {v : Int32} {M M1 D D2 : mM} {r1 r2 : Int32} (h1 : SP_X11_check v M r1 M1) (h2 : SP_X12_check v D r2 D2) (hR : RW 0 M.1 (D.1 (50, 0, 0))) (hD : InvD D) (hu : (D.1 (12, 0, 0) 7).toInt = -1) (h4 : M.1 (5, 0, 0) 1 = D.1 (50, 0, 0) 4) (h5 : M.1 (5, 0, 1) 1 = D.1 (50, 0, 0) 5) : RW 0 M1.1 (D2.1 (50, 0, 0)) ∧ r1 = r2 := by
  have q0 := il_0
  have q1 := il_1
  have hN : NW5 (D.1 (50, 0, 0)) := hD.2.1
  have n5 := (n345_b hN).2.2
  have nW := nWa_b hN
  have bW := eT hR.1.2.2.1.1
  have w2 : (D.1 (50, 0, 0) 2).toInt = nWa (D.1 (50, 0, 0)) := rfl
  have e5 := eT h5
  -- the class's steps
  have stC : ∀ (w : Nat) (x y : Int32 × mM), (w : Int) = v.toInt → ST_X11_check_50 v M x.1 x.2 y.1 y.2 → CHc w (x.1, (0 : Int32), x.2) (y.1, (0 : Int32), y.2) := fun w x y hw st => by
    refine xE_ST_X11_check_50 st (fun k_hv0_50 _ k_hF_50 k_z22_ k_e23_ k_h24_ k_M25_ _ k_hF29_ k_hs31_ k_j32_ k_h33_ k_h34_ k_z35_ k_e36_ k_r37_ k_hs41_ k_h42_ k_z43_ k_h44_ k_hq_v2_50y k_hM_ => ?_)
    have yk := eT k_e36_
    have yz := eT k_e23_
    refine ⟨q0, by dsimp only; omega, k_r37_, by dsimp only; rw [k_hM_]; exact k_hs31_, by dsimp only; rw [k_hM_]; exact k_hF29_, by dsimp only; rw [k_hM_]; exact k_hs41_, by dsimp only; rw [k_hq_v2_50y]; omega, Or.inl ⟨?_, q0⟩⟩
    (try dsimp only)
    rw [k_hM_, show w = k_j32_ by omega]
    omega
  have stD : ∀ (w : Nat) (z1 : Int32) (x y : Int32 × Int32 × mM), (w : Int) = v.toInt → 0 ≤ v.toInt ∧ v.toInt ≤ 7 → ST_X12_check_46 v D z1 x.1 x.2.1 x.2.2 y.1 y.2.1 y.2.2 → CHd w z1.toInt x y := fun w z1 x y hw hv st => by
    refine xE_ST_X12_check_46 st (fun k_hv0_46 k_hv1_46 k_hI_46 k_hF_46 k_h23_ k_h32_ k_M41_ k_hI44_ k_hF45_ k_hs47_ k_r48_ k_hs52_ k_h51_ k_z53_ k_h54_ k_j57_ k_h58_ k_z55_ k_e56_ k_h59_ k_z60_ k_h61_ k_j64_ k_h65_ k_z62_ k_e63_ => ⟨(fun k_h66_ k_z67_ k_h68_ k_z69_ k_h70_ k_hq_v4_46y k_hq_v3_46y k_hM_ => ?_), (fun k_h66_ k_z71_ k_h72_ k_hq_v4_46y k_hq_v3_46y k_hM_ => ?_)⟩)
    · have y1 := eT k_e56_
      have y2 := eT k_e63_
      refine ⟨k_h32_, ⟨k_hv0_46, k_h23_⟩, by rw [k_hM_]; exact k_hs47_, k_hI_46, by rw [k_hq_v4_46y]; omega, Or.inr ⟨?_, by rw [k_hq_v3_46y]; omega⟩⟩
      rw [k_hM_, show 181 + 9 * w = k_j57_ by omega, show 321 + x.1.toInt.toNat = k_j64_ by omega]
      omega
    · have y1 := eT k_e56_
      have y2 := eT k_e63_
      refine ⟨k_h32_, ⟨k_hv0_46, k_h23_⟩, by rw [k_hM_]; exact k_hs47_, k_hI_46, by rw [k_hq_v4_46y]; omega, Or.inl ⟨?_, by rw [k_hq_v3_46y]; exact q0⟩⟩
      rw [k_hM_, show 181 + 9 * w = k_j57_ by omega, show 321 + x.1.toInt.toNat = k_j64_ by omega]
      omega
  -- where both begin
  have beg : ∀ {C7 C D4 D14 : mM} {w : Nat}, (w : Int) < nWa (D.1 (50, 0, 0)) → SP_X10_takeFrom 2 0 M C7 → FR (S_c_X5_clear 0 1) C7 C → D4 = up D (50, 0, 0) 5 0 → FR (S_c_copy_50_52) D4 D14 → CHR w (D.1 (50, 0, 0) 5).toInt ((0 : Int32), (0 : Int32), C) ((0 : Int32), (0 : Int32), D14) := fun {C7 C D4 D14 w} hw a1 a2 a3 a4 => by
    have tk := RW_take (b := 2) hR hN a1 (by omega) (by rw [h4]) (by rw [h5])
    have X := x10take a1 (by omega) (by rw [h4]; exact (n345_b hN).2.1.2) (by rw [h5]; exact n5.2)
    have d14 : ∀ k, D14.1 (50, 0, 0) k = D4.1 (50, 0, 0) k := fun k => a4 _ _ (fun q => by simp only [S_c_copy_50_52, or_false] at q; omega)
    have d5 : ∀ k, ¬ k = 5 → D14.1 (50, 0, 0) k = D.1 (50, 0, 0) k := fun k hk => by rw [d14, zupN a3 (fun z => hk z.2)]
    have c2 : ∀ (c : rf) (k : Nat), c.2.1 = 2 → C.1 c k = C7.1 c k := fun c k hc => a2 c k (fun q => by simp only [S_c_X5_clear, or_false] at q; omega)
    refine ⟨rfl, rfl, WRR_n5 (WRR_same tk.1 hN (fun c k _ hc => c2 c k hc)) hN (fun j _ hj => d5 j hj), ?_, ?_, ?_, fun i hi => ?_⟩
    · (try dsimp only)
      rw [a4 (12, 0, 0) 7 (fun q => by simp only [S_c_copy_50_52, or_false] at q; omega), zupR a3 (by simp)]
      exact hu
    · (try dsimp only)
      rw [c2 _ _ rfl, X.2.2.1 1 (by omega), h5]
    · (try dsimp only)
      unfold nWa
      rw [d5 2 (by omega)]
      exact hw
    · (try dsimp only)
      rw [c2 _ _ rfl, d5 _ (by omega)]
      exact tk.2.2.2 i hi
  have fin : ∀ {q : rf → Nat → Int32} {n2 : Nat → Int32}, (∀ (c : rf) (k : Nat), wR c.1 → c.2.1 = 0 → q c k = M.1 c k) → (∀ j, j < 3567 → ¬ j = 5 → n2 j = D.1 (50, 0, 0) j) → (n2 5).toInt = 0 → RW 0 q n2 := fun hq hn hz => RW_n5 (RW_same hR hN hq) hN hn hz
  -- the model's row behind it
  have rowD : ∀ {D4 D14 D46 D24 : mM}, D4 = up D (50, 0, 0) 5 0 → SP_copy_50_52 D4 D14 → FR (S_c_copy_50_52) D4 D14 → (∀ k, D46.1 (52, 0, 0) k = D14.1 (52, 0, 0) k) → SP_copy_52_50 D46 D24 → FR (S_c_copy_52_50) D46 D24 → (∀ j, j < 3567 → ¬ j = 5 → D24.1 (50, 0, 0) j = D.1 (50, 0, 0) j) ∧ (D24.1 (50, 0, 0) 5).toInt = 0 := fun {D4 D14 D46 D24} a1 a2 a3 a4 a5 a6 => by
    have e : ∀ j, j < 3567 → D24.1 (50, 0, 0) j = D4.1 (50, 0, 0) j := fun j hj => by
      rw [cpy50b a5 j hj, a6 (52, 0, 0) j (fun q => by simp only [S_c_copy_52_50, or_false] at q; omega), a4, cpy52 a2 j hj]
      exact a3 _ _ (fun q => by simp only [S_c_copy_50_52, or_false] at q; omega)
    exact ⟨fun j hj h => by rw [e j hj, zupN a1 (fun z => h z.2)], by rw [e 5 (by omega), zupE a1 rfl rfl]; exact q0⟩
  have loop52 : ∀ {D14 : mM} {z1 : Int32} {t : Int32 × Int32 × mM}, RCH (fun x y : Int32 × Int32 × mM => ST_X12_check_46 v D z1 x.1 x.2.1 x.2.2 y.1 y.2.1 y.2.2) ((0 : Int32), (0 : Int32), D14) t → ∀ k, t.2.2.1 (52, 0, 0) k = D14.1 (52, 0, 0) k := fun {D14 z1 t} h => by
    refine rind h (fun z => ∀ k, z.2.2.1 (52, 0, 0) k = D14.1 (52, 0, 0) k) (fun _ => rfl) (fun x z p st => ?_)
    intro k
    (try dsimp only at p st ⊢)
    refine xE_ST_X12_check_46 st (fun k_hv0_46 k_hv1_46 _ k_hF_46 k_h23_ k_h32_ k_M41_ _ k_hF45_ k_hs47_ k_r48_ k_hs52_ k_h51_ k_z53_ k_h54_ k_j57_ k_h58_ k_z55_ k_e56_ k_h59_ k_z60_ k_h61_ k_j64_ k_h65_ k_z62_ k_e63_ => ⟨(fun k_h66_ k_z67_ k_h68_ k_z69_ k_h70_ k_hq_v4_46y k_hq_v3_46y k_hM_ => ?_), (fun k_h66_ k_z71_ k_h72_ k_hq_v4_46y k_hq_v3_46y k_hM_ => ?_)⟩)
    · rw [k_hM_, k_hF45_ _ _ (fun q => by simp only [S_c_X12_tenth, or_false] at q; omega)]; exact p k
    · rw [k_hM_, k_hF45_ _ _ (fun q => by simp only [S_c_X12_tenth, or_false] at q; omega)]; exact p k
  refine xE_SP_X11_check h1 ⟨(fun c_hs5_ c_h4_ c_M7_ _ c_hF11_ c_hs13_ c_M14_ _ c_hF18_ c_hs20_ c_v2_50 c_hv0_50 c_M_50 c_hL_50 _ c_hF_50 c_z22_ c_e23_ => ⟨(fun c_h24_ c_hr_ c_hM_ => ?_), (fun c_h24_ c_M25_ _ c_hF29_ c_hs31_ c_j32_ c_h33_ c_h34_ c_z35_ c_e36_ c_r37_ c_hs41_ c_h42_ c_z45_ c_h46_ c_hr_ c_hM_ => ?_)⟩), (fun c_hs5_ c_M48_ _ c_hF52_ c_hs54_ c_M56_ _ c_hF60_ c_r55_ c_hs62_ c_hr_ c_hM_ => ?_)⟩
  · have qh := x10has c_hs5_
    have kM : ∀ (c : rf) (k : Nat), wR c.1 → c.2.1 = 0 → M1.1 c k = M.1 c k := fun c k a b => by rw [c_hM_]; exact c_hF_50 c k (fun q => by unfold wR at a; simp only [S_c_X11_check, or_false] at q; omega)
    have yc := eT c_e23_
    refine xE_SP_X12_check h2 (fun d_z1_ d_e2_ d_h3_ d_M4_ d_hM5_ _ => ⟨(fun d_hs12_ d_h11_ d_M14_ _ d_hF18_ d_hs20_ d_v4_46 d_hv0_46 d_hv1_46 d_v3_46 d_M_46 d_hL_46 _ d_hF_46 => ⟨(fun d_h23_ d_M24_ _ d_hF28_ d_hs30_ d_hr_ d_hM_ => ?_), (fun d_h23_ d_h32_ d_M33_ _ d_hF37_ d_hs39_ d_hr_ d_hM_ => ?_)⟩), (fun d_hs12_ d_M75_ _ d_hF79_ d_r74_ d_hs81_ d_h77_ d_hr_ d_hM_ => ?_)⟩)
    · have cb := beg (w := v.toInt.toNat) (by omega) c_hs13_ c_hF18_ d_hM5_ d_hF18_
      have yd := eT d_e2_
      rw [← yd] at cb
      have L := check_loop (by omega) cb (RCH_map (fun x : Int32 × mM => (x.1, (0 : Int32), x.2)) c_hL_50 (fun x y s => stC _ x y (by omega) s)) (RCH_mono d_hL_46 (fun x y s => stD _ _ x y (by omega) d_h11_ s)) (Or.inr (by dsimp only; omega)) (Or.inr (by dsimp only; omega))
      obtain ⟨l1, l2, -⟩ := L
      obtain ⟨g1, g2⟩ := rowD d_hM5_ d_hs20_ d_hF18_ (loop52 d_hL_46) d_hs30_ d_hF28_
      rw [d_hM_]
      exact ⟨fin kM g1 g2, by rw [c_hr_, d_hr_]; exact i32e l2⟩
    · have cb := beg (w := v.toInt.toNat) (by omega) c_hs13_ c_hF18_ d_hM5_ d_hF18_
      have yd := eT d_e2_
      rw [← yd] at cb
      have L := check_loop (by omega) cb (RCH_map (fun x : Int32 × mM => (x.1, (0 : Int32), x.2)) c_hL_50 (fun x y s => stC _ x y (by omega) s)) (RCH_mono d_hL_46 (fun x y s => stD _ _ x y (by omega) d_h11_ s)) (Or.inr (by dsimp only; omega)) (Or.inl d_h32_)
      obtain ⟨l1, l2, -⟩ := L
      obtain ⟨g1, g2⟩ := rowD d_hM5_ d_hs20_ d_hF18_ (loop52 d_hL_46) d_hs39_ d_hF37_
      rw [d_hM_]
      exact ⟨fin kM g1 g2, by rw [c_hr_, d_hr_]; exact i32e l2⟩
    · have qi := is2x d_hs12_
      rw [zupN d_hM5_ (by simp)] at qi
      omega
  · have qh := x10has c_hs5_
    have kM : ∀ (c : rf) (k : Nat), wR c.1 → c.2.1 = 0 → M1.1 c k = M.1 c k := fun c k a b => by rw [c_hM_, c_hF29_ c k (fun q => by simp only [S_c_X10_passTenth, or_false] at q; omega)]; exact c_hF_50 c k (fun q => by unfold wR at a; simp only [S_c_X11_check, or_false] at q; omega)
    have yc := eT c_e23_
    have y36 := eT c_e36_
    have last : CHc v.toInt.toNat (c_v2_50, (0 : Int32), c_M_50) (c_z45_, c_z45_, c_M25_) := by
      refine ⟨q0, by dsimp only; omega, c_r37_, c_hs31_, c_hF29_, c_hs41_, by dsimp only; omega, Or.inr ⟨?_, by dsimp only; omega⟩⟩
      (try dsimp only)
      rw [show v.toInt.toNat = c_j32_ by omega]
      omega
    refine xE_SP_X12_check h2 (fun d_z1_ d_e2_ d_h3_ d_M4_ d_hM5_ _ => ⟨(fun d_hs12_ d_h11_ d_M14_ _ d_hF18_ d_hs20_ d_v4_46 d_hv0_46 d_hv1_46 d_v3_46 d_M_46 d_hL_46 _ d_hF_46 => ⟨(fun d_h23_ d_M24_ _ d_hF28_ d_hs30_ d_hr_ d_hM_ => ?_), (fun d_h23_ d_h32_ d_M33_ _ d_hF37_ d_hs39_ d_hr_ d_hM_ => ?_)⟩), (fun d_hs12_ d_M75_ _ d_hF79_ d_r74_ d_hs81_ d_h77_ d_hr_ d_hM_ => ?_)⟩)
    · have cb := beg (w := v.toInt.toNat) (by omega) c_hs13_ c_hF18_ d_hM5_ d_hF18_
      have yd := eT d_e2_
      rw [← yd] at cb
      have L := check_loop (by omega) cb (RCH.tail (RCH_map (fun x : Int32 × mM => (x.1, (0 : Int32), x.2)) c_hL_50 (fun x y s => stC _ x y (by omega) s)) last) (RCH_mono d_hL_46 (fun x y s => stD _ _ x y (by omega) d_h11_ s)) (Or.inl (by dsimp only; omega)) (Or.inr (by dsimp only; omega))
      obtain ⟨l1, l2, -⟩ := L
      obtain ⟨g1, g2⟩ := rowD d_hM5_ d_hs20_ d_hF18_ (loop52 d_hL_46) d_hs30_ d_hF28_
      rw [d_hM_]
      exact ⟨fin kM g1 g2, by rw [c_hr_, d_hr_]; exact i32e l2⟩
    · have cb := beg (w := v.toInt.toNat) (by omega) c_hs13_ c_hF18_ d_hM5_ d_hF18_
      have yd := eT d_e2_
      rw [← yd] at cb
      have L := check_loop (by omega) cb (RCH.tail (RCH_map (fun x : Int32 × mM => (x.1, (0 : Int32), x.2)) c_hL_50 (fun x y s => stC _ x y (by omega) s)) last) (RCH_mono d_hL_46 (fun x y s => stD _ _ x y (by omega) d_h11_ s)) (Or.inl (by dsimp only; omega)) (Or.inl d_h32_)
      obtain ⟨l1, l2, -⟩ := L
      obtain ⟨g1, g2⟩ := rowD d_hM5_ d_hs20_ d_hF18_ (loop52 d_hL_46) d_hs39_ d_hF37_
      rw [d_hM_]
      exact ⟨fin kM g1 g2, by rw [c_hr_, d_hr_]; exact i32e l2⟩
    · have qi := is2x d_hs12_
      rw [zupN d_hM5_ (by simp)] at qi
      omega
  · have qh := x10has c_hs5_
    refine xE_SP_X12_check h2 (fun d_z1_ d_e2_ d_h3_ d_M4_ d_hM5_ _ => ⟨(fun d_hs12_ d_h11_ d_M14_ _ d_hF18_ d_hs20_ d_v4_46 d_hv0_46 d_hv1_46 d_v3_46 d_M_46 d_hL_46 _ d_hF_46 => ⟨(fun d_h23_ d_M24_ _ d_hF28_ d_hs30_ d_hr_ d_hM_ => ?_), (fun d_h23_ d_h32_ d_M33_ _ d_hF37_ d_hs39_ d_hr_ d_hM_ => ?_)⟩), (fun d_hs12_ d_M75_ _ d_hF79_ d_r74_ d_hs81_ d_h77_ d_hr_ d_hM_ => ?_)⟩)
    · have qi := is2x d_hs12_
      rw [zupN d_hM5_ (by simp)] at qi
      omega
    · have qi := is2x d_hs12_
      rw [zupN d_hM5_ (by simp)] at qi
      omega
    · refine ⟨fin (fun c k a b => ?_) (fun j hj h => ?_) ?_, i32e ?_⟩
      · rw [c_hM_, c_hF60_ c k (fun q => by unfold wR at a; simp only [S_c_X11_error, or_false] at q; omega)]
        exact c_hF52_ c k (fun q => by unfold wR at a; simp only [S_c_X5_clear, or_false] at q; omega)
      · rw [d_hM_, d_hF79_ _ _ (fun q => by simp only [S_c_X12_finding, or_false] at q; omega), zupN d_hM5_ (fun z => h z.2)]
      · rw [d_hM_, d_hF79_ _ _ (fun q => by simp only [S_c_X12_finding, or_false] at q; omega), zupE d_hM5_ rfl rfl]
        exact q0
      · have e := err_r c_hs62_ (by first | decide | simp | (dsimp only; omega))
        rw [c_hr_, d_hr_, e, d_h77_]
        decide
end
section
/-! the full relation -/
def RY (m : rf → Nat → Int32) : Prop := RXz m ∧ (m (12, 0, 0) 7).toInt = -1 ∧ RW 0 m (m (50, 0, 0)) ∧ (¬ (m (12, 0, 0) 3).toInt = 0 → RW 1 m (m (51, 0, 0))) ∧ SHR m m
/-- class cells, model cells -/
def cC (S : rf → Nat → Prop) : Prop := ∀ (c : rf) (k : Nat), S c k → ¬ (c.1 = 12 ∨ 50 ≤ c.1)
def cD (S : rf → Nat → Prop) : Prop := ∀ (c : rf) (k : Nat), S c k → c.1 = 12 ∨ 50 ≤ c.1
theorem wR_cls {r : Nat} (h : wR r) : ¬ (r = 12 ∨ 50 ≤ r) := by unfold wR at h; omega
/-- what a call's two halves tell of the memory behind both -/
theorem RY_of {S1 S2 : rf → Nat → Prop} {M M1 M2 : mM} (h : RY M.1) (hF1 : FR S1 M M1) (hF2 : FR S2 M1 M2) (s1 : cC S1) (s2 : cD S2) (hx : RXz M2.1) (hN : NW5 (M2.1 (50, 0, 0))) (hN1 : NW5 (M2.1 (51, 0, 0)))
    (h7 : (M2.1 (12, 0, 0) 7).toInt = -1) (hw : RW 0 M1.1 (M2.1 (50, 0, 0)))
    (hi : (M2.1 (12, 0, 0) 3 = M1.1 (12, 0, 0) 3 ∧ (∀ (c : rf) (k : Nat), wR c.1 → c.2.1 = 1 → ¬ S1 c k) ∧ ∀ k, ¬ S2 (51, 0, 0) k) ∨ (¬ (M2.1 (12, 0, 0) 3).toInt = 0 → RW 1 M1.1 (M2.1 (51, 0, 0)))) (hs : SHR M1.1 M2.1) : RY M2.1 := by
  have c2 : ∀ (c : rf) (k : Nat), ¬ (c.1 = 12 ∨ 50 ≤ c.1) → M2.1 c k = M1.1 c k := fun c k q => hF2 c k (fun z => q (s2 c k z))
  have c1 : ∀ (c : rf) (k : Nat), c.1 = 12 ∨ 50 ≤ c.1 → M1.1 c k = M.1 c k := fun c k q => hF1 c k (fun z => s1 c k z q)
  obtain ⟨-, -, -, h4, -⟩ := h
  refine ⟨hx, h7, RW_same hw hN (fun c k a _ => c2 c k (wR_cls a)), fun q => ?_, SHR_keep hs (fun c k a => c2 c k (by omega)) (fun _ _ _ => rfl)⟩
  refine RW_same ?_ hN1 (fun c k a _ => c2 c k (wR_cls a))
  rcases hi with ⟨i1, i2, i3⟩ | hi
  · have e51 : M2.1 (51, 0, 0) = M.1 (51, 0, 0) := funext fun k => by rw [hF2 _ _ (i3 k), c1 _ _ (by simp)]
    rw [i1, c1 _ _ (by simp)] at q
    rw [e51] at hN1 ⊢
    exact RW_same (h4 q) hN1 (fun c k a b => hF1 c k (i2 c k a b))
  · exact hi q
/-- a call that leaves all of it -/
theorem RY_fr {S1 S2 : rf → Nat → Prop} {M M1 M2 : mM} (h : RY M.1) (hF1 : FR S1 M M1) (hF2 : FR S2 M1 M2) (s1 : cC S1) (s2 : cD S2) (hx : RXz M2.1) (hN : NW5 (M2.1 (50, 0, 0))) (hN1 : NW5 (M2.1 (51, 0, 0)))
    (a1 : ∀ (c : rf) (k : Nat), wR c.1 ∨ c.1 = 6 → c.2.1 < 2 → ¬ S1 c k) (a2 : ∀ (c : rf) (k : Nat), c = (50, 0, 0) ∨ c = (51, 0, 0) ∨ (c = (12, 0, 0) ∧ (k = 3)) ∨ c.1 = 66 ∨ c.1 = 67 ∨ c.1 = 68 → ¬ S2 c k) (a34 : ∀ (c : rf) (k : Nat), c.1 = 6 ∨ c.1 = 34 → ¬ S1 c k) (h7 : (M2.1 (12, 0, 0) 7).toInt = -1) : RY M2.1 := by
  have c1 : ∀ (c : rf) (k : Nat), c.1 = 12 ∨ 50 ≤ c.1 → M1.1 c k = M.1 c k := fun c k q => hF1 c k (fun z => s1 c k z q)
  have e50 : M2.1 (50, 0, 0) = M.1 (50, 0, 0) := funext fun k => by rw [hF2 _ _ (a2 _ _ (Or.inl rfl)), c1 _ _ (by simp)]
  have h0 := h
  obtain ⟨-, -, h3, -, h5⟩ := h0
  refine RY_of h hF1 hF2 s1 s2 hx hN hN1 h7 ?_ (Or.inl ⟨hF2 _ _ (a2 _ _ (by simp)), fun c k a b => a1 c k (Or.inl a) (by omega), fun k => a2 _ _ (by simp)⟩) ?_
  · rw [e50] at hN ⊢
    exact RW_same h3 hN (fun c k a b => hF1 c k (a1 c k (Or.inl a) (by omega)))
  · exact SHR_keep h5 (fun c k a => hF1 c k (a34 c k a)) (fun c k a => by rw [hF2 c k (a2 c k (by omega)), c1 c k (by omega)])
end
section
/-! the unseen walker is put back -/
theorem UST_X12_findTold_3 {u : Int32} {Mz : mM} {v4_3 : Int32} {M_3 : mM} {v4_3y : Int32} {M_3y : mM} (h : ST_X12_findTold_3 u Mz v4_3 M_3 v4_3y M_3y) (h0 : (M_3.1 (12, 0, 0) 7).toInt = -1) : (M_3y.1 (12, 0, 0) 7).toInt = -1 := by
  refine xE_ST_X12_findTold_3 h (fun hv0_3 hv1_3 _ hF_3 h2_ z75_ h76_ z77_ h78_ j81_ h82_ M79_ hM80_ z85_ h86_ hq_v4_3y hM_ => ?_)
  · rw [hM_]
    have u1_ : (M79_.1 (12, 0, 0) 7).toInt = -1 := by rw [zupN hM80_ (by simp)]; exact h0
    exact u1_
theorem USP_X12_findTold {v : Int32} {u : Int32} {t : Int32} {Mz : mM} {M_ : mM} (h : SP_X12_findTold v u t Mz M_) (h0 : (Mz.1 (12, 0, 0) 7).toInt = -1) : (M_.1 (12, 0, 0) 7).toInt = -1 := by
  refine xE_SP_X12_findTold h (fun v4_3 hv0_3 hv1_3 M_3 hL_3 _ hF_3 h2_ M3_ hM4_ v4_39 hv0_39 hv1_39 M_39 hL_39 _ hF_39 h8_ M9_ hM10_ hM_ => ?_)
  · rw [hM_]
    have u1_ := rind hL_3 (fun z_ => (z_.2.1 (12, 0, 0) 7).toInt = -1) h0 (fun x_ z_ h1_ h2_ => UST_X12_findTold_3 h2_ h1_)
    have u4_ : (M9_.1 (12, 0, 0) 7).toInt = -1 := by rw [zupE hM10_ rfl rfl]; exact il_m1
    exact u4_
theorem UST_X12_spots_80 {v : Int32} {u : Int32} {Mz : mM} {v6_80 : Int32} {v5_80 : Int32} {M_80 : mM} {v6_80y : Int32} {v5_80y : Int32} {M_80y : mM} (h : ST_X12_spots_80 v u Mz v6_80 v5_80 M_80 v6_80y v5_80y M_80y) (h0 : (M_80.1 (12, 0, 0) 7).toInt = -1) : (M_80y.1 (12, 0, 0) 7).toInt = -1 := by
  refine xE_ST_X12_spots_80 h (fun hv0_80 _ hF_80 j39_ h40_ z37_ e38_ h41_ h42_ h43_ z100_ h101_ z102_ h103_ j106_ h107_ z104_ e105_ r108_ hs112_ h111_ => ⟨(fun h113_ z114_ h115_ hq_v6_80y hq_v5_80y hM_ => ?_), (fun h113_ z116_ h117_ z118_ h119_ z120_ h121_ z122_ h123_ j126_ h127_ z124_ e125_ M128_ _ hF132_ hs134_ z136_ h137_ hq_v6_80y hq_v5_80y hM_ => ?_)⟩)
  · rw [hM_]
    exact h0
  · rw [hM_]
    have u1_ : (M128_.1 (12, 0, 0) 7).toInt = -1 := USP_X12_findTold hs134_ h0
    exact u1_
theorem USP_X12_spots {v : Int32} {u : Int32} {t : Int32} {s : Int32} {Mz : mM} {r_ : Int32} {M_ : mM} (h : SP_X12_spots v u t s Mz r_ M_) (h0 : (Mz.1 (12, 0, 0) 7).toInt = -1) : (M_.1 (12, 0, 0) 7).toInt = -1 := by
  refine xE_SP_X12_spots h ⟨(fun hs5_ h4_ => ⟨(fun hs11_ h10_ => ⟨(fun hs17_ h16_ => ⟨(fun hs23_ h22_ j27_ h28_ z25_ e26_ => ⟨(fun h29_ => ⟨(fun hs34_ h33_ v6_80 hv0_80 v5_80 M_80 hL_80 _ hF_80 j39_ h40_ z37_ e38_ h41_ h42_ h43_ r44_ hs48_ => ⟨(fun h49_ v8_169 hv0_169 v7_169 v6_169 hL_169 j53_ h54_ z51_ e52_ h55_ h56_ z57_ h58_ h59_ => ⟨(fun h60_ hr_ hM_ => ?_), (fun h60_ hr_ hM_ => ?_)⟩), (fun h49_ M92_ _ hF96_ r91_ hs98_ h94_ hr_ hM_ => ?_)⟩), (fun hs34_ M140_ _ hF144_ r139_ hs146_ h142_ hr_ hM_ => ?_)⟩), (fun h29_ M148_ _ hF152_ r147_ hs154_ h150_ hr_ hM_ => ?_)⟩), (fun hs23_ h22_ M157_ _ hF161_ r156_ hs163_ h159_ hr_ hM_ => ?_)⟩), (fun hs17_ h16_ M166_ _ hF170_ r165_ hs172_ h168_ hr_ hM_ => ?_)⟩), (fun hs11_ h10_ M175_ _ hF179_ r174_ hs181_ h177_ hr_ hM_ => ?_)⟩), (fun hs5_ M184_ _ hF188_ r183_ hs190_ h186_ hr_ hM_ => ?_)⟩
  · rw [hM_]
    have u1_ := rind hL_80 (fun z_ => (z_.2.2.1 (12, 0, 0) 7).toInt = -1) h0 (fun x_ z_ h1_ h2_ => UST_X12_spots_80 h2_ h1_)
    exact u1_
  · rw [hM_]
    have u1_ := rind hL_80 (fun z_ => (z_.2.2.1 (12, 0, 0) 7).toInt = -1) h0 (fun x_ z_ h1_ h2_ => UST_X12_spots_80 h2_ h1_)
    exact u1_
  · rw [hM_]
    have u1_ := rind hL_80 (fun z_ => (z_.2.2.1 (12, 0, 0) 7).toInt = -1) h0 (fun x_ z_ h1_ h2_ => UST_X12_spots_80 h2_ h1_)
    have u2_ : (M92_.1 (12, 0, 0) 7).toInt = -1 := by rw [hF96_ _ _ (by simp [S_c_X12_finding])]; exact u1_
    exact u2_
  · rw [hM_]
    have u1_ : (M140_.1 (12, 0, 0) 7).toInt = -1 := by rw [hF144_ _ _ (by simp [S_c_X12_finding])]; exact h0
    exact u1_
  · rw [hM_]
    have u1_ : (M148_.1 (12, 0, 0) 7).toInt = -1 := by rw [hF152_ _ _ (by simp [S_c_X12_finding])]; exact h0
    exact u1_
  · rw [hM_]
    have u1_ : (M157_.1 (12, 0, 0) 7).toInt = -1 := by rw [hF161_ _ _ (by simp [S_c_X12_finding])]; exact h0
    exact u1_
  · rw [hM_]
    have u1_ : (M166_.1 (12, 0, 0) 7).toInt = -1 := by rw [hF170_ _ _ (by simp [S_c_X12_finding])]; exact h0
    exact u1_
  · rw [hM_]
    have u1_ : (M175_.1 (12, 0, 0) 7).toInt = -1 := by rw [hF179_ _ _ (by simp [S_c_X12_finding])]; exact h0
    exact u1_
  · rw [hM_]
    have u1_ : (M184_.1 (12, 0, 0) 7).toInt = -1 := by rw [hF188_ _ _ (by simp [S_c_X12_finding])]; exact h0
    exact u1_
theorem USP_X12_posts {v : Int32} {u : Int32} {t : Int32} {s : Int32} {Mz : mM} {r_ : Int32} {M_ : mM} (h : SP_X12_posts v u t s Mz r_ M_) (h0 : (Mz.1 (12, 0, 0) 7).toInt = -1) : (M_.1 (12, 0, 0) 7).toInt = -1 := by
  refine xE_SP_X12_posts h ⟨(fun hs5_ h4_ => ⟨(fun hs11_ h10_ => ⟨(fun hs17_ h16_ => ⟨(fun hs23_ h22_ j27_ h28_ z25_ e26_ => ⟨(fun h29_ M31_ _ hF35_ r30_ hs37_ h33_ hr_ hM_ => ?_), (fun h29_ j40_ h41_ z38_ e39_ => ⟨(fun h42_ => ⟨(fun hs47_ h46_ => ⟨(fun hs53_ h52_ M55_ hM56_ v5_98 hv0_98 M_98 hL_98 _ hF_98 j64_ h65_ z62_ e63_ h66_ h67_ h68_ M69_ hM70_ v6_204 hv0_204 v5_204 hL_204 j78_ h79_ z76_ e77_ h80_ h81_ z82_ h83_ h84_ => ⟨(fun h85_ => ⟨(fun h86_ hr_ hM_ => ?_), (fun h86_ _ r87_ hs91_ hr_ hM_ => ?_)⟩), (fun h85_ _ M93_ _ hF97_ r92_ hs99_ h95_ hr_ hM_ => ?_)⟩), (fun hs53_ M222_ _ hF226_ r221_ hs228_ h224_ hr_ hM_ => ?_)⟩), (fun hs47_ M232_ _ hF236_ r231_ hs238_ h234_ hr_ hM_ => ?_)⟩), (fun h42_ M240_ _ hF244_ r239_ hs246_ h242_ hr_ hM_ => ?_)⟩)⟩), (fun hs23_ h22_ M249_ _ hF253_ r248_ hs255_ h251_ hr_ hM_ => ?_)⟩), (fun hs17_ h16_ M258_ _ hF262_ r257_ hs264_ h260_ hr_ hM_ => ?_)⟩), (fun hs11_ h10_ M267_ _ hF271_ r266_ hs273_ h269_ hr_ hM_ => ?_)⟩), (fun hs5_ M276_ _ hF280_ r275_ hs282_ h278_ hr_ hM_ => ?_)⟩
  · rw [hM_]
    have u1_ : (M31_.1 (12, 0, 0) 7).toInt = -1 := by rw [hF35_ _ _ (by simp [S_c_X12_finding])]; exact h0
    exact u1_
  · rw [hM_]
    have u3_ : (M69_.1 (12, 0, 0) 7).toInt = -1 := by rw [zupE hM70_ rfl rfl]; exact il_m1
    exact u3_
  · rw [hM_]
    have u3_ : (M69_.1 (12, 0, 0) 7).toInt = -1 := by rw [zupE hM70_ rfl rfl]; exact il_m1
    exact u3_
  · rw [hM_]
    have u3_ : (M69_.1 (12, 0, 0) 7).toInt = -1 := by rw [zupE hM70_ rfl rfl]; exact il_m1
    have u4_ : (M93_.1 (12, 0, 0) 7).toInt = -1 := by rw [hF97_ _ _ (by simp [S_c_X12_finding])]; exact u3_
    exact u4_
  · rw [hM_]
    have u1_ : (M222_.1 (12, 0, 0) 7).toInt = -1 := by rw [hF226_ _ _ (by simp [S_c_X12_finding])]; exact h0
    exact u1_
  · rw [hM_]
    have u1_ : (M232_.1 (12, 0, 0) 7).toInt = -1 := by rw [hF236_ _ _ (by simp [S_c_X12_finding])]; exact h0
    exact u1_
  · rw [hM_]
    have u1_ : (M240_.1 (12, 0, 0) 7).toInt = -1 := by rw [hF244_ _ _ (by simp [S_c_X12_finding])]; exact h0
    exact u1_
  · rw [hM_]
    have u1_ : (M249_.1 (12, 0, 0) 7).toInt = -1 := by rw [hF253_ _ _ (by simp [S_c_X12_finding])]; exact h0
    exact u1_
  · rw [hM_]
    have u1_ : (M258_.1 (12, 0, 0) 7).toInt = -1 := by rw [hF262_ _ _ (by simp [S_c_X12_finding])]; exact h0
    exact u1_
  · rw [hM_]
    have u1_ : (M267_.1 (12, 0, 0) 7).toInt = -1 := by rw [hF271_ _ _ (by simp [S_c_X12_finding])]; exact h0
    exact u1_
  · rw [hM_]
    have u1_ : (M276_.1 (12, 0, 0) 7).toInt = -1 := by rw [hF280_ _ _ (by simp [S_c_X12_finding])]; exact h0
    exact u1_
end
