/-! check -/
theorem RCH_map {α β : Type} {S : α → α → Prop} {T : β → β → Prop} (f : α → β) {a z : α} (h : RCH S a z) (hs : ∀ x y, S x y → T (f x) (f y)) : RCH T (f a) (f z) := rind h (fun z => RCH T (f a) (f z)) RCH.refl (fun x y p s => RCH.tail p (hs x y s))
/-- the waiting numbers' count alone differs -/
theorem WRR_n5 {b : Nat} {q : rf → Nat → Int32} {n n2 : Nat → Int32} (h : WRR b q n) (hN : NW5 n) (hn : ∀ j, j < 3567 → ¬ j = 5 → n2 j = n j) : WRR b q n2 := by
  obtain ⟨hL, hT, hW, hX, hO, hM⟩ := h
  have th := nTh_b hN
  have nw := nWa_b hN
  exact ⟨LWR_keep hL (fun _ _ _ => rfl) (fun j hj => hn j (by omega) (by omega)), THR_keep hT th.2 (fun _ _ _ => rfl) (fun j hj => hn j (by omega) (by omega)), WAR_keep hW nw.2 (fun _ _ _ _ => rfl) rfl (fun j hj => hn j (by omega) (by omega)),
    TXR_keep hX (TXz hN) (fun _ _ _ _ _ => rfl) (fun j h1 h2 => hn j (by omega) (by omega)), OCC_keep hO th.2 nw.2 (fun _ => rfl) (fun j hj => hn j (by omega) (by omega)) (fun j hj => hn j (by omega) (by omega)), MIR_keep hM th.2 nw.2 (fun j hj => hn j (by omega) (by omega)) (fun w h1 h2 => ⟨fun k hk => hn _ (by omega) (by omega), fun c hc => hn _ (by omega) (by omega)⟩)⟩
theorem RW_n5 {b : Nat} {q : rf → Nat → Int32} {n n2 : Nat → Int32} (h : RW b q n) (hN : NW5 n) (hn : ∀ j, j < 3567 → ¬ j = 5 → n2 j = n j) (h5 : (n2 5).toInt = 0) : RW b q n2 := by
  have nb := n345_b hN
  exact ⟨WRR_n5 h.1 hN hn, LER_keep h.2.1 nb.1.2 (fun _ _ _ => rfl) (fun j hj => hn j (by omega) (by omega)), TAR_keep h.2.2.1 nb.2.1.2 (fun _ => rfl) (fun j hj => hn j (by omega) (by omega)), fun i hi => by omega⟩
def CHc (w : Nat) (x y : Int32 × Int32 × mM) : Prop := x.2.1.toInt = 0 ∧ x.1.toInt < (x.2.2.1 (5, 2, 1) 1).toInt ∧ ∃ r : Int32, SP_X10_passTenth 2 x.2.2 y.2.2 ∧ FR (S_c_X10_passTenth 2) x.2.2 y.2.2 ∧ SP_X5_get 2 1 x.1 y.2.2 r ∧ y.1.toInt = x.1.toInt + 1 ∧ (((y.2.2.1 (9, 2, w) 1).toInt = r.toInt ∧ y.2.1.toInt = 0) ∨ (¬ (y.2.2.1 (9, 2, w) 1).toInt = r.toInt ∧ y.2.1.toInt = 1 + x.1.toInt))
def CHd (w : Nat) (N : Int) (x y : Int32 × Int32 × mM) : Prop := x.2.1.toInt = 0 ∧ (0 ≤ x.1.toInt ∧ x.1.toInt < N) ∧ SP_X12_tenth x.2.2 y.2.2 ∧ InvD x.2.2 ∧ y.1.toInt = x.1.toInt + 1 ∧ (((y.2.2.1 (50, 0, 0) (181 + 9 * w)).toInt = (y.2.2.1 (50, 0, 0) (321 + x.1.toInt.toNat)).toInt ∧ y.2.1.toInt = 0) ∨ (¬ (y.2.2.1 (50, 0, 0) (181 + 9 * w)).toInt = (y.2.2.1 (50, 0, 0) (321 + x.1.toInt.toNat)).toInt ∧ y.2.1.toInt = 1 + x.1.toInt))
def CHR (w : Nat) (N : Int) (x y : Int32 × Int32 × mM) : Prop := x.1.toInt = y.1.toInt ∧ x.2.1.toInt = y.2.1.toInt ∧ WRR 2 x.2.2.1 (y.2.2.1 (50, 0, 0)) ∧ (y.2.2.1 (12, 0, 0) 7).toInt = -1 ∧ (x.2.2.1 (5, 2, 1) 1).toInt = N ∧ (w : Int) < nWa (y.2.2.1 (50, 0, 0)) ∧ ∀ i : Nat, (i : Int) < N → x.2.2.1 (33, 2, 1) i = y.2.2.1 (50, 0, 0) (321 + i)
theorem check_loop {w : Nat} {N : Int} {C D : mM} {z t : Int32 × Int32 × mM} (hN : N ≤ 24) (h0 : CHR w N ((0 : Int32), (0 : Int32), C) ((0 : Int32), (0 : Int32), D)) (hc : RCH (CHc w) ((0 : Int32), (0 : Int32), C) z) (hd : RCH (CHd w N) ((0 : Int32), (0 : Int32), D) t)
    (fc : ¬ z.2.1.toInt = 0 ∨ (z.2.2.1 (5, 2, 1) 1).toInt ≤ z.1.toInt) (fd : ¬ t.2.1.toInt = 0 ∨ N ≤ t.1.toInt) : CHR w N z t := by
  have q0 := il_0
  have hl1 : ((rl 1 : Nat) : Int) = 24 := by decide
  refine lockE (CHR w N) hc hd h0 ?_ ?_ ?_
  · intro x z y t r s1 s2
    obtain ⟨r1, r2, r3, r4, r5, r6, r7⟩ := r
    obtain ⟨s0, s3, rr, s4, s5, s6, s7, s8⟩ := s1
    obtain ⟨t0, t3, t4, t5, t7, t8⟩ := s2
    have tb := tenth_both s4 t4 r3 t5 r4
    obtain ⟨b1, b2, b3⟩ := tb
    have kf := FSP_X12_tenth t4
    have kt := KSP_X12_tenth t4
    have nw := nWa_b t5.2.1
    have n2 : nWa (t.2.2.1 (50, 0, 0)) = nWa (y.2.2.1 (50, 0, 0)) := by unfold nWa; rw [kt 2 (by omega) (by first | decide | simp | (dsimp only; omega))]
    have c5 : z.2.2.1 (5, 2, 1) 1 = x.2.2.1 (5, 2, 1) 1 := s5 _ _ (fun q => by simp only [S_c_X10_passTenth, or_false] at q; omega)
    have c33 : ∀ i, z.2.2.1 (33, 2, 1) i = x.2.2.1 (33, 2, 1) i := fun i => s5 _ _ (fun q => by simp only [S_c_X10_passTenth, or_false] at q; omega)
    have wt : ∀ i : Nat, (i : Int) < N → z.2.2.1 (33, 2, 1) i = t.2.2.1 (50, 0, 0) (321 + i) := fun i hi => by rw [c33, kf _ (by omega) (by omega)]; exact r7 i hi
    have gt : rr = z.2.2.1 (33, 2, 1) x.1.toInt.toNat := by
      unfold SP_X5_get at s6
      rcases s6 with (⟨m_h1_, m_hr_⟩ | ⟨m_h1_, m_z2_, m_e3_, (⟨m_h4_, m_hr_⟩ | ⟨m_h4_, m_z5_, m_h6_, (⟨m_h7_, m_hr_⟩ | ⟨m_h7_, m_j10_, m_h11_, m_z8_, m_e9_, m_hr_⟩)⟩)⟩)
      · omega
      · have := eT m_e3_
        rw [c5] at this
        omega
      · omega
      · rw [m_hr_, m_e9_, show m_j10_ = x.1.toInt.toNat by omega]
    have g33 := eT (wt x.1.toInt.toNat (by omega))
    rw [← gt, show 321 + x.1.toInt.toNat = 321 + y.1.toInt.toNat by omega] at g33
    have cel := eT ((b1.2.2.1.2 w (by omega)).1 1 (by omega))
    rw [show 180 + 9 * w + 1 = 181 + 9 * w by omega] at cel
    exact ⟨by omega, by omega, b1, b3, by rw [c5]; exact r5, by omega, wt⟩
  · intro y y' r s2
    obtain ⟨r1, r2, r3, r4, r5, r6, r7⟩ := r
    obtain ⟨t0, t3, -⟩ := s2
    omega
  · intro x x' r s1
    obtain ⟨r1, r2, r3, r4, r5, r6, r7⟩ := r
    obtain ⟨s0, s3, -⟩ := s1
    omega
theorem cb_38 {v : Int32} {M M1 D D2 : mM} {r1 r2 : Int32} (h1 : SP_X11_check v M r1 M1) (h2 : SP_X12_check v D r2 D2) (hR : RW 0 M.1 (D.1 (50, 0, 0))) (hD : InvD D) (hu : (D.1 (12, 0, 0) 7).toInt = -1) (h4 : M.1 (5, 0, 0) 1 = D.1 (50, 0, 0) 4) (h5 : M.1 (5, 0, 1) 1 = D.1 (50, 0, 0) 5) : RW 0 M1.1 (D2.1 (50, 0, 0)) ∧ r1 = r2 := by
  have q0 := il_0
  have q1 := il_1
  have hN : NW5 (D.1 (50, 0, 0)) := hD.2.1
  have n5 := (n345_b hN).2.2
  have nW := nWa_b hN
  have bW := eT hR.1.2.2.1.1
  have w2 : (D.1 (50, 0, 0) 2).toInt = nWa (D.1 (50, 0, 0)) := rfl
  have e5 := eT h5
  -- the class's steps
  have stC : ∀ (w : Nat) (x y : Int32 × mM), (w : Int) = v.toInt → ST_X11_check_50 v M x.1 x.2 y.1 y.2 → CHc w (x.1, (0 : Int32), x.2) (y.1, (0 : Int32), y.2) := fun w x y hw st => by
    unfold ST_X11_check_50 at st
    rcases st with ⟨k_hv0_50, -, k_hF_50, k_z22_, k_e23_, k_h24_, k_M25_, -, k_hF29_, k_hs31_, k_j32_, k_h33_, k_h34_, k_z35_, k_e36_, k_r37_, k_hs41_, k_h42_, k_z43_, k_h44_, k_hq_v2_50y, k_hM_⟩
    have yk := eT k_e36_
    have yz := eT k_e23_
    refine ⟨q0, by dsimp only; omega, k_r37_, by dsimp only; rw [k_hM_]; exact k_hs31_, by dsimp only; rw [k_hM_]; exact k_hF29_, by dsimp only; rw [k_hM_]; exact k_hs41_, by dsimp only; rw [k_hq_v2_50y]; omega, Or.inl ⟨?_, q0⟩⟩
    (try dsimp only)
    rw [k_hM_, show w = k_j32_ by omega]
    omega
  have stD : ∀ (w : Nat) (z1 : Int32) (x y : Int32 × Int32 × mM), (w : Int) = v.toInt → 0 ≤ v.toInt ∧ v.toInt ≤ 7 → ST_X12_check_46 v D z1 x.1 x.2.1 x.2.2 y.1 y.2.1 y.2.2 → CHd w z1.toInt x y := fun w z1 x y hw hv st => by
    unfold ST_X12_check_46 at st
    rcases st with ⟨k_hv0_46, k_hv1_46, k_hI_46, k_hF_46, k_h23_, k_h32_, k_M41_, k_hI44_, k_hF45_, k_hs47_, k_r48_, k_hs52_, k_h51_, k_z53_, k_h54_, k_j57_, k_h58_, k_z55_, k_e56_, k_h59_, k_z60_, k_h61_, k_j64_, k_h65_, k_z62_, k_e63_, (⟨k_h66_, k_z67_, k_h68_, k_z69_, k_h70_, k_hq_v4_46y, k_hq_v3_46y, k_hM_⟩ | ⟨k_h66_, k_z71_, k_h72_, k_hq_v4_46y, k_hq_v3_46y, k_hM_⟩)⟩
    · have y1 := eT k_e56_
      have y2 := eT k_e63_
      refine ⟨k_h32_, ⟨k_hv0_46, k_h23_⟩, by rw [k_hM_]; exact k_hs47_, k_hI_46, by rw [k_hq_v4_46y]; omega, Or.inr ⟨?_, by rw [k_hq_v3_46y]; omega⟩⟩
      rw [k_hM_, show 181 + 9 * w = k_j57_ by omega, show 321 + x.1.toInt.toNat = k_j64_ by omega]
      omega
    · have y1 := eT k_e56_
      have y2 := eT k_e63_
      refine ⟨k_h32_, ⟨k_hv0_46, k_h23_⟩, by rw [k_hM_]; exact k_hs47_, k_hI_46, by rw [k_hq_v4_46y]; omega, Or.inl ⟨?_, by rw [k_hq_v3_46y]; exact q0⟩⟩
      rw [k_hM_, show 181 + 9 * w = k_j57_ by omega, show 321 + x.1.toInt.toNat = k_j64_ by omega]
      omega
  -- where both begin
  have beg : ∀ {C7 C D4 D14 : mM} {w : Nat}, (w : Int) < nWa (D.1 (50, 0, 0)) → SP_X10_takeFrom 2 0 M C7 → FR (S_c_X5_clear 0 1) C7 C → D4 = up D (50, 0, 0) 5 0 → FR (S_c_copy_50_52) D4 D14 → CHR w (D.1 (50, 0, 0) 5).toInt ((0 : Int32), (0 : Int32), C) ((0 : Int32), (0 : Int32), D14) := fun {C7 C D4 D14 w} hw a1 a2 a3 a4 => by
    have tk := RW_take (b := 2) hR hN a1 (by omega) (by rw [h4]) (by rw [h5])
    have X := x10take a1 (by omega) (by rw [h4]; exact (n345_b hN).2.1.2) (by rw [h5]; exact n5.2)
    have d14 : ∀ k, D14.1 (50, 0, 0) k = D4.1 (50, 0, 0) k := fun k => a4 _ _ (fun q => by simp only [S_c_copy_50_52, or_false] at q; omega)
    have d5 : ∀ k, ¬ k = 5 → D14.1 (50, 0, 0) k = D.1 (50, 0, 0) k := fun k hk => by rw [d14, zupN a3 (fun z => hk z.2)]
    have c2 : ∀ (c : rf) (k : Nat), c.2.1 = 2 → C.1 c k = C7.1 c k := fun c k hc => a2 c k (fun q => by simp only [S_c_X5_clear, or_false] at q; omega)
    refine ⟨rfl, rfl, WRR_n5 (WRR_same tk.1 hN (fun c k _ hc => c2 c k hc)) hN (fun j _ hj => d5 j hj), ?_, ?_, ?_, fun i hi => ?_⟩
    · (try dsimp only)
      rw [a4 (12, 0, 0) 7 (fun q => by simp only [S_c_copy_50_52, or_false] at q; omega), zupR a3 (by simp)]
      exact hu
    · (try dsimp only)
      rw [c2 _ _ rfl, X.2.2.1 1 (by omega), h5]
    · (try dsimp only)
      unfold nWa
      rw [d5 2 (by omega)]
      exact hw
    · (try dsimp only)
      rw [c2 _ _ rfl, d5 _ (by omega)]
      exact tk.2.2.2 i hi
  have fin : ∀ {q : rf → Nat → Int32} {n2 : Nat → Int32}, (∀ (c : rf) (k : Nat), wR c.1 → c.2.1 = 0 → q c k = M.1 c k) → (∀ j, j < 3567 → ¬ j = 5 → n2 j = D.1 (50, 0, 0) j) → (n2 5).toInt = 0 → RW 0 q n2 := fun hq hn hz => RW_n5 (RW_same hR hN hq) hN hn hz
  -- the model's row behind it
  have rowD : ∀ {D4 D14 D46 D24 : mM}, D4 = up D (50, 0, 0) 5 0 → SP_copy_50_52 D4 D14 → FR (S_c_copy_50_52) D4 D14 → (∀ k, D46.1 (52, 0, 0) k = D14.1 (52, 0, 0) k) → SP_copy_52_50 D46 D24 → FR (S_c_copy_52_50) D46 D24 → (∀ j, j < 3567 → ¬ j = 5 → D24.1 (50, 0, 0) j = D.1 (50, 0, 0) j) ∧ (D24.1 (50, 0, 0) 5).toInt = 0 := fun {D4 D14 D46 D24} a1 a2 a3 a4 a5 a6 => by
    have e : ∀ j, j < 3567 → D24.1 (50, 0, 0) j = D4.1 (50, 0, 0) j := fun j hj => by
      rw [cpy50b a5 j hj, a6 (52, 0, 0) j (fun q => by simp only [S_c_copy_52_50, or_false] at q; omega), a4, cpy52 a2 j hj]
      exact a3 _ _ (fun q => by simp only [S_c_copy_50_52, or_false] at q; omega)
    exact ⟨fun j hj h => by rw [e j hj, zupN a1 (fun z => h z.2)], by rw [e 5 (by omega), zupE a1 rfl rfl]; exact q0⟩
  have loop52 : ∀ {D14 : mM} {z1 : Int32} {t : Int32 × Int32 × mM}, RCH (fun x y : Int32 × Int32 × mM => ST_X12_check_46 v D z1 x.1 x.2.1 x.2.2 y.1 y.2.1 y.2.2) ((0 : Int32), (0 : Int32), D14) t → ∀ k, t.2.2.1 (52, 0, 0) k = D14.1 (52, 0, 0) k := fun {D14 z1 t} h => by
    refine rind h (fun z => ∀ k, z.2.2.1 (52, 0, 0) k = D14.1 (52, 0, 0) k) (fun _ => rfl) (fun x z p st => ?_)
    intro k
    (try dsimp only at p st ⊢)
    unfold ST_X12_check_46 at st
    rcases st with ⟨k_hv0_46, k_hv1_46, -, k_hF_46, k_h23_, k_h32_, k_M41_, -, k_hF45_, k_hs47_, k_r48_, k_hs52_, k_h51_, k_z53_, k_h54_, k_j57_, k_h58_, k_z55_, k_e56_, k_h59_, k_z60_, k_h61_, k_j64_, k_h65_, k_z62_, k_e63_, (⟨k_h66_, k_z67_, k_h68_, k_z69_, k_h70_, k_hq_v4_46y, k_hq_v3_46y, k_hM_⟩ | ⟨k_h66_, k_z71_, k_h72_, k_hq_v4_46y, k_hq_v3_46y, k_hM_⟩)⟩
    · rw [k_hM_, k_hF45_ _ _ (fun q => by simp only [S_c_X12_tenth, or_false] at q; omega)]; exact p k
    · rw [k_hM_, k_hF45_ _ _ (fun q => by simp only [S_c_X12_tenth, or_false] at q; omega)]; exact p k
  unfold SP_X11_check at h1
  rcases h1 with (⟨c_hs5_, c_h4_, c_M7_, -, c_hF11_, c_hs13_, c_M14_, -, c_hF18_, c_hs20_, c_v2_50, c_hv0_50, c_M_50, c_hL_50, -, c_hF_50, c_z22_, c_e23_, (⟨c_h24_, c_hr_, c_hM_⟩ | ⟨c_h24_, c_M25_, -, c_hF29_, c_hs31_, c_j32_, c_h33_, c_h34_, c_z35_, c_e36_, c_r37_, c_hs41_, c_h42_, c_z45_, c_h46_, c_hr_, c_hM_⟩)⟩ | ⟨c_hs5_, c_M48_, -, c_hF52_, c_hs54_, c_M56_, -, c_hF60_, c_r55_, c_hs62_, c_hr_, c_hM_⟩)
  · have qh := x10has c_hs5_
    have kM : ∀ (c : rf) (k : Nat), wR c.1 → c.2.1 = 0 → M1.1 c k = M.1 c k := fun c k a b => by rw [c_hM_]; exact c_hF_50 c k (fun q => by unfold wR at a; simp only [S_c_X11_check, or_false] at q; omega)
    have yc := eT c_e23_
    unfold SP_X12_check at h2
    rcases h2 with ⟨d_z1_, d_e2_, d_h3_, d_M4_, d_hM5_, -, (⟨d_hs12_, d_h11_, d_M14_, -, d_hF18_, d_hs20_, d_v4_46, d_hv0_46, d_hv1_46, d_v3_46, d_M_46, d_hL_46, -, d_hF_46, (⟨d_h23_, d_M24_, -, d_hF28_, d_hs30_, d_hr_, d_hM_⟩ | ⟨d_h23_, d_h32_, d_M33_, -, d_hF37_, d_hs39_, d_hr_, d_hM_⟩)⟩ | ⟨d_hs12_, d_M75_, -, d_hF79_, d_r74_, d_hs81_, d_h77_, d_hr_, d_hM_⟩)⟩
    · have cb := beg (w := v.toInt.toNat) (by omega) c_hs13_ c_hF18_ d_hM5_ d_hF18_
      have yd := eT d_e2_
      rw [← yd] at cb
      have L := check_loop (by omega) cb (RCH_map (fun x : Int32 × mM => (x.1, (0 : Int32), x.2)) c_hL_50 (fun x y s => stC _ x y (by omega) s)) (RCH_mono d_hL_46 (fun x y s => stD _ _ x y (by omega) d_h11_ s)) (Or.inr (by dsimp only; omega)) (Or.inr (by dsimp only; omega))
      obtain ⟨l1, l2, -⟩ := L
      obtain ⟨g1, g2⟩ := rowD d_hM5_ d_hs20_ d_hF18_ (loop52 d_hL_46) d_hs30_ d_hF28_
      rw [d_hM_]
      exact ⟨fin kM g1 g2, by rw [c_hr_, d_hr_]; exact i32e l2⟩
    · have cb := beg (w := v.toInt.toNat) (by omega) c_hs13_ c_hF18_ d_hM5_ d_hF18_
      have yd := eT d_e2_
      rw [← yd] at cb
      have L := check_loop (by omega) cb (RCH_map (fun x : Int32 × mM => (x.1, (0 : Int32), x.2)) c_hL_50 (fun x y s => stC _ x y (by omega) s)) (RCH_mono d_hL_46 (fun x y s => stD _ _ x y (by omega) d_h11_ s)) (Or.inr (by dsimp only; omega)) (Or.inl d_h32_)
      obtain ⟨l1, l2, -⟩ := L
      obtain ⟨g1, g2⟩ := rowD d_hM5_ d_hs20_ d_hF18_ (loop52 d_hL_46) d_hs39_ d_hF37_
      rw [d_hM_]
      exact ⟨fin kM g1 g2, by rw [c_hr_, d_hr_]; exact i32e l2⟩
    · have qi := is2x d_hs12_
      rw [zupN d_hM5_ (by simp)] at qi
      omega
  · have qh := x10has c_hs5_
    have kM : ∀ (c : rf) (k : Nat), wR c.1 → c.2.1 = 0 → M1.1 c k = M.1 c k := fun c k a b => by rw [c_hM_, c_hF29_ c k (fun q => by simp only [S_c_X10_passTenth, or_false] at q; omega)]; exact c_hF_50 c k (fun q => by unfold wR at a; simp only [S_c_X11_check, or_false] at q; omega)
    have yc := eT c_e23_
    have y36 := eT c_e36_
    have last : CHc v.toInt.toNat (c_v2_50, (0 : Int32), c_M_50) (c_z45_, c_z45_, c_M25_) := by
      refine ⟨q0, by dsimp only; omega, c_r37_, c_hs31_, c_hF29_, c_hs41_, by dsimp only; omega, Or.inr ⟨?_, by dsimp only; omega⟩⟩
      (try dsimp only)
      rw [show v.toInt.toNat = c_j32_ by omega]
      omega
    unfold SP_X12_check at h2
    rcases h2 with ⟨d_z1_, d_e2_, d_h3_, d_M4_, d_hM5_, -, (⟨d_hs12_, d_h11_, d_M14_, -, d_hF18_, d_hs20_, d_v4_46, d_hv0_46, d_hv1_46, d_v3_46, d_M_46, d_hL_46, -, d_hF_46, (⟨d_h23_, d_M24_, -, d_hF28_, d_hs30_, d_hr_, d_hM_⟩ | ⟨d_h23_, d_h32_, d_M33_, -, d_hF37_, d_hs39_, d_hr_, d_hM_⟩)⟩ | ⟨d_hs12_, d_M75_, -, d_hF79_, d_r74_, d_hs81_, d_h77_, d_hr_, d_hM_⟩)⟩
    · have cb := beg (w := v.toInt.toNat) (by omega) c_hs13_ c_hF18_ d_hM5_ d_hF18_
      have yd := eT d_e2_
      rw [← yd] at cb
      have L := check_loop (by omega) cb (RCH.tail (RCH_map (fun x : Int32 × mM => (x.1, (0 : Int32), x.2)) c_hL_50 (fun x y s => stC _ x y (by omega) s)) last) (RCH_mono d_hL_46 (fun x y s => stD _ _ x y (by omega) d_h11_ s)) (Or.inl (by dsimp only; omega)) (Or.inr (by dsimp only; omega))
      obtain ⟨l1, l2, -⟩ := L
      obtain ⟨g1, g2⟩ := rowD d_hM5_ d_hs20_ d_hF18_ (loop52 d_hL_46) d_hs30_ d_hF28_
      rw [d_hM_]
      exact ⟨fin kM g1 g2, by rw [c_hr_, d_hr_]; exact i32e l2⟩
    · have cb := beg (w := v.toInt.toNat) (by omega) c_hs13_ c_hF18_ d_hM5_ d_hF18_
      have yd := eT d_e2_
      rw [← yd] at cb
      have L := check_loop (by omega) cb (RCH.tail (RCH_map (fun x : Int32 × mM => (x.1, (0 : Int32), x.2)) c_hL_50 (fun x y s => stC _ x y (by omega) s)) last) (RCH_mono d_hL_46 (fun x y s => stD _ _ x y (by omega) d_h11_ s)) (Or.inl (by dsimp only; omega)) (Or.inl d_h32_)
      obtain ⟨l1, l2, -⟩ := L
      obtain ⟨g1, g2⟩ := rowD d_hM5_ d_hs20_ d_hF18_ (loop52 d_hL_46) d_hs39_ d_hF37_
      rw [d_hM_]
      exact ⟨fin kM g1 g2, by rw [c_hr_, d_hr_]; exact i32e l2⟩
    · have qi := is2x d_hs12_
      rw [zupN d_hM5_ (by simp)] at qi
      omega
  · have qh := x10has c_hs5_
    unfold SP_X12_check at h2
    rcases h2 with ⟨d_z1_, d_e2_, d_h3_, d_M4_, d_hM5_, -, (⟨d_hs12_, d_h11_, d_M14_, -, d_hF18_, d_hs20_, d_v4_46, d_hv0_46, d_hv1_46, d_v3_46, d_M_46, d_hL_46, -, d_hF_46, (⟨d_h23_, d_M24_, -, d_hF28_, d_hs30_, d_hr_, d_hM_⟩ | ⟨d_h23_, d_h32_, d_M33_, -, d_hF37_, d_hs39_, d_hr_, d_hM_⟩)⟩ | ⟨d_hs12_, d_M75_, -, d_hF79_, d_r74_, d_hs81_, d_h77_, d_hr_, d_hM_⟩)⟩
    · have qi := is2x d_hs12_
      rw [zupN d_hM5_ (by simp)] at qi
      omega
    · have qi := is2x d_hs12_
      rw [zupN d_hM5_ (by simp)] at qi
      omega
    · refine ⟨fin (fun c k a b => ?_) (fun j hj h => ?_) ?_, i32e ?_⟩
      · rw [c_hM_, c_hF60_ c k (fun q => by unfold wR at a; simp only [S_c_X11_error, or_false] at q; omega)]
        exact c_hF52_ c k (fun q => by unfold wR at a; simp only [S_c_X5_clear, or_false] at q; omega)
      · rw [d_hM_, d_hF79_ _ _ (fun q => by simp only [S_c_X12_finding, or_false] at q; omega), zupN d_hM5_ (fun z => h z.2)]
      · rw [d_hM_, d_hF79_ _ _ (fun q => by simp only [S_c_X12_finding, or_false] at q; omega), zupE d_hM5_ rfl rfl]
        exact q0
      · have e := err_r c_hs62_ (by first | decide | simp | (dsimp only; omega))
        rw [c_hr_, d_hr_, e, d_h77_]
        decide
