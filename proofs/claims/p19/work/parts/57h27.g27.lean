/-! kind, air -/
theorem RW_air {q q2 : rf → Nat → Int32} {n n2 : Nat → Int32} (h : RW 0 q n) (hN : NW5 n) (hL : LWR 0 q2 n2) (hq : ∀ (c : rf) (k : Nat), wR c.1 → c.2.1 = 0 → ¬ c.1 = 2 → ¬ c.1 = 26 → ¬ c.1 = 27 → q2 c k = q c k) (hn : ∀ j, ¬ (6 ≤ j ∧ j < 19) → n2 j = n j) : RW 0 q2 n2 := by
  obtain ⟨⟨-, hT, hW, hX, hO, hM⟩, hE, hA, hY⟩ := h
  have th := nTh_b hN
  have nw := nWa_b hN
  have nb := n345_b hN
  have qq : ∀ (r w k : Nat), wR r → ¬ r = 2 → ¬ r = 26 → ¬ r = 27 → q2 (r, 0, w) k = q (r, 0, w) k := fun r w k h1 h2 h3 h4 => hq _ _ h1 rfl h2 h3 h4
  exact ⟨⟨hL, THR_keep hT th.2 (fun r k w => qq r 0 k (by unfold wR; omega) (by omega) (by omega) (by omega)) (fun j hj => hn j (by omega)),
    WAR_keep hW nw.2 (fun r w k z => qq r w k (by unfold wR; omega) (by omega) (by omega) (by omega)) (qq 10 0 6 (by unfold wR; omega) (by omega) (by omega) (by omega)) (fun j hj => hn j (by omega)),
    TXR_keep hX (TXz hN) (fun r u k z _ => qq r u k (by unfold wR; omega) (by omega) (by omega) (by omega)) (fun j h1 h2 => hn j (by omega)),
    OCC_keep hO th.2 nw.2 (fun k => qq 35 0 k (by unfold wR; omega) (by omega) (by omega) (by omega)) (fun j hj => hn j (by omega)) (fun j hj => hn j (by omega)),
    MIR_keep hM th.2 nw.2 (fun j hj => hn j (by omega)) (fun w h1 h2 => ⟨fun k hk => hn _ (by omega), fun c hc => hn _ (by omega)⟩)⟩,
    LER_keep hE nb.1.2 (fun r k w => qq r 0 k (by unfold wR; omega) (by omega) (by omega) (by omega)) (fun j hj => hn j (by omega)), TAR_keep hA nb.2.1.2 (fun k => qq 33 0 k (by unfold wR; omega) (by omega) (by omega) (by omega)) (fun j hj => hn j (by omega)), WTR_keep hY nb.2.2.2 (fun k => qq 33 1 k (by unfold wR; omega) (by omega) (by omega) (by omega)) (fun j hj => hn j (by omega))⟩
theorem LWR_rx {m : rf → Nat → Int32} (h : RXz m) : LWR 0 m (m (50, 0, 0)) := by
  refine ⟨RXzg h (by unfold PRz; simp) (by simp), fun k hk => RXzg h (by first | exact Pz0_2 hk | exact Pz0_26 hk | exact Pz0_27 hk | (unfold PRz; dsimp only; omega)) (by simp), fun k hk => ⟨RXzg h (by first | exact Pz0_2 hk | exact Pz0_26 hk | exact Pz0_27 hk | (unfold PRz; dsimp only; omega)) (by simp), RXzg h (by first | exact Pz0_2 hk | exact Pz0_26 hk | exact Pz0_27 hk | (unfold PRz; dsimp only; omega)) (by simp)⟩⟩
/-! lays -/
/-- the sheets alike -/
def SHR (q p : rf → Nat → Int32) : Prop := ∀ w, w < 4 → q (6, 0, w) 0 = p (66, 0, 0) w ∧ q (6, 0, w) 1 = p (67, 0, 0) w ∧ ∀ i : Nat, (i : Int) < (p (67, 0, 0) w).toInt → q (34, 0, w) i = p (68, 0, 0) (24 * w + i)
theorem sub1k {r z : Int32} (h : z = r - (1 : Int32)) : ((1 ≤ r.toInt ∧ r.toInt ≤ 5) ∧ z.toInt = r.toInt - 1) ∨ (¬ (1 ≤ r.toInt ∧ r.toInt ≤ 5) ∧ ¬ (0 ≤ z.toInt ∧ z.toInt ≤ 4)) := by
  have b1 := Int32.le_toInt r
  have b2 := Int32.toInt_lt r
  by_cases e : r.toInt = -2147483648
  · right
    have er : r = -2147483648 := i32e (by rw [e]; decide)
    rw [h, er]
    decide
  · have s := subI (x := r) rfl il_1 (by omega) (by omega)
    rw [← h] at s
    omega
theorem x6num {w : Nat} {v r : Int32} {M : mM} (h : SP_X6_numberAt w v M r) (hv : 0 ≤ v.toInt ∧ v.toInt < (M.1 (6, 0, w) 1).toInt) : r = M.1 (34, 0, w) v.toInt.toNat := by
  have q0 := il_0
  have q1 := il_1
  have hs : ∀ {x : Int32}, SP_X6_has w v M x → x.toInt = 1 := fun {x} hh => by
    refine xE_SP_X6_has hh ⟨(fun h1_ hr_ => ?_), (fun h1_ z2_ e3_ h4_ => ⟨(fun h5_ hr_ => ?_), (fun h5_ h6_ hr_ => ?_)⟩)⟩
    · omega
    · have := eT e3_; omega
    · have := eT hr_; omega
  refine xE_SP_X6_numberAt h ⟨(fun hs5_ h4_ j9_ h10_ z7_ e8_ hr_ => ?_), (fun hs5_ hr_ => ?_)⟩
  · rw [hr_, e8_, show j9_ = v.toInt.toNat by omega]
  · have := hs hs5_
    omega
theorem kaL {a b : Int} (k : ((1 ≤ a ∧ a ≤ 5) ∧ b = a - 1) ∨ (¬ (1 ≤ a ∧ a ≤ 5) ∧ ¬ (0 ≤ b ∧ b ≤ 4))) : ((1 ≤ a ∧ a ≤ 5) → (0 ≤ b ∧ b ≤ 4)) ∧ ((0 ≤ b ∧ b ≤ 4) → (1 ≤ a ∧ a ≤ 5)) := by omega
def LYR (C0 D0 : mM) (x y : Int32 × Int32 × mM) : Prop := x.1.toInt = y.1.toInt ∧ x.2.1 = y.2.1 ∧ RW 0 x.2.2.1 (y.2.2.1 (50, 0, 0)) ∧ (∀ (c : rf) (k : Nat), c.1 = 6 ∨ c.1 = 34 → x.2.2.1 c k = C0.1 c k) ∧ ∀ (c : rf) (k : Nat), ¬ c.1 = 50 → y.2.2.1 c k = D0.1 c k
set_option maxHeartbeats 8000000 in
theorem lays_loop {v u : Int32} {w : Nat} {C D : mM} {z t : Int32 × Int32 × mM} (hw : (w : Int) = v.toInt ∧ w < 4) (hu : 0 ≤ u.toInt ∧ u.toInt ≤ 11) (hR : RW 0 C.1 (D.1 (50, 0, 0))) (hS : SHR C.1 D.1) (h7 : (D.1 (12, 0, 0) 7).toInt = -1) (h16 : (D.1 (67, 0, 0) w).toInt ≤ 16)
    (hc : RCH (fun x y : Int32 × Int32 × mM => ST_X11_lays_79 u C w x.1 x.2.1 x.2.2 y.1 y.2.1 y.2.2) ((0 : Int32), (0 : Int32), C) z) (hd : RCH (fun x y : Int32 × Int32 × mM => ST_X12_lays_81 v u D x.1 x.2.1 x.2.2 y.1 y.2.1 y.2.2) ((0 : Int32), (0 : Int32), D) t)
    (fc : (z.2.2.1 (6, 0, w) 1).toInt ≤ z.1.toInt) (fd : (t.2.2.1 (67, 0, 0) w).toInt ≤ t.1.toInt) : LYR C D z t := by
  have q0 := il_0
  have q1 := il_1
  have Sw := hS w hw.2
  have sz := eT Sw.2.1
  refine lockE (LYR C D) hc hd ⟨rfl, rfl, hR, fun _ _ _ => rfl, fun _ _ _ => rfl⟩ ?_ ?_ ?_
  · intro x z y t r s1 s2
    obtain ⟨r1, r2, r3, r4, r5⟩ := r
    (try dsimp only at s1 s2)
    have bT := eT r3.1.2.1.1
    have no : ∀ (z' t' : Int32 × Int32 × mM), z'.1.toInt = x.1.toInt + 1 → t'.1.toInt = y.1.toInt + 1 → z'.2 = x.2 → t'.2 = y.2 → LYR C D z' t' := fun z' t' a1 a2 a3 a4 => by
      unfold LYR
      rw [a3, a4]
      exact ⟨by omega, r2, r3, r4, r5⟩
    refine xE_ST_X11_lays_79 s1 (fun c_hv0_79 _ c_hF_79 c_z30_ c_e31_ c_h32_ c_h33_ c_r34_ c_hs38_ c_z39_ c_h40_ c_z41_ c_h42_ c_z43_ c_h44_ => ?_)
    refine xE_ST_X12_lays_81 s2 (fun d_hv0_81 d_hI_81 d_hF_81 d_j33_ d_h34_ d_z31_ d_e32_ d_h35_ d_h36_ d_h37_ d_z38_ d_h39_ d_z40_ d_h41_ d_j44_ d_h45_ d_z42_ d_e43_ => ?_)
    have nT := nTh_b d_hI_81.2.1
    have y1 := eT c_e31_
    rw [r4 _ _ (by simp)] at y1
    have y2 := eT d_e32_
    rw [r5 _ _ (by simp), show d_j33_ = w by omega] at y2
    have num := x6num c_hs38_ (by rw [r4 (6, 0, w) 1 (by simp)]; omega)
    rw [r4 _ _ (by simp), Sw.2.2 _ (by omega)] at num
    have z42 := d_e43_
    rw [r5 _ _ (by simp), show d_j44_ = 24 * w + x.1.toInt.toNat by omega] at z42
    have k1 := sub1k c_h40_
    rw [num, ← z42] at k1
    refine ⟨fun d_hs50_ d_h49_ d_z52_ d_e53_ d_h54_ => ?_, fun d_hs50_ d_h49_ d_z90_ d_h91_ d_hq_v4_81y d_hq_v3_81y d_hM_ => ?_⟩
    · have y3 := eT d_e53_
      refine ⟨fun d_h55_ d_z56_ d_h57_ d_hq_v4_81y d_hq_v3_81y d_hM_ => ?_, fun d_h55_ d_z58_ d_h59_ d_z60_ d_h61_ d_r62_ d_hs66_ d_h65_ => ?_⟩
      · have e2 := eT d_hq_v4_81y
        refine ⟨fun c_hs49_ c_h48_ => ⟨fun c_hs55_ c_h54_ c_r57_ c_hs61_ c_h60_ => ⟨fun c_h62_ c_z63_ c_h64_ c_hq_v5_79y c_hq_v4_79y c_hM_ => ?_, fun c_h62_ c_M66_ _ c_hF70_ c_r65_ c_hs72_ c_z73_ c_h74_ c_z75_ c_h76_ c_hq_v5_79y c_hq_v4_79y c_hM_ => ?_⟩, fun c_hs55_ c_z78_ c_h79_ c_hq_v5_79y c_hq_v4_79y c_hM_ => ?_⟩, fun c_hs49_ c_h48_ c_z81_ c_h82_ c_hq_v5_79y c_hq_v4_79y c_hM_ => ?_⟩
        · have e1 := eT c_hq_v5_79y; exact no _ _ (by omega) (by omega) (Prod.ext c_hq_v4_79y c_hM_) (Prod.ext d_hq_v3_81y d_hM_)
        · have fr := x7free c_hs55_; have rm := x7room c_hs61_; omega
        · have e1 := eT c_hq_v5_79y; exact no _ _ (by omega) (by omega) (Prod.ext c_hq_v4_79y c_hM_) (Prod.ext d_hq_v3_81y d_hM_)
        · exact absurd ((kaL k1).1 d_h49_) c_h48_
      · have gf := x12free d_hs66_ r3.1.2.2.2.2.1 (by omega) (by rw [r5 _ _ (by simp)]; omega)
        rw [r5 (12, 0, 0) 7 (by simp)] at gf
        have cell : d_z60_.toInt = c_z43_.toInt := by omega
        rw [cell] at gf
        refine ⟨fun d_h67_ d_z68_ d_h69_ d_hq_v4_81y d_hq_v3_81y d_hM_ => ?_, fun d_h67_ d_z70_ d_h71_ d_z72_ d_h73_ d_z74_ d_h75_ d_M77_ d_hI80_ d_hF81_ d_r76_ d_hs83_ d_h79_ d_z85_ d_h86_ d_z87_ d_h88_ d_hq_v4_81y d_hq_v3_81y d_hM_ => ?_⟩
        · have e2 := eT d_hq_v4_81y
          refine ⟨fun c_hs49_ c_h48_ => ⟨fun c_hs55_ c_h54_ c_r57_ c_hs61_ c_h60_ => ⟨fun c_h62_ c_z63_ c_h64_ c_hq_v5_79y c_hq_v4_79y c_hM_ => ?_, fun c_h62_ c_M66_ _ c_hF70_ c_r65_ c_hs72_ c_z73_ c_h74_ c_z75_ c_h76_ c_hq_v5_79y c_hq_v4_79y c_hM_ => ?_⟩, fun c_hs55_ c_z78_ c_h79_ c_hq_v5_79y c_hq_v4_79y c_hM_ => ?_⟩, fun c_hs49_ c_h48_ c_z81_ c_h82_ c_hq_v5_79y c_hq_v4_79y c_hM_ => ?_⟩
          · have e1 := eT c_hq_v5_79y; exact no _ _ (by omega) (by omega) (Prod.ext c_hq_v4_79y c_hM_) (Prod.ext d_hq_v3_81y d_hM_)
          · have fr := x7free c_hs55_; have rm := x7room c_hs61_; omega
          · have e1 := eT c_hq_v5_79y; exact no _ _ (by omega) (by omega) (Prod.ext c_hq_v4_79y c_hM_) (Prod.ext d_hq_v3_81y d_hM_)
          · exact absurd ((kaL k1).1 d_h49_) c_h48_
        · have e2 := eT d_hq_v4_81y
          refine ⟨fun c_hs49_ c_h48_ => ⟨fun c_hs55_ c_h54_ c_r57_ c_hs61_ c_h60_ => ⟨fun c_h62_ c_z63_ c_h64_ c_hq_v5_79y c_hq_v4_79y c_hM_ => ?_, fun c_h62_ c_M66_ _ c_hF70_ c_r65_ c_hs72_ c_z73_ c_h74_ c_z75_ c_h76_ c_hq_v5_79y c_hq_v4_79y c_hM_ => ?_⟩, fun c_hs55_ c_z78_ c_h79_ c_hq_v5_79y c_hq_v4_79y c_hM_ => ?_⟩, fun c_hs49_ c_h48_ c_z81_ c_h82_ c_hq_v5_79y c_hq_v4_79y c_hM_ => ?_⟩
          · have fr := x7free c_hs55_; have rm := x7room c_hs61_; omega
          · have fr := x7free c_hs55_
            have rm := x7room c_hs61_
            have e1 := eT c_hq_v5_79y
            have ca := x7add c_hs72_ (by omega) (by omega)
            have da := x12comes d_hs83_
            rw [i32e (show d_z74_.toInt = c_z43_.toInt by omega), i32e (show d_z70_.toInt = c_z39_.toInt by omega)] at da
            have B := WRR_add2 ca.2 da.2 r3 d_hI_81.2.1 (by unfold nTh; omega) (by omega) (by omega)
            refine ⟨by omega, ?_, ?_, fun c k q => ?_, fun c k q => ?_⟩
            · rw [c_hq_v4_79y, d_hq_v3_81y, c_h74_, d_h86_, r2]
            · rw [c_hM_, d_hM_]; exact B
            · obtain ⟨-, zz, -, ce⟩ := ca
              rw [c_hM_, ce, up_other _ _ (fun e => by rw [e] at q; simp at q), up_other _ _ (fun e => by rw [e] at q; simp at q), up_other _ _ (fun e => by rw [e] at q; simp at q), up_other _ _ (fun e => by rw [e] at q; simp at q), up_other _ _ (fun e => by rw [e] at q; simp at q), up_other _ _ (fun e => by rw [e] at q; simp at q)]
              exact r4 c k q
            · obtain ⟨-, zz, -, de⟩ := da
              rw [d_hM_, de, up_other _ _ (fun e => q (by rw [e])), up_other _ _ (fun e => q (by rw [e])), up_other _ _ (fun e => q (by rw [e])), up_other _ _ (fun e => q (by rw [e])), up_other _ _ (fun e => q (by rw [e]))]
              exact r5 c k q
          · have fr := x7free c_hs55_; omega
          · exact absurd ((kaL k1).1 d_h49_) c_h48_
    · have e2 := eT d_hq_v4_81y
      refine ⟨fun c_hs49_ c_h48_ => ⟨fun c_hs55_ c_h54_ c_r57_ c_hs61_ c_h60_ => ⟨fun c_h62_ c_z63_ c_h64_ c_hq_v5_79y c_hq_v4_79y c_hM_ => ?_, fun c_h62_ c_M66_ _ c_hF70_ c_r65_ c_hs72_ c_z73_ c_h74_ c_z75_ c_h76_ c_hq_v5_79y c_hq_v4_79y c_hM_ => ?_⟩, fun c_hs55_ c_z78_ c_h79_ c_hq_v5_79y c_hq_v4_79y c_hM_ => ?_⟩, fun c_hs49_ c_h48_ c_z81_ c_h82_ c_hq_v5_79y c_hq_v4_79y c_hM_ => ?_⟩
      · exact absurd ((kaL k1).2 c_h48_) d_h49_
      · exact absurd ((kaL k1).2 c_h48_) d_h49_
      · exact absurd ((kaL k1).2 c_h48_) d_h49_
      · have e1 := eT c_hq_v5_79y; exact no _ _ (by omega) (by omega) (Prod.ext c_hq_v4_79y c_hM_) (Prod.ext d_hq_v3_81y d_hM_)
  · intro y y' r s2
    obtain ⟨r1, r2, r3, r4, r5⟩ := r
    (try dsimp only at s2)
    rw [r4 (6, 0, w) 1 (by simp)] at fc
    refine xE_ST_X12_lays_81 s2 (fun d_hv0_81 _ d_hF_81 d_j33_ d_h34_ d_z31_ d_e32_ d_h35_ d_h36_ d_h37_ d_z38_ d_h39_ d_z40_ d_h41_ d_j44_ d_h45_ d_z42_ d_e43_ => ⟨(fun d_hs50_ d_h49_ d_z52_ d_e53_ d_h54_ => ⟨(fun d_h55_ d_z56_ d_h57_ d_hq_v4_81y d_hq_v3_81y d_hM_ => ?_), (fun d_h55_ d_z58_ d_h59_ d_z60_ d_h61_ d_r62_ d_hs66_ d_h65_ => ⟨(fun d_h67_ d_z68_ d_h69_ d_hq_v4_81y d_hq_v3_81y d_hM_ => ?_), (fun d_h67_ d_z70_ d_h71_ d_z72_ d_h73_ d_z74_ d_h75_ d_M77_ _ d_hF81_ d_r76_ d_hs83_ d_h79_ d_z85_ d_h86_ d_z87_ d_h88_ d_hq_v4_81y d_hq_v3_81y d_hM_ => ?_)⟩)⟩), (fun d_hs50_ d_h49_ d_z90_ d_h91_ d_hq_v4_81y d_hq_v3_81y d_hM_ => ?_)⟩)
    all_goals
      have y2 := eT d_e32_
      rw [r5 _ _ (by simp), show d_j33_ = w by omega] at y2
      omega
  · intro x x' r s1
    obtain ⟨r1, r2, r3, r4, r5⟩ := r
    (try dsimp only at s1)
    rw [r5 (67, 0, 0) w (by simp)] at fd
    refine xE_ST_X11_lays_79 s1 (fun c_hv0_79 _ c_hF_79 c_z30_ c_e31_ c_h32_ c_h33_ c_r34_ c_hs38_ c_z39_ c_h40_ c_z41_ c_h42_ c_z43_ c_h44_ => ⟨(fun c_hs49_ c_h48_ => ⟨(fun c_hs55_ c_h54_ c_r57_ c_hs61_ c_h60_ => ⟨(fun c_h62_ c_z63_ c_h64_ c_hq_v5_79y c_hq_v4_79y c_hM_ => ?_), (fun c_h62_ c_M66_ _ c_hF70_ c_r65_ c_hs72_ c_z73_ c_h74_ c_z75_ c_h76_ c_hq_v5_79y c_hq_v4_79y c_hM_ => ?_)⟩), (fun c_hs55_ c_z78_ c_h79_ c_hq_v5_79y c_hq_v4_79y c_hM_ => ?_)⟩), (fun c_hs49_ c_h48_ c_z81_ c_h82_ c_hq_v5_79y c_hq_v4_79y c_hM_ => ?_)⟩)
    all_goals
      have y1 := eT c_e31_
      rw [r4 _ _ (by simp)] at y1
      omega
