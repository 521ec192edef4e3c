section
/-! move -/
theorem cp_run {M M1 : mM} {c0 c1 : rf} {u s q : Int32} (h : M1 = cp M c0 c1 u.toNatClampNeg s.toNatClampNeg q.toNatClampNeg) (hu : 0 ≤ u.toInt) (hs : 0 ≤ s.toInt) (hq : 0 ≤ q.toInt) : (∀ (c : rf) (k : Nat), ¬ c = c1 → M1.1 c k = M.1 c k) ∧ ∀ k : Nat, ((s.toInt ≤ (k : Int) ∧ (k : Int) < s.toInt + q.toInt) ∧ M1.1 c1 k = M.1 c0 (u.toInt.toNat + (k - s.toInt.toNat))) ∨ (¬ (s.toInt ≤ (k : Int) ∧ (k : Int) < s.toInt + q.toInt) ∧ M1.1 c1 k = M.1 c1 k) := by
  have a1 := clI (x := u) rfl hu
  have a2 := clI (x := s) rfl hs
  have a3 := clI (x := q) rfl hq
  refine ⟨fun c k hc => by rw [h, cp_other _ _ _ hc], fun k => ?_⟩
  by_cases e : s.toInt ≤ (k : Int) ∧ (k : Int) < s.toInt + q.toInt
  · left
    refine ⟨e, ?_⟩
    rw [h, cp_row]
    unfold va_cpy
    rw [if_pos ⟨by omega, by omega⟩, show u.toNatClampNeg + (k - s.toNatClampNeg) = u.toInt.toNat + (k - s.toInt.toNat) by omega]
  · right
    refine ⟨e, ?_⟩
    rw [h, cp_row]
    unfold va_cpy
    rw [if_neg (fun z => e ⟨by omega, by omega⟩)]
theorem move127 {v u q : Int32} {D Da : mM} {w : Int32 × mM} (h : RCH (fun x y : Int32 × mM => ST_X12_move_127 v u q D x.1 x.2 y.1 y.2) ((0 : Int32), Da) w) (hv : 0 ≤ v.toInt) (hu : 0 ≤ u.toInt) : (∀ (c : rf) (k : Nat), ¬ c = (69, 0, 0) → w.2.1 c k = Da.1 c k) ∧ ∀ k : Nat, (k : Int) < w.1.toInt → w.2.1 (69, 0, 0) k = Da.1 (68, 0, 0) (24 * v.toInt.toNat + u.toInt.toNat + k) := by
  have q0 := il_0
  have g := rind h (fun z => 0 ≤ z.1.toInt ∧ (∀ (c : rf) (k : Nat), ¬ c = (69, 0, 0) → z.2.1 c k = Da.1 c k) ∧ ∀ k : Nat, (k : Int) < z.1.toInt → z.2.1 (69, 0, 0) k = Da.1 (68, 0, 0) (24 * v.toInt.toNat + u.toInt.toNat + k)) ⟨by dsimp only; omega, fun _ _ _ => rfl, fun k hk => by dsimp only at hk; omega⟩ (fun x z p st => by
    (try dsimp only at p st ⊢)
    obtain ⟨p1, p2, p3⟩ := p
    refine xE_ST_X12_move_127 st (fun k_hv0_127 _ k_hF_127 k_h116_ k_z137_ k_h138_ k_z139_ k_h140_ k_z141_ k_h142_ k_j145_ k_h146_ k_z143_ k_e144_ k_j149_ k_h150_ k_M147_ k_hM148_ k_z153_ k_h154_ k_hq_v6_127y k_hM_ => ?_)
    have e := eT k_hq_v6_127y
    rw [k_hM_]
    refine ⟨by omega, fun c k q1 => ?_, fun k hk => ?_⟩
    · rw [zupN k_hM148_ (fun z => q1 z.1)]; exact p2 c k q1
    · by_cases e2 : (k : Int) = x.1.toInt
      · rw [zupE k_hM148_ rfl (by omega), k_e144_, p2 _ _ (by simp), show k_j145_ = 24 * v.toInt.toNat + u.toInt.toNat + k by omega]
      · rw [zupN k_hM148_ (fun z => by have := z.2; omega)]; exact p3 k (by omega))
  exact g.2
theorem move164 {t s q : Int32} {D Da : mM} {w : Int32 × mM} (h : RCH (fun x y : Int32 × mM => ST_X12_move_164 t s q D x.1 x.2 y.1 y.2) ((0 : Int32), Da) w) (ht : 0 ≤ t.toInt) (hs : 0 ≤ s.toInt) (hw : w.1.toInt ≤ q.toInt) : (∀ (c : rf) (k : Nat), ¬ c = (68, 0, 0) → w.2.1 c k = Da.1 c k) ∧ (∀ k : Nat, ¬ (24 * t.toInt.toNat + s.toInt.toNat ≤ k ∧ (k : Int) < 24 * t.toInt + s.toInt + q.toInt) → w.2.1 (68, 0, 0) k = Da.1 (68, 0, 0) k) ∧ ∀ k : Nat, (k : Int) < w.1.toInt → w.2.1 (68, 0, 0) (24 * t.toInt.toNat + s.toInt.toNat + k) = Da.1 (69, 0, 0) k := by
  have q0 := il_0
  have g := rind h (fun z => 0 ≤ z.1.toInt ∧ (∀ (c : rf) (k : Nat), ¬ c = (68, 0, 0) → z.2.1 c k = Da.1 c k) ∧ (∀ k : Nat, ¬ (24 * t.toInt.toNat + s.toInt.toNat ≤ k ∧ (k : Int) < 24 * t.toInt + s.toInt + q.toInt) → z.2.1 (68, 0, 0) k = Da.1 (68, 0, 0) k) ∧ ∀ k : Nat, (k : Int) < z.1.toInt → z.2.1 (68, 0, 0) (24 * t.toInt.toNat + s.toInt.toNat + k) = Da.1 (69, 0, 0) k) ⟨by dsimp only; omega, fun _ _ _ => rfl, fun _ _ => rfl, fun k hk => by dsimp only at hk; omega⟩ (fun x z p st => by
    (try dsimp only at p st ⊢)
    obtain ⟨p1, p2, p3, p4⟩ := p
    refine xE_ST_X12_move_164 st (fun k_hv0_164 _ k_hF_164 k_h118_ k_z119_ k_h120_ k_z121_ k_h122_ k_z123_ k_h124_ k_j127_ k_h128_ k_z125_ k_e126_ k_j131_ k_h132_ k_M129_ k_hM130_ k_z135_ k_h136_ k_hq_v6_164y k_hM_ => ?_)
    have e := eT k_hq_v6_164y
    rw [k_hM_]
    refine ⟨by omega, fun c k q1 => ?_, fun k hk => ?_, fun k hk => ?_⟩
    · rw [zupN k_hM130_ (fun z => q1 z.1)]; exact p2 c k q1
    · rw [zupN k_hM130_ (fun z => hk (by have := z.2; omega))]; exact p3 k hk
    · by_cases e2 : (k : Int) = x.1.toInt
      · rw [zupE k_hM130_ rfl (by omega), k_e126_, p2 _ _ (by simp), show k_j127_ = k by omega]
      · rw [zupN k_hM130_ (fun z => by have := z.2; omega)]; exact p4 k (by omega))
  exact g.2
theorem sh_34 {v u t s q : Int32} {M M1 D D2 : mM} {r1 r2 : Int32} (h1 : SP_X11_move v u t s q M r1 M1) (h2 : SP_X12_move v u t s q D r2 D2) (hS : SHR M.1 D.1) (hD : InvD D) : SHR M1.1 D2.1 := by
  have q0 := il_0
  have q1 := il_1
  have zb := sz_b hD
  have sw := fun (w : Nat) (hw : w < 4) => And.intro (eT (hS w hw).1) (eT (hS w hw).2.1)
  refine xE_SP_X11_move h1 ⟨(fun c_hs5_ c_h4_ => ⟨(fun c_hs11_ c_h10_ c_j13_ c_h14_ c_h15_ c_j16_ c_h17_ c_h18_ c_r19_ c_hs23_ c_h22_ => ⟨(fun c_h24_ c_M26_ _ c_hF30_ c_r25_ c_hs32_ c_hr_ c_hM_ => ?_), (fun c_h24_ c_r33_ c_hs37_ c_h36_ => ⟨(fun c_h38_ c_z39_ c_e40_ c_z41_ c_e42_ => ⟨(fun c_h43_ => ⟨(fun c_hs48_ c_h47_ => ⟨(fun c_hs54_ c_h53_ c_M56_ c_hM57_ c_hr_ c_hM_ => ?_), (fun c_hs54_ c_M62_ _ c_hF66_ c_r61_ c_hs68_ c_hr_ c_hM_ => ?_)⟩), (fun c_hs48_ c_M71_ _ c_hF75_ c_r70_ c_hs77_ c_hr_ c_hM_ => ?_)⟩), (fun c_h43_ c_M79_ _ c_hF83_ c_r78_ c_hs85_ c_hr_ c_hM_ => ?_)⟩), (fun c_h38_ c_M87_ _ c_hF91_ c_r86_ c_hs93_ c_hr_ c_hM_ => ?_)⟩)⟩), (fun c_hs11_ c_h10_ c_M96_ _ c_hF100_ c_r95_ c_hs102_ c_hr_ c_hM_ => ?_)⟩), (fun c_hs5_ c_h4_ c_M105_ _ c_hF109_ c_r104_ c_hs111_ c_hr_ c_hM_ => ?_)⟩
  ·
    obtain rfl : c_j13_ = v.toInt.toNat := by omega
    obtain rfl : c_j16_ = t.toInt.toNat := by omega
    have sv := sw v.toInt.toNat (by omega)
    have zbv := zb v.toInt.toNat
    have st := sw t.toInt.toNat (by omega)
    have zbt := zb t.toInt.toNat
    have mihs23_ := x6miss c_hs23_
    refine xE_SP_X12_move h2 ⟨(fun d_hs5_ d_h4_ => ⟨(fun d_hs11_ d_h10_ d_j15_ d_h16_ d_z13_ d_e14_ => ⟨(fun d_h17_ d_M19_ _ d_hF23_ d_r18_ d_hs25_ d_h21_ d_hr_ d_hM_ => ?_), (fun d_h17_ d_j28_ d_h29_ d_z26_ d_e27_ => ⟨(fun d_h30_ d_j33_ d_h34_ d_z31_ d_e32_ d_j37_ d_h38_ d_z35_ d_e36_ => ⟨(fun d_h39_ => ⟨(fun d_h40_ d_M42_ _ d_hF46_ d_r41_ d_hs48_ d_h44_ d_hr_ d_hM_ => ?_), (fun d_h40_ => ⟨(fun d_h49_ d_M51_ _ d_hF55_ d_r50_ d_hs57_ d_h53_ d_hr_ d_hM_ => ?_), (fun d_h49_ => ⟨(fun d_h58_ d_M60_ _ d_hF64_ d_r59_ d_hs66_ d_h62_ d_hr_ d_hM_ => ?_), (fun d_h58_ d_w67_ d_h68_ d_h69_ d_w70_ d_h71_ d_h72_ d_w73_ d_h74_ d_h75_ d_j78_ d_h79_ d_z76_ d_e77_ d_h80_ d_w81_ d_h82_ d_h83_ d_z84_ d_h85_ => ⟨(fun d_h86_ d_M88_ _ d_hF92_ d_r87_ d_hs94_ d_h90_ d_hr_ d_hM_ => ?_), (fun d_h86_ d_w95_ d_h96_ d_h97_ d_w98_ d_h99_ d_h100_ d_w101_ d_h102_ d_h103_ d_j106_ d_h107_ d_z104_ d_e105_ d_h108_ d_w109_ d_h110_ d_h111_ d_z112_ d_h113_ => ⟨(fun d_h114_ d_v6_127 d_hv0_127 d_M_127 d_hL_127 _ d_hF_127 d_h116_ d_v6_164 d_hv0_164 d_M_164 d_hL_164 _ d_hF_164 d_h118_ d_hr_ d_hM_ => ?_), (fun d_h114_ d_M156_ _ d_hF160_ d_r155_ d_hs162_ d_h158_ d_hr_ d_hM_ => ?_)⟩)⟩)⟩)⟩)⟩), (fun d_h39_ d_M164_ _ d_hF168_ d_r163_ d_hs170_ d_h166_ d_hr_ d_hM_ => ?_)⟩), (fun d_h30_ d_M172_ _ d_hF176_ d_r171_ d_hs178_ d_h174_ d_hr_ d_hM_ => ?_)⟩)⟩), (fun d_hs11_ d_h10_ d_M181_ _ d_hF185_ d_r180_ d_hs187_ d_h183_ d_hr_ d_hM_ => ?_)⟩), (fun d_hs5_ d_h4_ d_M190_ _ d_hF194_ d_r189_ d_hs196_ d_h192_ d_hr_ d_hM_ => ?_)⟩
    · skip
      exact shE hS c_hF30_ c_hM_ d_hF23_ d_hM_
    · skip
      exact shE hS c_hF30_ c_hM_ d_hF46_ d_hM_
    · skip
      exact shE hS c_hF30_ c_hM_ d_hF55_ d_hM_
    · skip
      exact shE hS c_hF30_ c_hM_ d_hF64_ d_hM_
    · skip
      exact shE hS c_hF30_ c_hM_ d_hF92_ d_hM_
    · skip
      obtain rfl : d_j15_ = v.toInt.toNat := by omega
      obtain rfl : d_j33_ = v.toInt.toNat := by omega
      obtain rfl : d_j78_ = v.toInt.toNat := by omega
      obtain rfl : d_j28_ = t.toInt.toNat := by omega
      obtain rfl : d_j37_ = t.toInt.toNat := by omega
      obtain rfl : d_j106_ = t.toInt.toNat := by omega
      have yde14_ := eT d_e14_
      have yde27_ := eT d_e27_
      have yde32_ := eT d_e32_
      have yde36_ := eT d_e36_
      have yde77_ := eT d_e77_
      have yde105_ := eT d_e105_
      omega
    · skip
      exact shE hS c_hF30_ c_hM_ d_hF160_ d_hM_
    · skip
      exact shE hS c_hF30_ c_hM_ d_hF168_ d_hM_
    · skip
      exact shE hS c_hF30_ c_hM_ d_hF176_ d_hM_
    · skip
      exact shE hS c_hF30_ c_hM_ d_hF185_ d_hM_
    · skip
      exact shE hS c_hF30_ c_hM_ d_hF194_ d_hM_
  ·
    obtain rfl : c_j13_ = v.toInt.toNat := by omega
    obtain rfl : c_j16_ = t.toInt.toNat := by omega
    have sv := sw v.toInt.toNat (by omega)
    have zbv := zb v.toInt.toNat
    have st := sw t.toInt.toNat (by omega)
    have zbt := zb t.toInt.toNat
    have mihs23_ := x6miss c_hs23_
    have mihs37_ := x6miss c_hs37_
    have ruhs48_ := x6runY c_hs48_
    have ruhs54_ := x6runY c_hs54_
    have yce40_ := eT c_e40_
    have yce42_ := eT c_e42_
    refine xE_SP_X12_move h2 ⟨(fun d_hs5_ d_h4_ => ⟨(fun d_hs11_ d_h10_ d_j15_ d_h16_ d_z13_ d_e14_ => ⟨(fun d_h17_ d_M19_ _ d_hF23_ d_r18_ d_hs25_ d_h21_ d_hr_ d_hM_ => ?_), (fun d_h17_ d_j28_ d_h29_ d_z26_ d_e27_ => ⟨(fun d_h30_ d_j33_ d_h34_ d_z31_ d_e32_ d_j37_ d_h38_ d_z35_ d_e36_ => ⟨(fun d_h39_ => ⟨(fun d_h40_ d_M42_ _ d_hF46_ d_r41_ d_hs48_ d_h44_ d_hr_ d_hM_ => ?_), (fun d_h40_ => ⟨(fun d_h49_ d_M51_ _ d_hF55_ d_r50_ d_hs57_ d_h53_ d_hr_ d_hM_ => ?_), (fun d_h49_ => ⟨(fun d_h58_ d_M60_ _ d_hF64_ d_r59_ d_hs66_ d_h62_ d_hr_ d_hM_ => ?_), (fun d_h58_ d_w67_ d_h68_ d_h69_ d_w70_ d_h71_ d_h72_ d_w73_ d_h74_ d_h75_ d_j78_ d_h79_ d_z76_ d_e77_ d_h80_ d_w81_ d_h82_ d_h83_ d_z84_ d_h85_ => ⟨(fun d_h86_ d_M88_ _ d_hF92_ d_r87_ d_hs94_ d_h90_ d_hr_ d_hM_ => ?_), (fun d_h86_ d_w95_ d_h96_ d_h97_ d_w98_ d_h99_ d_h100_ d_w101_ d_h102_ d_h103_ d_j106_ d_h107_ d_z104_ d_e105_ d_h108_ d_w109_ d_h110_ d_h111_ d_z112_ d_h113_ => ⟨(fun d_h114_ d_v6_127 d_hv0_127 d_M_127 d_hL_127 _ d_hF_127 d_h116_ d_v6_164 d_hv0_164 d_M_164 d_hL_164 _ d_hF_164 d_h118_ d_hr_ d_hM_ => ?_), (fun d_h114_ d_M156_ _ d_hF160_ d_r155_ d_hs162_ d_h158_ d_hr_ d_hM_ => ?_)⟩)⟩)⟩)⟩)⟩), (fun d_h39_ d_M164_ _ d_hF168_ d_r163_ d_hs170_ d_h166_ d_hr_ d_hM_ => ?_)⟩), (fun d_h30_ d_M172_ _ d_hF176_ d_r171_ d_hs178_ d_h174_ d_hr_ d_hM_ => ?_)⟩)⟩), (fun d_hs11_ d_h10_ d_M181_ _ d_hF185_ d_r180_ d_hs187_ d_h183_ d_hr_ d_hM_ => ?_)⟩), (fun d_hs5_ d_h4_ d_M190_ _ d_hF194_ d_r189_ d_hs196_ d_h192_ d_hr_ d_hM_ => ?_)⟩
    · skip
      obtain rfl : d_j15_ = v.toInt.toNat := by omega
      have yde14_ := eT d_e14_
      omega
    · skip
      obtain rfl : d_j15_ = v.toInt.toNat := by omega
      obtain rfl : d_j33_ = v.toInt.toNat := by omega
      obtain rfl : d_j28_ = t.toInt.toNat := by omega
      obtain rfl : d_j37_ = t.toInt.toNat := by omega
      have yde14_ := eT d_e14_
      have yde27_ := eT d_e27_
      have yde32_ := eT d_e32_
      have yde36_ := eT d_e36_
      omega
    · skip
      obtain rfl : d_j15_ = v.toInt.toNat := by omega
      obtain rfl : d_j33_ = v.toInt.toNat := by omega
      obtain rfl : d_j28_ = t.toInt.toNat := by omega
      obtain rfl : d_j37_ = t.toInt.toNat := by omega
      have yde14_ := eT d_e14_
      have yde27_ := eT d_e27_
      have yde32_ := eT d_e32_
      have yde36_ := eT d_e36_
      omega
    · skip
      obtain rfl : d_j15_ = v.toInt.toNat := by omega
      obtain rfl : d_j33_ = v.toInt.toNat := by omega
      obtain rfl : d_j28_ = t.toInt.toNat := by omega
      obtain rfl : d_j37_ = t.toInt.toNat := by omega
      have yde14_ := eT d_e14_
      have yde27_ := eT d_e27_
      have yde32_ := eT d_e32_
      have yde36_ := eT d_e36_
      omega
    · skip
      obtain rfl : d_j15_ = v.toInt.toNat := by omega
      obtain rfl : d_j33_ = v.toInt.toNat := by omega
      obtain rfl : d_j78_ = v.toInt.toNat := by omega
      obtain rfl : d_j28_ = t.toInt.toNat := by omega
      obtain rfl : d_j37_ = t.toInt.toNat := by omega
      have yde14_ := eT d_e14_
      have yde27_ := eT d_e27_
      have yde32_ := eT d_e32_
      have yde36_ := eT d_e36_
      have yde77_ := eT d_e77_
      omega
    · skip
      obtain rfl : d_j15_ = v.toInt.toNat := by omega
      obtain rfl : d_j33_ = v.toInt.toNat := by omega
      obtain rfl : d_j78_ = v.toInt.toNat := by omega
      obtain rfl : d_j28_ = t.toInt.toNat := by omega
      obtain rfl : d_j37_ = t.toInt.toNat := by omega
      obtain rfl : d_j106_ = t.toInt.toNat := by omega
      have yde14_ := eT d_e14_
      have yde27_ := eT d_e27_
      have yde32_ := eT d_e32_
      have yde36_ := eT d_e36_
      have yde77_ := eT d_e77_
      have yde105_ := eT d_e105_
      have run := cp_run c_hM57_ (by omega) (by omega) (by omega)
      obtain ⟨g1, g2⟩ := run
      have m1 := move127 d_hL_127 (by omega) (by omega)
      obtain ⟨a1, a2⟩ := m1
      have q164 : d_v6_164.toInt ≤ q.toInt := by
        have g := rind d_hL_164 (fun z => z.1.toInt ≤ q.toInt) (by dsimp only; omega) (fun x z pp st => by
          (try dsimp only at pp st ⊢)
          refine xE_ST_X12_move_164 st (fun k_hv0_164 _ k_hF_164 k_h118_ k_z119_ k_h120_ k_z121_ k_h122_ k_z123_ k_h124_ k_j127_ k_h128_ k_z125_ k_e126_ k_j131_ k_h132_ k_M129_ k_hM130_ k_z135_ k_h136_ k_hq_v6_164y k_hM_ => ?_)
          have e := eT k_hq_v6_164y
          omega)
        exact g
      have m2 := move164 d_hL_164 (by omega) (by omega) q164
      obtain ⟨b1, b2, b3⟩ := m2
      intro w hw
      obtain ⟨w1, w2, w3⟩ := hS w hw
      have zw := zb w
      have cc : ∀ (c : rf) (k : Nat), ¬ c = (34, 0, t.toInt.toNat) → M1.1 c k = M.1 c k := fun c k hc => by rw [c_hM_]; exact g1 c k hc
      have dd : ∀ (c : rf) (k : Nat), ¬ c = (68, 0, 0) → ¬ c = (69, 0, 0) → D2.1 c k = D.1 c k := fun c k h8 h9 => by rw [d_hM_, b1 c k h8, a1 c k h9]
      rw [cc _ _ (cne (by omega)), cc (6, 0, w) 1 (cne (by omega)), dd _ _ (cne (by omega)) (cne (by omega)), dd (67, 0, 0) w (cne (by omega)) (cne (by omega))]
      refine ⟨w1, w2, fun i hi => ?_⟩
      by_cases e : w = t.toInt.toNat
      · subst e
        rcases g2 i with ⟨r1, r2⟩ | ⟨r1, r2⟩
        · rw [c_hM_, r2, d_hM_, show 24 * t.toInt.toNat + i = 24 * t.toInt.toNat + s.toInt.toNat + (i - s.toInt.toNat) by omega, b3 _ (by dsimp only; omega), a2 _ (by dsimp only; omega), show 24 * v.toInt.toNat + u.toInt.toNat + (i - s.toInt.toNat) = 24 * v.toInt.toNat + (u.toInt.toNat + (i - s.toInt.toNat)) by omega]
          exact (hS v.toInt.toNat (by omega)).2.2 _ (by omega)
        · rw [c_hM_, r2, d_hM_, b2 _ (fun z => by omega), a1 _ _ (by simp)]
          exact w3 i hi
      · rw [cc _ _ (fun z => e (congrArg (fun c : rf => c.2.2) z)), d_hM_, b2 _ (fun z => by omega), a1 _ _ (by simp)]
        exact w3 i hi
    · skip
      obtain rfl : d_j15_ = v.toInt.toNat := by omega
      obtain rfl : d_j33_ = v.toInt.toNat := by omega
      obtain rfl : d_j78_ = v.toInt.toNat := by omega
      obtain rfl : d_j28_ = t.toInt.toNat := by omega
      obtain rfl : d_j37_ = t.toInt.toNat := by omega
      obtain rfl : d_j106_ = t.toInt.toNat := by omega
      have yde14_ := eT d_e14_
      have yde27_ := eT d_e27_
      have yde32_ := eT d_e32_
      have yde36_ := eT d_e36_
      have yde77_ := eT d_e77_
      have yde105_ := eT d_e105_
      omega
    · skip
      obtain rfl : d_j15_ = v.toInt.toNat := by omega
      obtain rfl : d_j33_ = v.toInt.toNat := by omega
      obtain rfl : d_j28_ = t.toInt.toNat := by omega
      obtain rfl : d_j37_ = t.toInt.toNat := by omega
      have yde14_ := eT d_e14_
      have yde27_ := eT d_e27_
      have yde32_ := eT d_e32_
      have yde36_ := eT d_e36_
      omega
    · skip
      obtain rfl : d_j15_ = v.toInt.toNat := by omega
      obtain rfl : d_j28_ = t.toInt.toNat := by omega
      have yde14_ := eT d_e14_
      have yde27_ := eT d_e27_
      omega
    · skip
      omega
    · skip
      omega
  ·
    obtain rfl : c_j13_ = v.toInt.toNat := by omega
    obtain rfl : c_j16_ = t.toInt.toNat := by omega
    have sv := sw v.toInt.toNat (by omega)
    have zbv := zb v.toInt.toNat
    have st := sw t.toInt.toNat (by omega)
    have zbt := zb t.toInt.toNat
    have mihs23_ := x6miss c_hs23_
    have mihs37_ := x6miss c_hs37_
    have ruhs48_ := x6runY c_hs48_
    have ruhs54_ := x6runY c_hs54_
    have yce40_ := eT c_e40_
    have yce42_ := eT c_e42_
    refine xE_SP_X12_move h2 ⟨(fun d_hs5_ d_h4_ => ⟨(fun d_hs11_ d_h10_ d_j15_ d_h16_ d_z13_ d_e14_ => ⟨(fun d_h17_ d_M19_ _ d_hF23_ d_r18_ d_hs25_ d_h21_ d_hr_ d_hM_ => ?_), (fun d_h17_ d_j28_ d_h29_ d_z26_ d_e27_ => ⟨(fun d_h30_ d_j33_ d_h34_ d_z31_ d_e32_ d_j37_ d_h38_ d_z35_ d_e36_ => ⟨(fun d_h39_ => ⟨(fun d_h40_ d_M42_ _ d_hF46_ d_r41_ d_hs48_ d_h44_ d_hr_ d_hM_ => ?_), (fun d_h40_ => ⟨(fun d_h49_ d_M51_ _ d_hF55_ d_r50_ d_hs57_ d_h53_ d_hr_ d_hM_ => ?_), (fun d_h49_ => ⟨(fun d_h58_ d_M60_ _ d_hF64_ d_r59_ d_hs66_ d_h62_ d_hr_ d_hM_ => ?_), (fun d_h58_ d_w67_ d_h68_ d_h69_ d_w70_ d_h71_ d_h72_ d_w73_ d_h74_ d_h75_ d_j78_ d_h79_ d_z76_ d_e77_ d_h80_ d_w81_ d_h82_ d_h83_ d_z84_ d_h85_ => ⟨(fun d_h86_ d_M88_ _ d_hF92_ d_r87_ d_hs94_ d_h90_ d_hr_ d_hM_ => ?_), (fun d_h86_ d_w95_ d_h96_ d_h97_ d_w98_ d_h99_ d_h100_ d_w101_ d_h102_ d_h103_ d_j106_ d_h107_ d_z104_ d_e105_ d_h108_ d_w109_ d_h110_ d_h111_ d_z112_ d_h113_ => ⟨(fun d_h114_ d_v6_127 d_hv0_127 d_M_127 d_hL_127 _ d_hF_127 d_h116_ d_v6_164 d_hv0_164 d_M_164 d_hL_164 _ d_hF_164 d_h118_ d_hr_ d_hM_ => ?_), (fun d_h114_ d_M156_ _ d_hF160_ d_r155_ d_hs162_ d_h158_ d_hr_ d_hM_ => ?_)⟩)⟩)⟩)⟩)⟩), (fun d_h39_ d_M164_ _ d_hF168_ d_r163_ d_hs170_ d_h166_ d_hr_ d_hM_ => ?_)⟩), (fun d_h30_ d_M172_ _ d_hF176_ d_r171_ d_hs178_ d_h174_ d_hr_ d_hM_ => ?_)⟩)⟩), (fun d_hs11_ d_h10_ d_M181_ _ d_hF185_ d_r180_ d_hs187_ d_h183_ d_hr_ d_hM_ => ?_)⟩), (fun d_hs5_ d_h4_ d_M190_ _ d_hF194_ d_r189_ d_hs196_ d_h192_ d_hr_ d_hM_ => ?_)⟩
    · skip
      exact shE hS c_hF66_ c_hM_ d_hF23_ d_hM_
    · skip
      exact shE hS c_hF66_ c_hM_ d_hF46_ d_hM_
    · skip
      exact shE hS c_hF66_ c_hM_ d_hF55_ d_hM_
    · skip
      exact shE hS c_hF66_ c_hM_ d_hF64_ d_hM_
    · skip
      exact shE hS c_hF66_ c_hM_ d_hF92_ d_hM_
    · skip
      obtain rfl : d_j15_ = v.toInt.toNat := by omega
      obtain rfl : d_j33_ = v.toInt.toNat := by omega
      obtain rfl : d_j78_ = v.toInt.toNat := by omega
      obtain rfl : d_j28_ = t.toInt.toNat := by omega
      obtain rfl : d_j37_ = t.toInt.toNat := by omega
      obtain rfl : d_j106_ = t.toInt.toNat := by omega
      have yde14_ := eT d_e14_
      have yde27_ := eT d_e27_
      have yde32_ := eT d_e32_
      have yde36_ := eT d_e36_
      have yde77_ := eT d_e77_
      have yde105_ := eT d_e105_
      omega
    · skip
      exact shE hS c_hF66_ c_hM_ d_hF160_ d_hM_
    · skip
      exact shE hS c_hF66_ c_hM_ d_hF168_ d_hM_
    · skip
      exact shE hS c_hF66_ c_hM_ d_hF176_ d_hM_
    · skip
      exact shE hS c_hF66_ c_hM_ d_hF185_ d_hM_
    · skip
      exact shE hS c_hF66_ c_hM_ d_hF194_ d_hM_
  ·
    obtain rfl : c_j13_ = v.toInt.toNat := by omega
    obtain rfl : c_j16_ = t.toInt.toNat := by omega
    have sv := sw v.toInt.toNat (by omega)
    have zbv := zb v.toInt.toNat
    have st := sw t.toInt.toNat (by omega)
    have zbt := zb t.toInt.toNat
    have mihs23_ := x6miss c_hs23_
    have mihs37_ := x6miss c_hs37_
    have ruhs48_ := x6runY c_hs48_
    have yce40_ := eT c_e40_
    have yce42_ := eT c_e42_
    refine xE_SP_X12_move h2 ⟨(fun d_hs5_ d_h4_ => ⟨(fun d_hs11_ d_h10_ d_j15_ d_h16_ d_z13_ d_e14_ => ⟨(fun d_h17_ d_M19_ _ d_hF23_ d_r18_ d_hs25_ d_h21_ d_hr_ d_hM_ => ?_), (fun d_h17_ d_j28_ d_h29_ d_z26_ d_e27_ => ⟨(fun d_h30_ d_j33_ d_h34_ d_z31_ d_e32_ d_j37_ d_h38_ d_z35_ d_e36_ => ⟨(fun d_h39_ => ⟨(fun d_h40_ d_M42_ _ d_hF46_ d_r41_ d_hs48_ d_h44_ d_hr_ d_hM_ => ?_), (fun d_h40_ => ⟨(fun d_h49_ d_M51_ _ d_hF55_ d_r50_ d_hs57_ d_h53_ d_hr_ d_hM_ => ?_), (fun d_h49_ => ⟨(fun d_h58_ d_M60_ _ d_hF64_ d_r59_ d_hs66_ d_h62_ d_hr_ d_hM_ => ?_), (fun d_h58_ d_w67_ d_h68_ d_h69_ d_w70_ d_h71_ d_h72_ d_w73_ d_h74_ d_h75_ d_j78_ d_h79_ d_z76_ d_e77_ d_h80_ d_w81_ d_h82_ d_h83_ d_z84_ d_h85_ => ⟨(fun d_h86_ d_M88_ _ d_hF92_ d_r87_ d_hs94_ d_h90_ d_hr_ d_hM_ => ?_), (fun d_h86_ d_w95_ d_h96_ d_h97_ d_w98_ d_h99_ d_h100_ d_w101_ d_h102_ d_h103_ d_j106_ d_h107_ d_z104_ d_e105_ d_h108_ d_w109_ d_h110_ d_h111_ d_z112_ d_h113_ => ⟨(fun d_h114_ d_v6_127 d_hv0_127 d_M_127 d_hL_127 _ d_hF_127 d_h116_ d_v6_164 d_hv0_164 d_M_164 d_hL_164 _ d_hF_164 d_h118_ d_hr_ d_hM_ => ?_), (fun d_h114_ d_M156_ _ d_hF160_ d_r155_ d_hs162_ d_h158_ d_hr_ d_hM_ => ?_)⟩)⟩)⟩)⟩)⟩), (fun d_h39_ d_M164_ _ d_hF168_ d_r163_ d_hs170_ d_h166_ d_hr_ d_hM_ => ?_)⟩), (fun d_h30_ d_M172_ _ d_hF176_ d_r171_ d_hs178_ d_h174_ d_hr_ d_hM_ => ?_)⟩)⟩), (fun d_hs11_ d_h10_ d_M181_ _ d_hF185_ d_r180_ d_hs187_ d_h183_ d_hr_ d_hM_ => ?_)⟩), (fun d_hs5_ d_h4_ d_M190_ _ d_hF194_ d_r189_ d_hs196_ d_h192_ d_hr_ d_hM_ => ?_)⟩
    · skip
      exact shE hS c_hF75_ c_hM_ d_hF23_ d_hM_
    · skip
      exact shE hS c_hF75_ c_hM_ d_hF46_ d_hM_
    · skip
      exact shE hS c_hF75_ c_hM_ d_hF55_ d_hM_
    · skip
      exact shE hS c_hF75_ c_hM_ d_hF64_ d_hM_
    · skip
      exact shE hS c_hF75_ c_hM_ d_hF92_ d_hM_
    · skip
      obtain rfl : d_j15_ = v.toInt.toNat := by omega
      obtain rfl : d_j33_ = v.toInt.toNat := by omega
      obtain rfl : d_j78_ = v.toInt.toNat := by omega
      obtain rfl : d_j28_ = t.toInt.toNat := by omega
      obtain rfl : d_j37_ = t.toInt.toNat := by omega
      obtain rfl : d_j106_ = t.toInt.toNat := by omega
      have yde14_ := eT d_e14_
      have yde27_ := eT d_e27_
      have yde32_ := eT d_e32_
      have yde36_ := eT d_e36_
      have yde77_ := eT d_e77_
      have yde105_ := eT d_e105_
      omega
    · skip
      exact shE hS c_hF75_ c_hM_ d_hF160_ d_hM_
    · skip
      exact shE hS c_hF75_ c_hM_ d_hF168_ d_hM_
    · skip
      exact shE hS c_hF75_ c_hM_ d_hF176_ d_hM_
    · skip
      exact shE hS c_hF75_ c_hM_ d_hF185_ d_hM_
    · skip
      exact shE hS c_hF75_ c_hM_ d_hF194_ d_hM_
  ·
    obtain rfl : c_j13_ = v.toInt.toNat := by omega
    obtain rfl : c_j16_ = t.toInt.toNat := by omega
    have sv := sw v.toInt.toNat (by omega)
    have zbv := zb v.toInt.toNat
    have st := sw t.toInt.toNat (by omega)
    have zbt := zb t.toInt.toNat
    have mihs23_ := x6miss c_hs23_
    have mihs37_ := x6miss c_hs37_
    have yce40_ := eT c_e40_
    have yce42_ := eT c_e42_
    refine xE_SP_X12_move h2 ⟨(fun d_hs5_ d_h4_ => ⟨(fun d_hs11_ d_h10_ d_j15_ d_h16_ d_z13_ d_e14_ => ⟨(fun d_h17_ d_M19_ _ d_hF23_ d_r18_ d_hs25_ d_h21_ d_hr_ d_hM_ => ?_), (fun d_h17_ d_j28_ d_h29_ d_z26_ d_e27_ => ⟨(fun d_h30_ d_j33_ d_h34_ d_z31_ d_e32_ d_j37_ d_h38_ d_z35_ d_e36_ => ⟨(fun d_h39_ => ⟨(fun d_h40_ d_M42_ _ d_hF46_ d_r41_ d_hs48_ d_h44_ d_hr_ d_hM_ => ?_), (fun d_h40_ => ⟨(fun d_h49_ d_M51_ _ d_hF55_ d_r50_ d_hs57_ d_h53_ d_hr_ d_hM_ => ?_), (fun d_h49_ => ⟨(fun d_h58_ d_M60_ _ d_hF64_ d_r59_ d_hs66_ d_h62_ d_hr_ d_hM_ => ?_), (fun d_h58_ d_w67_ d_h68_ d_h69_ d_w70_ d_h71_ d_h72_ d_w73_ d_h74_ d_h75_ d_j78_ d_h79_ d_z76_ d_e77_ d_h80_ d_w81_ d_h82_ d_h83_ d_z84_ d_h85_ => ⟨(fun d_h86_ d_M88_ _ d_hF92_ d_r87_ d_hs94_ d_h90_ d_hr_ d_hM_ => ?_), (fun d_h86_ d_w95_ d_h96_ d_h97_ d_w98_ d_h99_ d_h100_ d_w101_ d_h102_ d_h103_ d_j106_ d_h107_ d_z104_ d_e105_ d_h108_ d_w109_ d_h110_ d_h111_ d_z112_ d_h113_ => ⟨(fun d_h114_ d_v6_127 d_hv0_127 d_M_127 d_hL_127 _ d_hF_127 d_h116_ d_v6_164 d_hv0_164 d_M_164 d_hL_164 _ d_hF_164 d_h118_ d_hr_ d_hM_ => ?_), (fun d_h114_ d_M156_ _ d_hF160_ d_r155_ d_hs162_ d_h158_ d_hr_ d_hM_ => ?_)⟩)⟩)⟩)⟩)⟩), (fun d_h39_ d_M164_ _ d_hF168_ d_r163_ d_hs170_ d_h166_ d_hr_ d_hM_ => ?_)⟩), (fun d_h30_ d_M172_ _ d_hF176_ d_r171_ d_hs178_ d_h174_ d_hr_ d_hM_ => ?_)⟩)⟩), (fun d_hs11_ d_h10_ d_M181_ _ d_hF185_ d_r180_ d_hs187_ d_h183_ d_hr_ d_hM_ => ?_)⟩), (fun d_hs5_ d_h4_ d_M190_ _ d_hF194_ d_r189_ d_hs196_ d_h192_ d_hr_ d_hM_ => ?_)⟩
    · skip
      exact shE hS c_hF83_ c_hM_ d_hF23_ d_hM_
    · skip
      exact shE hS c_hF83_ c_hM_ d_hF46_ d_hM_
    · skip
      exact shE hS c_hF83_ c_hM_ d_hF55_ d_hM_
    · skip
      exact shE hS c_hF83_ c_hM_ d_hF64_ d_hM_
    · skip
      exact shE hS c_hF83_ c_hM_ d_hF92_ d_hM_
    · skip
      obtain rfl : d_j15_ = v.toInt.toNat := by omega
      obtain rfl : d_j33_ = v.toInt.toNat := by omega
      obtain rfl : d_j78_ = v.toInt.toNat := by omega
      obtain rfl : d_j28_ = t.toInt.toNat := by omega
      obtain rfl : d_j37_ = t.toInt.toNat := by omega
      obtain rfl : d_j106_ = t.toInt.toNat := by omega
      have yde14_ := eT d_e14_
      have yde27_ := eT d_e27_
      have yde32_ := eT d_e32_
      have yde36_ := eT d_e36_
      have yde77_ := eT d_e77_
      have yde105_ := eT d_e105_
      omega
    · skip
      exact shE hS c_hF83_ c_hM_ d_hF160_ d_hM_
    · skip
      exact shE hS c_hF83_ c_hM_ d_hF168_ d_hM_
    · skip
      exact shE hS c_hF83_ c_hM_ d_hF176_ d_hM_
    · skip
      exact shE hS c_hF83_ c_hM_ d_hF185_ d_hM_
    · skip
      exact shE hS c_hF83_ c_hM_ d_hF194_ d_hM_
  ·
    obtain rfl : c_j13_ = v.toInt.toNat := by omega
    obtain rfl : c_j16_ = t.toInt.toNat := by omega
    have sv := sw v.toInt.toNat (by omega)
    have zbv := zb v.toInt.toNat
    have st := sw t.toInt.toNat (by omega)
    have zbt := zb t.toInt.toNat
    have mihs23_ := x6miss c_hs23_
    have mihs37_ := x6miss c_hs37_
    refine xE_SP_X12_move h2 ⟨(fun d_hs5_ d_h4_ => ⟨(fun d_hs11_ d_h10_ d_j15_ d_h16_ d_z13_ d_e14_ => ⟨(fun d_h17_ d_M19_ _ d_hF23_ d_r18_ d_hs25_ d_h21_ d_hr_ d_hM_ => ?_), (fun d_h17_ d_j28_ d_h29_ d_z26_ d_e27_ => ⟨(fun d_h30_ d_j33_ d_h34_ d_z31_ d_e32_ d_j37_ d_h38_ d_z35_ d_e36_ => ⟨(fun d_h39_ => ⟨(fun d_h40_ d_M42_ _ d_hF46_ d_r41_ d_hs48_ d_h44_ d_hr_ d_hM_ => ?_), (fun d_h40_ => ⟨(fun d_h49_ d_M51_ _ d_hF55_ d_r50_ d_hs57_ d_h53_ d_hr_ d_hM_ => ?_), (fun d_h49_ => ⟨(fun d_h58_ d_M60_ _ d_hF64_ d_r59_ d_hs66_ d_h62_ d_hr_ d_hM_ => ?_), (fun d_h58_ d_w67_ d_h68_ d_h69_ d_w70_ d_h71_ d_h72_ d_w73_ d_h74_ d_h75_ d_j78_ d_h79_ d_z76_ d_e77_ d_h80_ d_w81_ d_h82_ d_h83_ d_z84_ d_h85_ => ⟨(fun d_h86_ d_M88_ _ d_hF92_ d_r87_ d_hs94_ d_h90_ d_hr_ d_hM_ => ?_), (fun d_h86_ d_w95_ d_h96_ d_h97_ d_w98_ d_h99_ d_h100_ d_w101_ d_h102_ d_h103_ d_j106_ d_h107_ d_z104_ d_e105_ d_h108_ d_w109_ d_h110_ d_h111_ d_z112_ d_h113_ => ⟨(fun d_h114_ d_v6_127 d_hv0_127 d_M_127 d_hL_127 _ d_hF_127 d_h116_ d_v6_164 d_hv0_164 d_M_164 d_hL_164 _ d_hF_164 d_h118_ d_hr_ d_hM_ => ?_), (fun d_h114_ d_M156_ _ d_hF160_ d_r155_ d_hs162_ d_h158_ d_hr_ d_hM_ => ?_)⟩)⟩)⟩)⟩)⟩), (fun d_h39_ d_M164_ _ d_hF168_ d_r163_ d_hs170_ d_h166_ d_hr_ d_hM_ => ?_)⟩), (fun d_h30_ d_M172_ _ d_hF176_ d_r171_ d_hs178_ d_h174_ d_hr_ d_hM_ => ?_)⟩)⟩), (fun d_hs11_ d_h10_ d_M181_ _ d_hF185_ d_r180_ d_hs187_ d_h183_ d_hr_ d_hM_ => ?_)⟩), (fun d_hs5_ d_h4_ d_M190_ _ d_hF194_ d_r189_ d_hs196_ d_h192_ d_hr_ d_hM_ => ?_)⟩
    · skip
      exact shE hS c_hF91_ c_hM_ d_hF23_ d_hM_
    · skip
      exact shE hS c_hF91_ c_hM_ d_hF46_ d_hM_
    · skip
      exact shE hS c_hF91_ c_hM_ d_hF55_ d_hM_
    · skip
      exact shE hS c_hF91_ c_hM_ d_hF64_ d_hM_
    · skip
      exact shE hS c_hF91_ c_hM_ d_hF92_ d_hM_
    · skip
      obtain rfl : d_j15_ = v.toInt.toNat := by omega
      obtain rfl : d_j33_ = v.toInt.toNat := by omega
      obtain rfl : d_j78_ = v.toInt.toNat := by omega
      obtain rfl : d_j28_ = t.toInt.toNat := by omega
      obtain rfl : d_j37_ = t.toInt.toNat := by omega
      obtain rfl : d_j106_ = t.toInt.toNat := by omega
      have yde14_ := eT d_e14_
      have yde27_ := eT d_e27_
      have yde32_ := eT d_e32_
      have yde36_ := eT d_e36_
      have yde77_ := eT d_e77_
      have yde105_ := eT d_e105_
      omega
    · skip
      exact shE hS c_hF91_ c_hM_ d_hF160_ d_hM_
    · skip
      exact shE hS c_hF91_ c_hM_ d_hF168_ d_hM_
    · skip
      exact shE hS c_hF91_ c_hM_ d_hF176_ d_hM_
    · skip
      exact shE hS c_hF91_ c_hM_ d_hF185_ d_hM_
    · skip
      exact shE hS c_hF91_ c_hM_ d_hF194_ d_hM_
  ·
    refine xE_SP_X12_move h2 ⟨(fun d_hs5_ d_h4_ => ⟨(fun d_hs11_ d_h10_ d_j15_ d_h16_ d_z13_ d_e14_ => ⟨(fun d_h17_ d_M19_ _ d_hF23_ d_r18_ d_hs25_ d_h21_ d_hr_ d_hM_ => ?_), (fun d_h17_ d_j28_ d_h29_ d_z26_ d_e27_ => ⟨(fun d_h30_ d_j33_ d_h34_ d_z31_ d_e32_ d_j37_ d_h38_ d_z35_ d_e36_ => ⟨(fun d_h39_ => ⟨(fun d_h40_ d_M42_ _ d_hF46_ d_r41_ d_hs48_ d_h44_ d_hr_ d_hM_ => ?_), (fun d_h40_ => ⟨(fun d_h49_ d_M51_ _ d_hF55_ d_r50_ d_hs57_ d_h53_ d_hr_ d_hM_ => ?_), (fun d_h49_ => ⟨(fun d_h58_ d_M60_ _ d_hF64_ d_r59_ d_hs66_ d_h62_ d_hr_ d_hM_ => ?_), (fun d_h58_ d_w67_ d_h68_ d_h69_ d_w70_ d_h71_ d_h72_ d_w73_ d_h74_ d_h75_ d_j78_ d_h79_ d_z76_ d_e77_ d_h80_ d_w81_ d_h82_ d_h83_ d_z84_ d_h85_ => ⟨(fun d_h86_ d_M88_ _ d_hF92_ d_r87_ d_hs94_ d_h90_ d_hr_ d_hM_ => ?_), (fun d_h86_ d_w95_ d_h96_ d_h97_ d_w98_ d_h99_ d_h100_ d_w101_ d_h102_ d_h103_ d_j106_ d_h107_ d_z104_ d_e105_ d_h108_ d_w109_ d_h110_ d_h111_ d_z112_ d_h113_ => ⟨(fun d_h114_ d_v6_127 d_hv0_127 d_M_127 d_hL_127 _ d_hF_127 d_h116_ d_v6_164 d_hv0_164 d_M_164 d_hL_164 _ d_hF_164 d_h118_ d_hr_ d_hM_ => ?_), (fun d_h114_ d_M156_ _ d_hF160_ d_r155_ d_hs162_ d_h158_ d_hr_ d_hM_ => ?_)⟩)⟩)⟩)⟩)⟩), (fun d_h39_ d_M164_ _ d_hF168_ d_r163_ d_hs170_ d_h166_ d_hr_ d_hM_ => ?_)⟩), (fun d_h30_ d_M172_ _ d_hF176_ d_r171_ d_hs178_ d_h174_ d_hr_ d_hM_ => ?_)⟩)⟩), (fun d_hs11_ d_h10_ d_M181_ _ d_hF185_ d_r180_ d_hs187_ d_h183_ d_hr_ d_hM_ => ?_)⟩), (fun d_hs5_ d_h4_ d_M190_ _ d_hF194_ d_r189_ d_hs196_ d_h192_ d_hr_ d_hM_ => ?_)⟩
    · skip
      exact shE hS c_hF100_ c_hM_ d_hF23_ d_hM_
    · skip
      exact shE hS c_hF100_ c_hM_ d_hF46_ d_hM_
    · skip
      exact shE hS c_hF100_ c_hM_ d_hF55_ d_hM_
    · skip
      exact shE hS c_hF100_ c_hM_ d_hF64_ d_hM_
    · skip
      exact shE hS c_hF100_ c_hM_ d_hF92_ d_hM_
    · skip
      obtain rfl : d_j15_ = v.toInt.toNat := by omega
      obtain rfl : d_j33_ = v.toInt.toNat := by omega
      obtain rfl : d_j78_ = v.toInt.toNat := by omega
      obtain rfl : d_j28_ = t.toInt.toNat := by omega
      obtain rfl : d_j37_ = t.toInt.toNat := by omega
      obtain rfl : d_j106_ = t.toInt.toNat := by omega
      have yde14_ := eT d_e14_
      have yde27_ := eT d_e27_
      have yde32_ := eT d_e32_
      have yde36_ := eT d_e36_
      have yde77_ := eT d_e77_
      have yde105_ := eT d_e105_
      omega
    · skip
      exact shE hS c_hF100_ c_hM_ d_hF160_ d_hM_
    · skip
      exact shE hS c_hF100_ c_hM_ d_hF168_ d_hM_
    · skip
      exact shE hS c_hF100_ c_hM_ d_hF176_ d_hM_
    · skip
      exact shE hS c_hF100_ c_hM_ d_hF185_ d_hM_
    · skip
      exact shE hS c_hF100_ c_hM_ d_hF194_ d_hM_
  ·
    refine xE_SP_X12_move h2 ⟨(fun d_hs5_ d_h4_ => ⟨(fun d_hs11_ d_h10_ d_j15_ d_h16_ d_z13_ d_e14_ => ⟨(fun d_h17_ d_M19_ _ d_hF23_ d_r18_ d_hs25_ d_h21_ d_hr_ d_hM_ => ?_), (fun d_h17_ d_j28_ d_h29_ d_z26_ d_e27_ => ⟨(fun d_h30_ d_j33_ d_h34_ d_z31_ d_e32_ d_j37_ d_h38_ d_z35_ d_e36_ => ⟨(fun d_h39_ => ⟨(fun d_h40_ d_M42_ _ d_hF46_ d_r41_ d_hs48_ d_h44_ d_hr_ d_hM_ => ?_), (fun d_h40_ => ⟨(fun d_h49_ d_M51_ _ d_hF55_ d_r50_ d_hs57_ d_h53_ d_hr_ d_hM_ => ?_), (fun d_h49_ => ⟨(fun d_h58_ d_M60_ _ d_hF64_ d_r59_ d_hs66_ d_h62_ d_hr_ d_hM_ => ?_), (fun d_h58_ d_w67_ d_h68_ d_h69_ d_w70_ d_h71_ d_h72_ d_w73_ d_h74_ d_h75_ d_j78_ d_h79_ d_z76_ d_e77_ d_h80_ d_w81_ d_h82_ d_h83_ d_z84_ d_h85_ => ⟨(fun d_h86_ d_M88_ _ d_hF92_ d_r87_ d_hs94_ d_h90_ d_hr_ d_hM_ => ?_), (fun d_h86_ d_w95_ d_h96_ d_h97_ d_w98_ d_h99_ d_h100_ d_w101_ d_h102_ d_h103_ d_j106_ d_h107_ d_z104_ d_e105_ d_h108_ d_w109_ d_h110_ d_h111_ d_z112_ d_h113_ => ⟨(fun d_h114_ d_v6_127 d_hv0_127 d_M_127 d_hL_127 _ d_hF_127 d_h116_ d_v6_164 d_hv0_164 d_M_164 d_hL_164 _ d_hF_164 d_h118_ d_hr_ d_hM_ => ?_), (fun d_h114_ d_M156_ _ d_hF160_ d_r155_ d_hs162_ d_h158_ d_hr_ d_hM_ => ?_)⟩)⟩)⟩)⟩)⟩), (fun d_h39_ d_M164_ _ d_hF168_ d_r163_ d_hs170_ d_h166_ d_hr_ d_hM_ => ?_)⟩), (fun d_h30_ d_M172_ _ d_hF176_ d_r171_ d_hs178_ d_h174_ d_hr_ d_hM_ => ?_)⟩)⟩), (fun d_hs11_ d_h10_ d_M181_ _ d_hF185_ d_r180_ d_hs187_ d_h183_ d_hr_ d_hM_ => ?_)⟩), (fun d_hs5_ d_h4_ d_M190_ _ d_hF194_ d_r189_ d_hs196_ d_h192_ d_hr_ d_hM_ => ?_)⟩
    · skip
      exact shE hS c_hF109_ c_hM_ d_hF23_ d_hM_
    · skip
      exact shE hS c_hF109_ c_hM_ d_hF46_ d_hM_
    · skip
      exact shE hS c_hF109_ c_hM_ d_hF55_ d_hM_
    · skip
      exact shE hS c_hF109_ c_hM_ d_hF64_ d_hM_
    · skip
      exact shE hS c_hF109_ c_hM_ d_hF92_ d_hM_
    · skip
      obtain rfl : d_j15_ = v.toInt.toNat := by omega
      obtain rfl : d_j33_ = v.toInt.toNat := by omega
      obtain rfl : d_j78_ = v.toInt.toNat := by omega
      obtain rfl : d_j28_ = t.toInt.toNat := by omega
      obtain rfl : d_j37_ = t.toInt.toNat := by omega
      obtain rfl : d_j106_ = t.toInt.toNat := by omega
      have yde14_ := eT d_e14_
      have yde27_ := eT d_e27_
      have yde32_ := eT d_e32_
      have yde36_ := eT d_e36_
      have yde77_ := eT d_e77_
      have yde105_ := eT d_e105_
      omega
    · skip
      exact shE hS c_hF109_ c_hM_ d_hF160_ d_hM_
    · skip
      exact shE hS c_hF109_ c_hM_ d_hF168_ d_hM_
    · skip
      exact shE hS c_hF109_ c_hM_ d_hF176_ d_hM_
    · skip
      exact shE hS c_hF109_ c_hM_ d_hF185_ d_hM_
    · skip
      exact shE hS c_hF109_ c_hM_ d_hF194_ d_hM_
end
section
/-! a world takes all from another one -/
theorem RW_row {b : Nat} {q : rf → Nat → Int32} {n n2 : Nat → Int32} (h : RW b q n) (hN : NW5 n) (hn : ∀ j, j < 3567 → n2 j = n j) : RW b q n2 := by
  obtain ⟨⟨hL, hT, hW, hX, hO, hM⟩, hE, hA, hY⟩ := h
  have th := nTh_b hN
  have nw := nWa_b hN
  have nb := n345_b hN
  exact ⟨⟨LWR_keep hL (fun _ _ _ => rfl) (fun j hj => hn j (by omega)), THR_keep hT th.2 (fun _ _ _ => rfl) (fun j hj => hn j (by omega)), WAR_keep hW nw.2 (fun _ _ _ _ => rfl) rfl (fun j hj => hn j (by omega)),
    TXR_keep hX (TXz hN) (fun _ _ _ _ _ => rfl) (fun j h1 h2 => hn j (by omega)), OCC_keep hO th.2 nw.2 (fun _ => rfl) (fun j hj => hn j (by omega)) (fun j hj => hn j (by omega)), MIR_keep hM th.2 nw.2 (fun j hj => hn j (by omega)) (fun w h1 h2 => ⟨fun k hk => hn _ (by omega), fun c hc => hn _ (by omega)⟩)⟩,
    LER_keep hE nb.1.2 (fun _ _ _ => rfl) (fun j hj => hn j (by omega)), TAR_keep hA nb.2.1.2 (fun _ => rfl) (fun j hj => hn j (by omega)), WTR_keep hY nb.2.2.2 (fun _ => rfl) (fun j hj => hn j (by omega))⟩
theorem x7take {b b2 : Nat} {M M1 : mM} (h : SP_X7_takeFrom b b2 M M1) : M1.1 (7, b, 0) 5 = M.1 (7, b2, 0) 5 ∧ (∀ k, k < 192 → M1.1 (35, b, 0) k = M.1 (35, b2, 0) k) ∧ ∀ k, k < 40 → M1.1 (36, b, 0) k = M.1 (36, b2, 0) k ∧ M1.1 (37, b, 0) k = M.1 (37, b2, 0) k ∧ M1.1 (38, b, 0) k = M.1 (38, b2, 0) k ∧ M1.1 (39, b, 0) k = M.1 (39, b2, 0) k := by
  have n192 : (192 : Int32).toNatClampNeg = 192 := rfl
  have n40 : (40 : Int32).toNatClampNeg = 40 := rfl
  refine xE_SP_X7_takeFrom h (fun M1_ hM2_ M5_ hM6_ M9_ hM10_ M13_ hM14_ M17_ hM18_ z21_ e22_ M23_ hM24_ hM_ => ?_)
  rw [hM_]
  refine ⟨?_, fun k hk => ?_, fun k hk => ⟨?_, ?_, ?_, ?_⟩⟩
  · rw [zupE hM24_ rfl rfl, e22_, zcpR hM18_ (by simp), zcpR hM14_ (by simp), zcpR hM10_ (by simp), zcpR hM6_ (by simp), zcpR hM2_ (by simp)]
  · rw [zupR hM24_ (by simp), zcpR hM18_ (by simp), zcpR hM14_ (by simp), zcpR hM10_ (by simp), zcpR hM6_ (by simp), cp_at hM2_ (by omega)]
  · rw [zupR hM24_ (by simp), zcpR hM18_ (by simp), zcpR hM14_ (by simp), zcpR hM10_ (by simp), cp_at hM6_ (by omega), zcpR hM2_ (by simp)]
  · rw [zupR hM24_ (by simp), zcpR hM18_ (by simp), zcpR hM14_ (by simp), cp_at hM10_ (by omega), zcpR hM6_ (by simp), zcpR hM2_ (by simp)]
  · rw [zupR hM24_ (by simp), zcpR hM18_ (by simp), cp_at hM14_ (by omega), zcpR hM10_ (by simp), zcpR hM6_ (by simp), zcpR hM2_ (by simp)]
  · rw [zupR hM24_ (by simp), cp_at hM18_ (by omega), zcpR hM14_ (by simp), zcpR hM10_ (by simp), zcpR hM6_ (by simp), zcpR hM2_ (by simp)]
theorem x1take {b w b2 w2 : Nat} {M M1 : mM} (h : SP_X1_takeFrom b w b2 w2 M M1) : M1.1 (1, b, w) 2 = M.1 (1, b2, w2) 2 ∧ ∀ k, k < 48 → M1.1 (24, b, w) k = M.1 (24, b2, w2) k := by
  have n48 : (48 : Int32).toNatClampNeg = 48 := rfl
  refine xE_SP_X1_takeFrom h (fun z1_ e2_ M3_ hM4_ M7_ hM8_ hM_ => ?_)
  rw [hM_]
  refine ⟨?_, fun k hk => ?_⟩
  · rw [zcpR hM8_ (by simp), zupE hM4_ rfl rfl, e2_]
  · rw [cp_at hM8_ (by omega), zupR hM4_ (by simp)]
theorem x2takeT {b b2 : Nat} {M M1 : mM} (h : SP_X2_takeFrom b b2 M M1) (hb : ¬ b = b2) : ∀ u, u < 3 → M1.1 (1, b, u) 2 = M.1 (1, b2, u) 2 ∧ ∀ k, k < 48 → M1.1 (24, b, u) k = M.1 (24, b2, u) k := by
  refine xE_SP_X2_takeFrom h (fun z1_ e2_ M3_ hM4_ z7_ e8_ M9_ hM10_ z13_ e14_ M15_ hM16_ M19_ hM20_ M23_ hM24_ v2_54 hv0_54 hv1_54 M_54 hL_54 _ hF_54 h28_ hM_ => ?_)
  have pre : ∀ (c : rf) (k : Nat), c.1 = 1 ∨ c.1 = 24 → M23_.1 c k = M.1 c k := fun c k hc => by
    rw [zcpR hM24_ (by dsimp only; omega), zcpR hM20_ (by dsimp only; omega), zupR hM16_ (by dsimp only; omega), zupR hM10_ (by dsimp only; omega), zupR hM4_ (by dsimp only; omega)]
  have g := rind hL_54 (fun z => 0 ≤ z.1.toInt ∧ (∀ (c : rf) (k : Nat), c.2.1 = b2 → z.2.1 c k = M23_.1 c k) ∧ ∀ u : Nat, (u : Int) < z.1.toInt → z.2.1 (1, b, u) 2 = M.1 (1, b2, u) 2 ∧ ∀ k, k < 48 → z.2.1 (24, b, u) k = M.1 (24, b2, u) k) ⟨by dsimp only; have := il_0; omega, fun _ _ _ => rfl, fun u hu => by dsimp only at hu; have := il_0; omega⟩ (fun x z p st => by
    (try dsimp only at p st ⊢)
    obtain ⟨p1, p2, p3⟩ := p
    refine xE_ST_X2_takeFrom_54 st (fun k_hv0_54 k_hv1_54 _ k_hF_54 k_h28_ k_j29_ k_h30_ k_h31_ k_h32_ k_j33_ k_h34_ k_h35_ k_h36_ k_M37_ _ k_hF41_ k_hs43_ k_z44_ k_h45_ k_hq_v2_54y k_hM_ => ?_)
    have e := eT k_hq_v2_54y
    have tk := x1take k_hs43_
    have fr := k_hF41_
    rw [k_hM_]
    refine ⟨by omega, fun c k hc => ?_, fun u hu => ?_⟩
    · rw [fr c k (fun q => by simp only [S_c_X1_takeFrom, or_false] at q; omega)]; exact p2 c k hc
    · by_cases e2 : (u : Int) = x.1.toInt
      · obtain rfl : u = k_j29_ := by omega
        obtain rfl : k_j33_ = u := by omega
        refine ⟨by rw [tk.1, p2 _ _ rfl]; exact pre _ _ (by simp), fun k hk => by rw [tk.2 k hk, p2 _ _ rfl]; exact pre _ _ (by simp)⟩
      · have g := p3 u (by omega)
        refine ⟨by rw [fr _ _ (fun q => by simp only [S_c_X1_takeFrom, or_false] at q; omega)]; exact g.1, fun k hk => by rw [fr _ _ (fun q => by simp only [S_c_X1_takeFrom, or_false] at q; omega)]; exact g.2 k hk⟩)
  (try dsimp only at g)
  obtain ⟨g1, g2, g3⟩ := g
  rw [hM_]
  exact fun u hu => g3 u (by omega)
theorem x3takeT {b b2 : Nat} {M M1 : mM} (h : SP_X3_takeFrom b b2 M M1) : ∀ k, k < 7 → M1.1 (30, b, 0) k = M.1 (30, b2, 0) k ∧ M1.1 (31, b, 0) k = M.1 (31, b2, 0) k ∧ M1.1 (32, b, 0) k = M.1 (32, b2, 0) k := by
  have n7 : (7 : Int32).toNatClampNeg = 7 := rfl
  refine xE_SP_X3_takeFrom h (fun M1_ hM2_ M5_ hM6_ M9_ hM10_ z13_ e14_ M15_ hM16_ hM_ => ?_)
  rw [hM_]
  intro k hk
  refine ⟨?_, ?_, ?_⟩
  · rw [zupR hM16_ (by simp), zcpR hM10_ (by simp), zcpR hM6_ (by simp), cp_at hM2_ (by omega)]
  · rw [zupR hM16_ (by simp), zcpR hM10_ (by simp), cp_at hM6_ (by omega), zcpR hM2_ (by simp)]
  · rw [zupR hM16_ (by simp), cp_at hM10_ (by omega), zcpR hM6_ (by simp), zcpR hM2_ (by simp)]
theorem x5takeT {b b2 w : Nat} {M M1 : mM} (h : SP_X5_takeFrom b w b2 w M M1) (hb : ¬ b = b2) (hs : (M.1 (5, b2, w) 1).toInt ≤ ((rl w : Nat) : Int)) : ∀ i : Nat, (i : Int) < (M.1 (5, b2, w) 1).toInt → M1.1 (33, b, w) i = M.1 (33, b2, w) i := by
  have q0 := il_0
  refine xE_SP_X5_takeFrom h (fun z1_ e2_ z3_ h4_ z5_ h6_ M7_ hM8_ v2_18 hv0_18 M_18 hL_18 _ hF_18 z13_ e14_ h15_ h16_ hM_ => ?_)
  have y := eT e2_
  have c7 : ∀ (c : rf) (k : Nat), ¬ c = (5, b, w) → M7_.1 c k = M.1 c k := fun c k hc => zupN hM8_ (fun z => hc z.1)
  have nb : ∀ r : Nat, ¬ ((r, b2, w) : rf) = (r, b, w) := fun r z => hb (congrArg (fun c : rf => c.2.1) z).symm
  have g := rind hL_18 (fun z => 0 ≤ z.1.toInt ∧ (∀ (c : rf) (k : Nat), ¬ c = (33, b, w) → z.2.1 c k = M7_.1 c k) ∧ ∀ i : Nat, (i : Int) < z.1.toInt → z.2.1 (33, b, w) i = M.1 (33, b2, w) i) ⟨by dsimp only; omega, fun _ _ _ => rfl, fun i hi => by dsimp only at hi; omega⟩ (fun x z p st => by
    (try dsimp only at p st ⊢)
    obtain ⟨p1, p2, p3⟩ := p
    refine xE_ST_X5_takeFrom_18 st (fun k_hv0_18 _ k_hF_18 k_z13_ k_e14_ k_h15_ k_h16_ k_r17_ k_hs21_ k_j24_ k_h25_ k_M22_ k_hM23_ k_z29_ k_h30_ k_hq_v2_18y k_hM_ => ?_)
    have e := eT k_hq_v2_18y
    have y2 := eT k_e14_
    rw [p2 _ _ (cne (by omega)), zupE hM8_ rfl rfl] at y2
    have gt : k_r17_ = x.2.1 (33, b2, w) x.1.toInt.toNat := by
      refine xE_SP_X5_get k_hs21_ ⟨(fun m_h1_ m_hr_ => ?_), (fun m_h1_ m_z2_ m_e3_ => ⟨(fun m_h4_ m_hr_ => ?_), (fun m_h4_ m_z5_ m_h6_ => ⟨(fun m_h7_ m_hr_ => ?_), (fun m_h7_ m_j10_ m_h11_ m_z8_ m_e9_ m_hr_ => ?_)⟩)⟩)⟩
      · omega
      · have := eT m_e3_
        rw [p2 _ _ (cne (by omega)), c7 _ _ (nb 5)] at this
        omega
      · omega
      · rw [m_hr_, m_e9_, show m_j10_ = x.1.toInt.toNat by omega]
    rw [k_hM_]
    refine ⟨by omega, fun c k hc => ?_, fun i hi => ?_⟩
    · rw [zupN k_hM23_ (fun z => hc z.1)]; exact p2 c k hc
    · by_cases e2 : (i : Int) = x.1.toInt
      · rw [zupE k_hM23_ rfl (by omega), gt, p2 _ _ (nb 33), c7 _ _ (cne (by omega)), show x.1.toInt.toNat = i by omega]
      · rw [zupN k_hM23_ (fun z => by have := z.2; omega)]; exact p3 i (by omega))
  (try dsimp only at g)
  obtain ⟨g1, g2, g3⟩ := g
  have y3 := eT e14_
  rw [g2 _ _ (cne (by omega)), zupE hM8_ rfl rfl] at y3
  rw [hM_]
  exact fun i hi => g3 i (by omega)
theorem x9take {b b2 w : Nat} {M M1 : mM} (h : SP_X9_takeFrom b w b2 w M M1) (hb : ¬ b = b2) : (∀ k, k < 9 → M1.1 (9, b, w) k = M.1 (9, b2, w) k) ∧ ∀ k, k < 192 → M1.1 (40, b, w) k = M.1 (40, b2, w) k ∧ M1.1 (41, b, w) k = M.1 (41, b2, w) k := by
  have n192 : (192 : Int32).toNatClampNeg = 192 := rfl
  have nb : ∀ (r k j : Nat), ¬ (((r, b2, w) : rf) = (r, b, w) ∧ k = j) := fun r k j z => hb (congrArg (fun c : rf => c.2.1) z.1).symm
  refine xE_SP_X9_takeFrom h (fun z1_ e2_ M3_ hM4_ z7_ e8_ M9_ hM10_ z13_ e14_ M15_ hM16_ z19_ e20_ M21_ hM22_ z25_ e26_ M27_ hM28_ z31_ e32_ M33_ hM34_ z37_ e38_ h39_ M40_ hM41_ z44_ e45_ M46_ hM47_ z50_ e51_ M52_ hM53_ M56_ hM57_ M60_ hM61_ hM_ => ?_)
  rw [hM_]
  refine ⟨fun k hk => ?_, fun k hk => ⟨?_, ?_⟩⟩
  · rw [zcpR hM61_ (by simp), zcpR hM57_ (by simp)]
    rcases (show k = 0 ∨ k = 1 ∨ k = 2 ∨ k = 3 ∨ k = 4 ∨ k = 5 ∨ k = 6 ∨ k = 7 ∨ k = 8 by omega) with rfl | rfl | rfl | rfl | rfl | rfl | rfl | rfl | rfl
    · rw [zupN hM53_ (kne (by omega)), zupN hM47_ (kne (by omega)), zupN hM41_ (kne (by omega)), zupN hM34_ (kne (by omega)), zupN hM28_ (kne (by omega)), zupN hM22_ (kne (by omega)), zupN hM16_ (kne (by omega)), zupN hM10_ (kne (by omega)), zupE hM4_ rfl rfl, e2_]
    · rw [zupN hM53_ (kne (by omega)), zupN hM47_ (kne (by omega)), zupN hM41_ (kne (by omega)), zupN hM34_ (kne (by omega)), zupN hM28_ (kne (by omega)), zupN hM22_ (kne (by omega)), zupN hM16_ (kne (by omega)), zupE hM10_ rfl rfl, e8_, zupN hM4_ (nb 9 _ _)]
    · rw [zupN hM53_ (kne (by omega)), zupN hM47_ (kne (by omega)), zupN hM41_ (kne (by omega)), zupN hM34_ (kne (by omega)), zupN hM28_ (kne (by omega)), zupN hM22_ (kne (by omega)), zupE hM16_ rfl rfl, e14_, zupN hM10_ (nb 9 _ _), zupN hM4_ (nb 9 _ _)]
    · rw [zupN hM53_ (kne (by omega)), zupN hM47_ (kne (by omega)), zupN hM41_ (kne (by omega)), zupN hM34_ (kne (by omega)), zupN hM28_ (kne (by omega)), zupE hM22_ rfl rfl, e20_, zupN hM16_ (nb 9 _ _), zupN hM10_ (nb 9 _ _), zupN hM4_ (nb 9 _ _)]
    · rw [zupN hM53_ (kne (by omega)), zupN hM47_ (kne (by omega)), zupN hM41_ (kne (by omega)), zupN hM34_ (kne (by omega)), zupE hM28_ rfl rfl, e26_, zupN hM22_ (nb 9 _ _), zupN hM16_ (nb 9 _ _), zupN hM10_ (nb 9 _ _), zupN hM4_ (nb 9 _ _)]
    · rw [zupN hM53_ (kne (by omega)), zupN hM47_ (kne (by omega)), zupN hM41_ (kne (by omega)), zupE hM34_ rfl rfl, e32_, zupN hM28_ (nb 9 _ _), zupN hM22_ (nb 9 _ _), zupN hM16_ (nb 9 _ _), zupN hM10_ (nb 9 _ _), zupN hM4_ (nb 9 _ _)]
    · rw [zupN hM53_ (kne (by omega)), zupN hM47_ (kne (by omega)), zupE hM41_ rfl rfl, e38_, zupN hM34_ (nb 9 _ _), zupN hM28_ (nb 9 _ _), zupN hM22_ (nb 9 _ _), zupN hM16_ (nb 9 _ _), zupN hM10_ (nb 9 _ _), zupN hM4_ (nb 9 _ _)]
    · rw [zupN hM53_ (kne (by omega)), zupE hM47_ rfl rfl, e45_, zupN hM41_ (nb 9 _ _), zupN hM34_ (nb 9 _ _), zupN hM28_ (nb 9 _ _), zupN hM22_ (nb 9 _ _), zupN hM16_ (nb 9 _ _), zupN hM10_ (nb 9 _ _), zupN hM4_ (nb 9 _ _)]
    · rw [zupE hM53_ rfl rfl, e51_, zupN hM47_ (nb 9 _ _), zupN hM41_ (nb 9 _ _), zupN hM34_ (nb 9 _ _), zupN hM28_ (nb 9 _ _), zupN hM22_ (nb 9 _ _), zupN hM16_ (nb 9 _ _), zupN hM10_ (nb 9 _ _), zupN hM4_ (nb 9 _ _)]
  · rw [zcpR hM61_ (by simp), cp_at hM57_ (by omega), zupR hM53_ (by simp), zupR hM47_ (by simp), zupR hM41_ (by simp), zupR hM34_ (by simp), zupR hM28_ (by simp), zupR hM22_ (by simp), zupR hM16_ (by simp), zupR hM10_ (by simp), zupR hM4_ (by simp)]
  · rw [cp_at hM61_ (by omega), zcpR hM57_ (by simp), zupR hM53_ (by simp), zupR hM47_ (by simp), zupR hM41_ (by simp), zupR hM34_ (by simp), zupR hM28_ (by simp), zupR hM22_ (by simp), zupR hM16_ (by simp), zupR hM10_ (by simp), zupR hM4_ (by simp)]
end
section
theorem OCC_b2 {b b2 : Nat} {q q2 : rf → Nat → Int32} {n : Nat → Int32} (h : OCC b2 q n) (hN : NW5 n) (hq : ∀ k, k < 192 → q2 (35, b, 0) k = q (35, b2, 0) k) : OCC b q2 n := by
  have th := nTh_b hN
  have nw := nWa_b hN
  have eo : ∀ k, k < 192 → occ b q2 k = occ b2 q k := fun k hk => by unfold occ; rw [hq k hk]
  obtain ⟨h1, h2, h3⟩ := h
  refine ⟨fun t a c => ?_, fun w a => ?_, fun c hc => ?_⟩
  · have z := ((hN.1 (21 + 4 * t)).2.2.2.2.2.2.1 (by omega) (by omega)).2.1 (by omega)
    have e : tcl n t = (n (21 + 4 * t)).toInt := rfl
    rw [eo _ (by omega)]; exact h1 t a c
  · have z := ((hN.1 (181 + 9 * w)).2.2.2.2.2.2.2 (by omega) (by omega)).2.1 (by omega)
    have e : wcl n w = (n (181 + 9 * w)).toInt := rfl
    rw [eo _ (by omega)]; exact h2 w a
  · rw [eo c hc]; exact h3 c hc
theorem RW_take {b b2 : Nat} {M M1 : mM} {n : Nat → Int32} (h : RW b2 M.1 n) (hN : NW5 n) (ht : SP_X10_takeFrom b b2 M M1) (hb : ¬ b = b2) (h0 : (M.1 (5, b2, 0) 1).toInt = (n 4).toInt) (h1 : (M.1 (5, b2, 1) 1).toInt = (n 5).toInt) : RW b M1.1 n := by
  have hl0 : rl 0 = 48 := rfl
  have hl1 : rl 1 = 24 := rfl
  have q0 := il_0
  have rn : nWa n = (n 2).toInt := rfl
  have th := nTh_b hN
  have nw := nWa_b hN
  have nb := n345_b hN
  have X := x10take ht hb (by omega) (by omega)
  obtain ⟨X1, X2, X3, X4, X5⟩ := X
  obtain ⟨⟨hL, hT, hW, hXt, hO, hM⟩, hE, hA, hY⟩ := h
  have e10 := eT hW.1
  have ne : ∀ (r w : Nat), ¬ ((r, b2, w) : rf) = (r, b, w) := fun r w z => hb (congrArg (fun c : rf => c.2.1) z).symm
  refine xE_SP_X10_takeFrom ht (fun M1_ _ hF5_ hs7_ M8_ _ hF12_ hs14_ M15_ _ hF19_ hs21_ M22_ _ hF26_ hs28_ M29_ _ hF33_ hs35_ z36_ e37_ M38_ hM39_ z42_ e43_ M44_ hM45_ v2_73 hv0_73 M_73 hL_73 _ hF_73 z49_ e50_ => ⟨(fun h51_ hM_ => ?_), (fun h51_ h52_ hM_ => ?_)⟩)
  all_goals
    have g7 : ∀ (c : rf) (k : Nat), ¬ (c.2.1 = b ∧ (c.1 = 35 ∨ c.1 = 36 ∨ c.1 = 37 ∨ c.1 = 38 ∨ c.1 = 39 ∨ c.1 = 7)) → M1_.1 c k = M.1 c k := fun c k hc => hF5_ c k (fun q => by simp only [S_c_X7_takeFrom, or_false] at q; omega)
    have g2 : ∀ (c : rf) (k : Nat), ¬ (c.2.1 = b ∧ (c.1 = 2 ∨ c.1 = 26 ∨ c.1 = 27 ∨ c.1 = 1 ∨ c.1 = 24)) → M8_.1 c k = M1_.1 c k := fun c k hc => hF12_ c k (fun q => by simp only [S_c_X2_takeFrom, or_false] at q; omega)
    have g3 : ∀ (c : rf) (k : Nat), ¬ (c.2.1 = b ∧ (c.1 = 3 ∨ c.1 = 30 ∨ c.1 = 31 ∨ c.1 = 32)) → M15_.1 c k = M8_.1 c k := fun c k hc => hF19_ c k (fun q => by simp only [S_c_X3_takeFrom, or_false] at q; omega)
    have g5 : ∀ (c : rf) (k : Nat), ¬ ((c.1 = 5 ∨ c.1 = 33) ∧ c.2.1 = b ∧ c.2.2 = 0) → M22_.1 c k = M15_.1 c k := fun c k hc => hF26_ c k (fun q => by simp only [S_c_X5_takeFrom, or_false] at q; omega)
    have g6 : ∀ (c : rf) (k : Nat), ¬ ((c.1 = 5 ∨ c.1 = 33) ∧ c.2.1 = b ∧ c.2.2 = 1) → M29_.1 c k = M22_.1 c k := fun c k hc => hF33_ c k (fun q => by simp only [S_c_X5_takeFrom, or_false] at q; omega)
    have g8 : ∀ (c : rf) (k : Nat), ¬ c = (10, b, 0) → M44_.1 c k = M29_.1 c k := fun c k hc => by rw [zupN hM45_ (fun z => hc z.1), zupN hM39_ (fun z => hc z.1)]
    -- what stands in the other world all the time
    have s29 : ∀ (r w k : Nat), M29_.1 (r, b2, w) k = M.1 (r, b2, w) k := fun r w k => by rw [g6 _ _ (fun z => by have := z.2.1; dsimp only at this; omega), g5 _ _ (fun z => by have := z.2.1; dsimp only at this; omega), g3 _ _ (fun z => by have := z.1; dsimp only at this; omega), g2 _ _ (fun z => by have := z.1; dsimp only at this; omega), g7 _ _ (fun z => by have := z.1; dsimp only at this; omega)]
    have s44 : ∀ (r w k : Nat), M44_.1 (r, b2, w) k = M.1 (r, b2, w) k := fun r w k => by rw [g8 _ _ (fun z => hb (congrArg (fun c : rf => c.2.1) z).symm), s29]
    have a := x9loop hL_73
    have L := rind hL_73 (fun z => 0 ≤ z.1.toInt ∧ (∀ (r w k : Nat), z.2.1 (r, b2, w) k = M44_.1 (r, b2, w) k) ∧ ∀ w : Nat, (w : Int) < z.1.toInt → (∀ k, k < 9 → z.2.1 (9, b, w) k = M.1 (9, b2, w) k) ∧ ∀ k, k < 192 → z.2.1 (40, b, w) k = M.1 (40, b2, w) k ∧ z.2.1 (41, b, w) k = M.1 (41, b2, w) k) ⟨by dsimp only; omega, fun _ _ _ => rfl, fun w hw => by dsimp only at hw; omega⟩ (fun x z p st => by
      (try dsimp only at p st ⊢)
      obtain ⟨p1, p2, p3⟩ := p
      refine xE_ST_X10_takeFrom_73 st (fun k_hv0_73 _ k_hF_73 k_z49_ k_e50_ k_h51_ k_h52_ k_j53_ k_h54_ k_h55_ k_j56_ k_h57_ k_h58_ k_M59_ _ k_hF63_ k_hs65_ k_z66_ k_h67_ k_hq_v2_73y k_hM_ => ?_)
      have e := eT k_hq_v2_73y
      obtain rfl : k_j53_ = k_j56_ := by omega
      have tk := x9take k_hs65_ hb
      rw [k_hM_]
      refine ⟨by omega, fun r w k => ?_, fun w hw => ?_⟩
      · rw [k_hF63_ _ _ (fun q => by simp only [S_c_X9_takeFrom, or_false] at q; omega)]; exact p2 r w k
      · by_cases e2 : (w : Int) = x.1.toInt
        · obtain rfl : w = k_j53_ := by omega
          exact ⟨fun k hk => by rw [tk.1 k hk, p2, s44], fun k hk => ⟨by rw [(tk.2 k hk).1, p2, s44], by rw [(tk.2 k hk).2, p2, s44]⟩⟩
        · have g := p3 w (by omega)
          exact ⟨fun k hk => by rw [k_hF63_ _ _ (fun q => by simp only [S_c_X9_takeFrom, or_false] at q; omega)]; exact g.1 k hk, fun k hk => ⟨by rw [k_hF63_ _ _ (fun q => by simp only [S_c_X9_takeFrom, or_false] at q; omega)]; exact (g.2 k hk).1, by rw [k_hF63_ _ _ (fun q => by simp only [S_c_X9_takeFrom, or_false] at q; omega)]; exact (g.2 k hk).2⟩⟩)
    (try dsimp only at L)
    obtain ⟨L1, L2, L3⟩ := L
    have t7 := x7take hs7_
    have tt := x2takeT hs14_ hb
    have t3 := x3takeT hs21_
    have c50 : M15_.1 (5, b2, 0) 1 = M.1 (5, b2, 0) 1 := by rw [g3 _ _ (by simp), g2 _ _ (by simp), g7 _ _ (by simp)]
    have c51 : M22_.1 (5, b2, 1) 1 = M.1 (5, b2, 1) 1 := by rw [g5 _ _ (by simp), g3 _ _ (by simp), g2 _ _ (by simp), g7 _ _ (by simp)]
    have t5 := x5takeT hs28_ hb (by rw [c50]; omega)
    have t6 := x5takeT hs35_ hb (by rw [c51]; omega)
    rw [c50] at t5
    rw [c51] at t6
    have f10 : M_73.1 (10, b, 0) 6 = M.1 (10, b2, 0) 6 := by rw [a _ _ (by simp), zupN hM45_ (by simp), zupE hM39_ rfl rfl, e37_, s29]
    have y49 := eT e50_
    rw [f10] at y49
    have F : ∀ (c : rf) (k : Nat), ¬ (c.1 = 9 ∨ c.1 = 40 ∨ c.1 = 41) → ¬ c.1 = 10 → M_73.1 c k = M29_.1 c k := fun c k h1 h2 => by rw [a c k h1, g8 c k (fun z => h2 (by rw [z]))]
    have F7 : ∀ (c : rf) (k : Nat), (c.1 = 35 ∨ c.1 = 36 ∨ c.1 = 37 ∨ c.1 = 38 ∨ c.1 = 39 ∨ c.1 = 7) → M_73.1 c k = M1_.1 c k := fun c k hc => by rw [F c k (by omega) (by omega), g6 _ _ (by omega), g5 _ _ (by omega), g3 _ _ (by omega), g2 _ _ (by omega)]
    have FT : ∀ (c : rf) (k : Nat), (c.1 = 1 ∨ c.1 = 24) → M_73.1 c k = M8_.1 c k := fun c k hc => by rw [F c k (by omega) (by omega), g6 _ _ (by omega), g5 _ _ (by omega), g3 _ _ (by omega)]
    have F3 : ∀ (c : rf) (k : Nat), (c.1 = 30 ∨ c.1 = 31 ∨ c.1 = 32) → M_73.1 c k = M15_.1 c k := fun c k hc => by rw [F c k (by omega) (by omega), g6 _ _ (by omega), g5 _ _ (by omega)]
    rw [hM_] at X1 X2 X3 X4 X5 ⊢
    refine ⟨⟨⟨X1.trans hL.1, fun k hk => (X4 k (by omega)).trans (hL.2.1 k hk), fun k hk => ⟨(X5 k hk).1.trans (hL.2.2 k hk).1, (X5 k hk).2.trans (hL.2.2 k hk).2⟩⟩, ⟨?_, fun t ht => ?_⟩, ⟨f10.trans hW.1, fun w hw => ?_⟩, fun u hu => ?_, OCC_b2 hO hN (fun k hk => ?_), hM⟩, fun l hl => ?_, fun i hi => ?_, fun i hi => ?_⟩
    · rw [F7 _ _ (by simp), t7.1]; exact hT.1
    · have g := t7.2.2 t (by omega)
      rw [F7 _ _ (by simp), F7 (37, b, 0) _ (by simp), F7 (38, b, 0) _ (by simp), F7 (39, b, 0) _ (by simp), g.1, g.2.1, g.2.2.1, g.2.2.2]
      exact hT.2 t ht
    · have g := L3 w (by omega)
      exact ⟨fun k hk => (g.1 k hk).trans ((hW.2 w hw).1 k hk), fun c hc => ⟨(g.2 c hc).1.trans ((hW.2 w hw).2 c hc).1, (g.2 c hc).2.trans ((hW.2 w hw).2 c hc).2⟩⟩
    · have g := tt u hu
      have z := TXz hN u hu
      have m1 : ∀ (c : rf) (k : Nat), c.1 = 1 ∨ c.1 = 24 → M1_.1 c k = M.1 c k := fun c k hc => g7 c k (by omega)
      rw [FT _ _ (by simp), g.1, m1 _ _ (by simp)]
      refine ⟨(hXt u hu).1, fun i hi => ?_⟩
      rw [FT _ _ (by simp), g.2 i (by omega), m1 _ _ (by simp)]
      exact (hXt u hu).2 i hi
    · rw [F7 _ _ (by simp), t7.2.1 k hk]
    · have g := t3 l (by omega)
      have m8 : ∀ (r k : Nat), r = 30 ∨ r = 31 ∨ r = 32 → M8_.1 (r, b2, 0) k = M.1 (r, b2, 0) k := fun r k hr => by rw [g2 _ _ (by dsimp only; omega), g7 _ _ (by dsimp only; omega)]
      rw [F3 _ _ (by simp), F3 (31, b, 0) _ (by simp), F3 (32, b, 0) _ (by simp), g.1, g.2.1, g.2.2, m8 _ _ (by simp), m8 _ _ (by simp), m8 _ _ (by simp)]
      exact hE l hl
    · rw [F _ _ (by simp) (by simp), g6 _ _ (by simp), t5 i (by omega), g3 _ _ (by simp), g2 _ _ (by simp), g7 _ _ (by simp)]
      exact hA i hi
    · rw [F _ _ (by simp) (by simp), t6 i (by omega), g5 _ _ (by simp), g3 _ _ (by simp), g2 _ _ (by simp), g7 _ _ (by simp)]
      exact hY i hi
end
section
/-! image, restore -/
theorem cb_35 {M M1 D D2 : mM} {r1 r2 : Int32} (h1 : SP_X11_image M r1 M1) (h2 : SP_X12_image D r2 D2) (hR : RW 0 M.1 (D.1 (50, 0, 0))) (hD : InvD D) (h4 : M.1 (5, 0, 0) 1 = D.1 (50, 0, 0) 4) (h5 : M.1 (5, 0, 1) 1 = D.1 (50, 0, 0) 5) (h8 : M.1 (11, 0, 0) 8 = D.1 (12, 0, 0) 3) : RW 0 M1.1 (D2.1 (50, 0, 0)) ∧ RW 1 M1.1 (D2.1 (51, 0, 0)) ∧ r1 = r2 := by
  have hN : NW5 (D.1 (50, 0, 0)) := hD.2.1
  refine xE_SP_X11_image h1 (fun c_M1_ _ c_hF5_ c_hs7_ c_z8_ c_e9_ c_z10_ c_h11_ c_M12_ c_hM13_ c_z16_ c_e17_ c_hr_ c_hM_ => ?_)
  refine xE_SP_X12_image h2 (fun d_M1_ _ d_hF5_ d_hs7_ d_z9_ d_e10_ d_z11_ d_h12_ d_M13_ d_hM14_ d_z17_ d_e18_ d_hr_ d_hM_ => ?_)
  have tk := RW_take (b := 1) hR hN c_hs7_ (by omega) (by rw [h4]) (by rw [h5])
  have e50 : D2.1 (50, 0, 0) = D.1 (50, 0, 0) := funext fun k => by rw [d_hM_, zupR d_hM14_ (by simp)]; exact d_hF5_ _ _ (fun q => by simp only [S_c_copy_50_51, or_false] at q; omega)
  have c51 := cpy51 d_hs7_
  have up1 : ∀ (c : rf) (k : Nat), wR c.1 → M1.1 c k = c_M1_.1 c k := fun c k a => by rw [c_hM_, zupR c_hM13_ (fun z => by unfold wR at a; omega)]
  have m50 : ∀ k, d_M1_.1 (50, 0, 0) k = D.1 (50, 0, 0) k := fun k => d_hF5_ _ _ (fun q => by simp only [S_c_copy_50_51, or_false] at q; omega)
  refine ⟨?_, ?_, ?_⟩
  · rw [e50]
    exact RW_same hR hN (fun c k a b => by rw [up1 c k a]; exact c_hF5_ c k (fun q => by simp only [S_c_X10_takeFrom, or_false] at q; omega))
  · refine RW_row (RW_same tk hN (fun c k a _ => up1 c k a)) hN (fun j hj => ?_)
    rw [d_hM_, zupR d_hM14_ (by simp), c51 j hj, m50]
  · have w1 : c_M1_.1 (11, 0, 0) 8 = M.1 (11, 0, 0) 8 := c_hF5_ _ _ (fun q => by simp only [S_c_X10_takeFrom, or_false] at q; omega)
    have w2 : d_M1_.1 (12, 0, 0) 3 = D.1 (12, 0, 0) 3 := d_hF5_ _ _ (fun q => by simp only [S_c_copy_50_51, or_false] at q; omega)
    rw [c_hr_, c_e17_, c_hM13_, up_same, c_h11_, c_e9_, w1, d_hr_, d_e18_, d_hM14_, up_same, d_h12_, d_e10_, w2, h8]
theorem cb_36 {M M1 D D2 : mM} {r1 r2 : Int32} (h1 : SP_X11_restore M r1 M1) (h2 : SP_X12_restore D r2 D2) (hR : RW 0 M.1 (D.1 (50, 0, 0))) (hD : InvD D) (h8 : M.1 (11, 0, 0) 8 = D.1 (12, 0, 0) 3) (hI : ¬ (D.1 (12, 0, 0) 3).toInt = 0 → RW 1 M.1 (D.1 (51, 0, 0)) ∧ M.1 (5, 1, 0) 1 = D.1 (51, 0, 0) 4 ∧ M.1 (5, 1, 1) 1 = D.1 (51, 0, 0) 5) : RW 0 M1.1 (D2.1 (50, 0, 0)) ∧ (¬ (D.1 (12, 0, 0) 3).toInt = 0 → RW 1 M1.1 (D2.1 (51, 0, 0))) ∧ r1 = r2 := by
  have hN : NW5 (D.1 (50, 0, 0)) := hD.2.1
  have hN1 : NW5 (D.1 (51, 0, 0)) := hD.2.2.1
  have e8 := eT h8
  refine xE_SP_X11_restore h1 (fun c_z1_ c_e2_ => ⟨(fun c_h3_ c_M4_ _ c_hF8_ c_hs10_ c_z11_ c_e12_ c_hr_ c_hM_ => ?_), (fun c_h3_ c_M14_ _ c_hF18_ c_r13_ c_hs20_ c_hr_ c_hM_ => ?_)⟩)
  · have y1 := eT c_e2_
    refine xE_SP_X12_restore h2 (fun d_z1_ d_e2_ => ⟨(fun d_h3_ d_M4_ _ d_hF8_ d_hs10_ d_z12_ d_e13_ d_hr_ d_hM_ => ?_), (fun d_h3_ d_M15_ _ d_hF19_ d_r14_ d_hs21_ d_h17_ d_hr_ d_hM_ => ?_)⟩)
    · have y2 := eT d_e2_
      obtain ⟨i1, i2, i3⟩ := hI (by omega)
      have tk := RW_take (b := 0) i1 hN1 c_hs10_ (by omega) (by rw [i2]) (by rw [i3])
      have c50 := cpy50 d_hs10_
      have m51 : ∀ k, d_M4_.1 (51, 0, 0) k = D.1 (51, 0, 0) k := fun k => d_hF8_ _ _ (fun q => by simp only [S_c_copy_51_50, or_false] at q; omega)
      have e51 : D2.1 (51, 0, 0) = D.1 (51, 0, 0) := funext fun k => by rw [d_hM_]; exact m51 k
      have R0 : RW 0 M1.1 (D2.1 (50, 0, 0)) := by
        rw [c_hM_, d_hM_]
        exact RW_row tk hN1 (fun j hj => by rw [c50 j hj, m51])
      refine ⟨R0, fun _ => ?_, ?_⟩
      · rw [e51, c_hM_]
        exact RW_same i1 hN1 (fun c k a b => c_hF8_ c k (fun q => by simp only [S_c_X10_takeFrom, or_false] at q; omega))
      · rw [c_hr_, c_e12_, d_hr_, d_e13_]
        rw [c_hM_, d_hM_] at R0
        exact R0.1.1.1
    · have y2 := eT d_e2_
      omega
  · have y1 := eT c_e2_
    refine xE_SP_X12_restore h2 (fun d_z1_ d_e2_ => ⟨(fun d_h3_ d_M4_ _ d_hF8_ d_hs10_ d_z12_ d_e13_ d_hr_ d_hM_ => ?_), (fun d_h3_ d_M15_ _ d_hF19_ d_r14_ d_hs21_ d_h17_ d_hr_ d_hM_ => ?_)⟩)
    · have y2 := eT d_e2_
      omega
    · refine ⟨sameE hR hN c_hF18_ c_hM_ d_hF19_ d_hM_, fun q => ?_, i32e ?_⟩
      · have y2 := eT d_e2_
        omega
      · have e := err_r c_hs20_ (by first | decide | simp | (dsimp only; omega))
        rw [c_hr_, d_hr_, e, d_h17_]
        decide
end
section
/-! check -/
theorem RCH_map {α β : Type} {S : α → α → Prop} {T : β → β → Prop} (f : α → β) {a z : α} (h : RCH S a z) (hs : ∀ x y, S x y → T (f x) (f y)) : RCH T (f a) (f z) := rind h (fun z => RCH T (f a) (f z)) RCH.refl (fun x y p s => RCH.tail p (hs x y s))
/-- the waiting numbers' count alone differs -/
theorem WRR_n5 {b : Nat} {q : rf → Nat → Int32} {n n2 : Nat → Int32} (h : WRR b q n) (hN : NW5 n) (hn : ∀ j, j < 3567 → ¬ j = 5 → n2 j = n j) : WRR b q n2 := by
  obtain ⟨hL, hT, hW, hX, hO, hM⟩ := h
  have th := nTh_b hN
  have nw := nWa_b hN
  exact ⟨LWR_keep hL (fun _ _ _ => rfl) (fun j hj => hn j (by omega) (by omega)), THR_keep hT th.2 (fun _ _ _ => rfl) (fun j hj => hn j (by omega) (by omega)), WAR_keep hW nw.2 (fun _ _ _ _ => rfl) rfl (fun j hj => hn j (by omega) (by omega)),
    TXR_keep hX (TXz hN) (fun _ _ _ _ _ => rfl) (fun j h1 h2 => hn j (by omega) (by omega)), OCC_keep hO th.2 nw.2 (fun _ => rfl) (fun j hj => hn j (by omega) (by omega)) (fun j hj => hn j (by omega) (by omega)), MIR_keep hM th.2 nw.2 (fun j hj => hn j (by omega) (by omega)) (fun w h1 h2 => ⟨fun k hk => hn _ (by omega) (by omega), fun c hc => hn _ (by omega) (by omega)⟩)⟩
theorem RW_n5 {b : Nat} {q : rf → Nat → Int32} {n n2 : Nat → Int32} (h : RW b q n) (hN : NW5 n) (hn : ∀ j, j < 3567 → ¬ j = 5 → n2 j = n j) (h5 : (n2 5).toInt = 0) : RW b q n2 := by
  have nb := n345_b hN
  exact ⟨WRR_n5 h.1 hN hn, LER_keep h.2.1 nb.1.2 (fun _ _ _ => rfl) (fun j hj => hn j (by omega) (by omega)), TAR_keep h.2.2.1 nb.2.1.2 (fun _ => rfl) (fun j hj => hn j (by omega) (by omega)), fun i hi => by omega⟩
def CHc (w : Nat) (x y : Int32 × Int32 × mM) : Prop := x.2.1.toInt = 0 ∧ x.1.toInt < (x.2.2.1 (5, 2, 1) 1).toInt ∧ ∃ r : Int32, SP_X10_passTenth 2 x.2.2 y.2.2 ∧ FR (S_c_X10_passTenth 2) x.2.2 y.2.2 ∧ SP_X5_get 2 1 x.1 y.2.2 r ∧ y.1.toInt = x.1.toInt + 1 ∧ (((y.2.2.1 (9, 2, w) 1).toInt = r.toInt ∧ y.2.1.toInt = 0) ∨ (¬ (y.2.2.1 (9, 2, w) 1).toInt = r.toInt ∧ y.2.1.toInt = 1 + x.1.toInt))
def CHd (w : Nat) (N : Int) (x y : Int32 × Int32 × mM) : Prop := x.2.1.toInt = 0 ∧ (0 ≤ x.1.toInt ∧ x.1.toInt < N) ∧ SP_X12_tenth x.2.2 y.2.2 ∧ InvD x.2.2 ∧ y.1.toInt = x.1.toInt + 1 ∧ (((y.2.2.1 (50, 0, 0) (181 + 9 * w)).toInt = (y.2.2.1 (50, 0, 0) (321 + x.1.toInt.toNat)).toInt ∧ y.2.1.toInt = 0) ∨ (¬ (y.2.2.1 (50, 0, 0) (181 + 9 * w)).toInt = (y.2.2.1 (50, 0, 0) (321 + x.1.toInt.toNat)).toInt ∧ y.2.1.toInt = 1 + x.1.toInt))
def CHR (w : Nat) (N : Int) (x y : Int32 × Int32 × mM) : Prop := x.1.toInt = y.1.toInt ∧ x.2.1.toInt = y.2.1.toInt ∧ WRR 2 x.2.2.1 (y.2.2.1 (50, 0, 0)) ∧ (y.2.2.1 (12, 0, 0) 7).toInt = -1 ∧ (x.2.2.1 (5, 2, 1) 1).toInt = N ∧ (w : Int) < nWa (y.2.2.1 (50, 0, 0)) ∧ ∀ i : Nat, (i : Int) < N → x.2.2.1 (33, 2, 1) i = y.2.2.1 (50, 0, 0) (321 + i)
theorem check_loop {w : Nat} {N : Int} {C D : mM} {z t : Int32 × Int32 × mM} (hN : N ≤ 24) (h0 : CHR w N ((0 : Int32), (0 : Int32), C) ((0 : Int32), (0 : Int32), D)) (hc : RCH (CHc w) ((0 : Int32), (0 : Int32), C) z) (hd : RCH (CHd w N) ((0 : Int32), (0 : Int32), D) t)
    (fc : ¬ z.2.1.toInt = 0 ∨ (z.2.2.1 (5, 2, 1) 1).toInt ≤ z.1.toInt) (fd : ¬ t.2.1.toInt = 0 ∨ N ≤ t.1.toInt) : CHR w N z t := by
  have q0 := il_0
  have hl1 : ((rl 1 : Nat) : Int) = 24 := by decide
  refine lockE (CHR w N) hc hd h0 ?_ ?_ ?_
  · intro x z y t r s1 s2
    obtain ⟨r1, r2, r3, r4, r5, r6, r7⟩ := r
    obtain ⟨s0, s3, rr, s4, s5, s6, s7, s8⟩ := s1
    obtain ⟨t0, t3, t4, t5, t7, t8⟩ := s2
    have tb := tenth_both s4 t4 r3 t5 r4
    obtain ⟨b1, b2, b3⟩ := tb
    have kf := FSP_X12_tenth t4
    have kt := KSP_X12_tenth t4
    have nw := nWa_b t5.2.1
    have n2 : nWa (t.2.2.1 (50, 0, 0)) = nWa (y.2.2.1 (50, 0, 0)) := by unfold nWa; rw [kt 2 (by omega) (by first | decide | simp | (dsimp only; omega))]
    have c5 : z.2.2.1 (5, 2, 1) 1 = x.2.2.1 (5, 2, 1) 1 := s5 _ _ (fun q => by simp only [S_c_X10_passTenth, or_false] at q; omega)
    have c33 : ∀ i, z.2.2.1 (33, 2, 1) i = x.2.2.1 (33, 2, 1) i := fun i => s5 _ _ (fun q => by simp only [S_c_X10_passTenth, or_false] at q; omega)
    have wt : ∀ i : Nat, (i : Int) < N → z.2.2.1 (33, 2, 1) i = t.2.2.1 (50, 0, 0) (321 + i) := fun i hi => by rw [c33, kf _ (by omega) (by omega)]; exact r7 i hi
    have gt : rr = z.2.2.1 (33, 2, 1) x.1.toInt.toNat := by
      refine xE_SP_X5_get s6 ⟨(fun m_h1_ m_hr_ => ?_), (fun m_h1_ m_z2_ m_e3_ => ⟨(fun m_h4_ m_hr_ => ?_), (fun m_h4_ m_z5_ m_h6_ => ⟨(fun m_h7_ m_hr_ => ?_), (fun m_h7_ m_j10_ m_h11_ m_z8_ m_e9_ m_hr_ => ?_)⟩)⟩)⟩
      · omega
      · have := eT m_e3_
        rw [c5] at this
        omega
      · omega
      · rw [m_hr_, m_e9_, show m_j10_ = x.1.toInt.toNat by omega]
    have g33 := eT (wt x.1.toInt.toNat (by omega))
    rw [← gt, show 321 + x.1.toInt.toNat = 321 + y.1.toInt.toNat by omega] at g33
    have cel := eT ((b1.2.2.1.2 w (by omega)).1 1 (by omega))
    rw [show 180 + 9 * w + 1 = 181 + 9 * w by omega] at cel
    exact ⟨by omega, by omega, b1, b3, by rw [c5]; exact r5, by omega, wt⟩
  · intro y y' r s2
    obtain ⟨r1, r2, r3, r4, r5, r6, r7⟩ := r
    obtain ⟨t0, t3, -⟩ := s2
    omega
  · intro x x' r s1
    obtain ⟨r1, r2, r3, r4, r5, r6, r7⟩ := r
    obtain ⟨s0, s3, -⟩ := s1
    omega
theorem cb_38 {v : Int32} {M M1 D D2 : mM} {r1 r2 : Int32} (h1 : SP_X11_check v M r1 M1) (h2 : SP_X12_check v D r2 D2) (hR : RW 0 M.1 (D.1 (50, 0, 0))) (hD : InvD D) (hu : (D.1 (12, 0, 0) 7).toInt = -1) (h4 : M.1 (5, 0, 0) 1 = D.1 (50, 0, 0) 4) (h5 : M.1 (5, 0, 1) 1 = D.1 (50, 0, 0) 5) : RW 0 M1.1 (D2.1 (50, 0, 0)) ∧ r1 = r2 := by
  have q0 := il_0
  have q1 := il_1
  have hN : NW5 (D.1 (50, 0, 0)) := hD.2.1
  have n5 := (n345_b hN).2.2
  have nW := nWa_b hN
  have bW := eT hR.1.2.2.1.1
  have w2 : (D.1 (50, 0, 0) 2).toInt = nWa (D.1 (50, 0, 0)) := rfl
  have e5 := eT h5
  -- the class's steps
  have stC : ∀ (w : Nat) (x y : Int32 × mM), (w : Int) = v.toInt → ST_X11_check_50 v M x.1 x.2 y.1 y.2 → CHc w (x.1, (0 : Int32), x.2) (y.1, (0 : Int32), y.2) := fun w x y hw st => by
    refine xE_ST_X11_check_50 st (fun k_hv0_50 _ k_hF_50 k_z22_ k_e23_ k_h24_ k_M25_ _ k_hF29_ k_hs31_ k_j32_ k_h33_ k_h34_ k_z35_ k_e36_ k_r37_ k_hs41_ k_h42_ k_z43_ k_h44_ k_hq_v2_50y k_hM_ => ?_)
    have yk := eT k_e36_
    have yz := eT k_e23_
    refine ⟨q0, by dsimp only; omega, k_r37_, by dsimp only; rw [k_hM_]; exact k_hs31_, by dsimp only; rw [k_hM_]; exact k_hF29_, by dsimp only; rw [k_hM_]; exact k_hs41_, by dsimp only; rw [k_hq_v2_50y]; omega, Or.inl ⟨?_, q0⟩⟩
    (try dsimp only)
    rw [k_hM_, show w = k_j32_ by omega]
    omega
  have stD : ∀ (w : Nat) (z1 : Int32) (x y : Int32 × Int32 × mM), (w : Int) = v.toInt → 0 ≤ v.toInt ∧ v.toInt ≤ 7 → ST_X12_check_46 v D z1 x.1 x.2.1 x.2.2 y.1 y.2.1 y.2.2 → CHd w z1.toInt x y := fun w z1 x y hw hv st => by
    refine xE_ST_X12_check_46 st (fun k_hv0_46 k_hv1_46 k_hI_46 k_hF_46 k_h23_ k_h32_ k_M41_ k_hI44_ k_hF45_ k_hs47_ k_r48_ k_hs52_ k_h51_ k_z53_ k_h54_ k_j57_ k_h58_ k_z55_ k_e56_ k_h59_ k_z60_ k_h61_ k_j64_ k_h65_ k_z62_ k_e63_ => ⟨(fun k_h66_ k_z67_ k_h68_ k_z69_ k_h70_ k_hq_v4_46y k_hq_v3_46y k_hM_ => ?_), (fun k_h66_ k_z71_ k_h72_ k_hq_v4_46y k_hq_v3_46y k_hM_ => ?_)⟩)
    · have y1 := eT k_e56_
      have y2 := eT k_e63_
      refine ⟨k_h32_, ⟨k_hv0_46, k_h23_⟩, by rw [k_hM_]; exact k_hs47_, k_hI_46, by rw [k_hq_v4_46y]; omega, Or.inr ⟨?_, by rw [k_hq_v3_46y]; omega⟩⟩
      rw [k_hM_, show 181 + 9 * w = k_j57_ by omega, show 321 + x.1.toInt.toNat = k_j64_ by omega]
      omega
    · have y1 := eT k_e56_
      have y2 := eT k_e63_
      refine ⟨k_h32_, ⟨k_hv0_46, k_h23_⟩, by rw [k_hM_]; exact k_hs47_, k_hI_46, by rw [k_hq_v4_46y]; omega, Or.inl ⟨?_, by rw [k_hq_v3_46y]; exact q0⟩⟩
      rw [k_hM_, show 181 + 9 * w = k_j57_ by omega, show 321 + x.1.toInt.toNat = k_j64_ by omega]
      omega
  -- where both begin
  have beg : ∀ {C7 C D4 D14 : mM} {w : Nat}, (w : Int) < nWa (D.1 (50, 0, 0)) → SP_X10_takeFrom 2 0 M C7 → FR (S_c_X5_clear 0 1) C7 C → D4 = up D (50, 0, 0) 5 0 → FR (S_c_copy_50_52) D4 D14 → CHR w (D.1 (50, 0, 0) 5).toInt ((0 : Int32), (0 : Int32), C) ((0 : Int32), (0 : Int32), D14) := fun {C7 C D4 D14 w} hw a1 a2 a3 a4 => by
    have tk := RW_take (b := 2) hR hN a1 (by omega) (by rw [h4]) (by rw [h5])
    have X := x10take a1 (by omega) (by rw [h4]; exact (n345_b hN).2.1.2) (by rw [h5]; exact n5.2)
    have d14 : ∀ k, D14.1 (50, 0, 0) k = D4.1 (50, 0, 0) k := fun k => a4 _ _ (fun q => by simp only [S_c_copy_50_52, or_false] at q; omega)
    have d5 : ∀ k, ¬ k = 5 → D14.1 (50, 0, 0) k = D.1 (50, 0, 0) k := fun k hk => by rw [d14, zupN a3 (fun z => hk z.2)]
    have c2 : ∀ (c : rf) (k : Nat), c.2.1 = 2 → C.1 c k = C7.1 c k := fun c k hc => a2 c k (fun q => by simp only [S_c_X5_clear, or_false] at q; omega)
    refine ⟨rfl, rfl, WRR_n5 (WRR_same tk.1 hN (fun c k _ hc => c2 c k hc)) hN (fun j _ hj => d5 j hj), ?_, ?_, ?_, fun i hi => ?_⟩
    · (try dsimp only)
      rw [a4 (12, 0, 0) 7 (fun q => by simp only [S_c_copy_50_52, or_false] at q; omega), zupR a3 (by simp)]
      exact hu
    · (try dsimp only)
      rw [c2 _ _ rfl, X.2.2.1 1 (by omega), h5]
    · (try dsimp only)
      unfold nWa
      rw [d5 2 (by omega)]
      exact hw
    · (try dsimp only)
      rw [c2 _ _ rfl, d5 _ (by omega)]
      exact tk.2.2.2 i hi
  have fin : ∀ {q : rf → Nat → Int32} {n2 : Nat → Int32}, (∀ (c : rf) (k : Nat), wR c.1 → c.2.1 = 0 → q c k = M.1 c k) → (∀ j, j < 3567 → ¬ j = 5 → n2 j = D.1 (50, 0, 0) j) → (n2 5).toInt = 0 → RW 0 q n2 := fun hq hn hz => RW_n5 (RW_same hR hN hq) hN hn hz
  -- the model's row behind it
  have rowD : ∀ {D4 D14 D46 D24 : mM}, D4 = up D (50, 0, 0) 5 0 → SP_copy_50_52 D4 D14 → FR (S_c_copy_50_52) D4 D14 → (∀ k, D46.1 (52, 0, 0) k = D14.1 (52, 0, 0) k) → SP_copy_52_50 D46 D24 → FR (S_c_copy_52_50) D46 D24 → (∀ j, j < 3567 → ¬ j = 5 → D24.1 (50, 0, 0) j = D.1 (50, 0, 0) j) ∧ (D24.1 (50, 0, 0) 5).toInt = 0 := fun {D4 D14 D46 D24} a1 a2 a3 a4 a5 a6 => by
    have e : ∀ j, j < 3567 → D24.1 (50, 0, 0) j = D4.1 (50, 0, 0) j := fun j hj => by
      rw [cpy50b a5 j hj, a6 (52, 0, 0) j (fun q => by simp only [S_c_copy_52_50, or_false] at q; omega), a4, cpy52 a2 j hj]
      exact a3 _ _ (fun q => by simp only [S_c_copy_50_52, or_false] at q; omega)
    exact ⟨fun j hj h => by rw [e j hj, zupN a1 (fun z => h z.2)], by rw [e 5 (by omega), zupE a1 rfl rfl]; exact q0⟩
  have loop52 : ∀ {D14 : mM} {z1 : Int32} {t : Int32 × Int32 × mM}, RCH (fun x y : Int32 × Int32 × mM => ST_X12_check_46 v D z1 x.1 x.2.1 x.2.2 y.1 y.2.1 y.2.2) ((0 : Int32), (0 : Int32), D14) t → ∀ k, t.2.2.1 (52, 0, 0) k = D14.1 (52, 0, 0) k := fun {D14 z1 t} h => by
    refine rind h (fun z => ∀ k, z.2.2.1 (52, 0, 0) k = D14.1 (52, 0, 0) k) (fun _ => rfl) (fun x z p st => ?_)
    intro k
    (try dsimp only at p st ⊢)
    refine xE_ST_X12_check_46 st (fun k_hv0_46 k_hv1_46 _ k_hF_46 k_h23_ k_h32_ k_M41_ _ k_hF45_ k_hs47_ k_r48_ k_hs52_ k_h51_ k_z53_ k_h54_ k_j57_ k_h58_ k_z55_ k_e56_ k_h59_ k_z60_ k_h61_ k_j64_ k_h65_ k_z62_ k_e63_ => ⟨(fun k_h66_ k_z67_ k_h68_ k_z69_ k_h70_ k_hq_v4_46y k_hq_v3_46y k_hM_ => ?_), (fun k_h66_ k_z71_ k_h72_ k_hq_v4_46y k_hq_v3_46y k_hM_ => ?_)⟩)
    · rw [k_hM_, k_hF45_ _ _ (fun q => by simp only [S_c_X12_tenth, or_false] at q; omega)]; exact p k
    · rw [k_hM_, k_hF45_ _ _ (fun q => by simp only [S_c_X12_tenth, or_false] at q; omega)]; exact p k
  refine xE_SP_X11_check h1 ⟨(fun c_hs5_ c_h4_ c_M7_ _ c_hF11_ c_hs13_ c_M14_ _ c_hF18_ c_hs20_ c_v2_50 c_hv0_50 c_M_50 c_hL_50 _ c_hF_50 c_z22_ c_e23_ => ⟨(fun c_h24_ c_hr_ c_hM_ => ?_), (fun c_h24_ c_M25_ _ c_hF29_ c_hs31_ c_j32_ c_h33_ c_h34_ c_z35_ c_e36_ c_r37_ c_hs41_ c_h42_ c_z45_ c_h46_ c_hr_ c_hM_ => ?_)⟩), (fun c_hs5_ c_M48_ _ c_hF52_ c_hs54_ c_M56_ _ c_hF60_ c_r55_ c_hs62_ c_hr_ c_hM_ => ?_)⟩
  · have qh := x10has c_hs5_
    have kM : ∀ (c : rf) (k : Nat), wR c.1 → c.2.1 = 0 → M1.1 c k = M.1 c k := fun c k a b => by rw [c_hM_]; exact c_hF_50 c k (fun q => by unfold wR at a; simp only [S_c_X11_check, or_false] at q; omega)
    have yc := eT c_e23_
    refine xE_SP_X12_check h2 (fun d_z1_ d_e2_ d_h3_ d_M4_ d_hM5_ _ => ⟨(fun d_hs12_ d_h11_ d_M14_ _ d_hF18_ d_hs20_ d_v4_46 d_hv0_46 d_hv1_46 d_v3_46 d_M_46 d_hL_46 _ d_hF_46 => ⟨(fun d_h23_ d_M24_ _ d_hF28_ d_hs30_ d_hr_ d_hM_ => ?_), (fun d_h23_ d_h32_ d_M33_ _ d_hF37_ d_hs39_ d_hr_ d_hM_ => ?_)⟩), (fun d_hs12_ d_M75_ _ d_hF79_ d_r74_ d_hs81_ d_h77_ d_hr_ d_hM_ => ?_)⟩)
    · have cb := beg (w := v.toInt.toNat) (by omega) c_hs13_ c_hF18_ d_hM5_ d_hF18_
      have yd := eT d_e2_
      rw [← yd] at cb
      have L := check_loop (by omega) cb (RCH_map (fun x : Int32 × mM => (x.1, (0 : Int32), x.2)) c_hL_50 (fun x y s => stC _ x y (by omega) s)) (RCH_mono d_hL_46 (fun x y s => stD _ _ x y (by omega) d_h11_ s)) (Or.inr (by dsimp only; omega)) (Or.inr (by dsimp only; omega))
      obtain ⟨l1, l2, -⟩ := L
      obtain ⟨g1, g2⟩ := rowD d_hM5_ d_hs20_ d_hF18_ (loop52 d_hL_46) d_hs30_ d_hF28_
      rw [d_hM_]
      exact ⟨fin kM g1 g2, by rw [c_hr_, d_hr_]; exact i32e l2⟩
    · have cb := beg (w := v.toInt.toNat) (by omega) c_hs13_ c_hF18_ d_hM5_ d_hF18_
      have yd := eT d_e2_
      rw [← yd] at cb
      have L := check_loop (by omega) cb (RCH_map (fun x : Int32 × mM => (x.1, (0 : Int32), x.2)) c_hL_50 (fun x y s => stC _ x y (by omega) s)) (RCH_mono d_hL_46 (fun x y s => stD _ _ x y (by omega) d_h11_ s)) (Or.inr (by dsimp only; omega)) (Or.inl d_h32_)
      obtain ⟨l1, l2, -⟩ := L
      obtain ⟨g1, g2⟩ := rowD d_hM5_ d_hs20_ d_hF18_ (loop52 d_hL_46) d_hs39_ d_hF37_
      rw [d_hM_]
      exact ⟨fin kM g1 g2, by rw [c_hr_, d_hr_]; exact i32e l2⟩
    · have qi := is2x d_hs12_
      rw [zupN d_hM5_ (by simp)] at qi
      omega
  · have qh := x10has c_hs5_
    have kM : ∀ (c : rf) (k : Nat), wR c.1 → c.2.1 = 0 → M1.1 c k = M.1 c k := fun c k a b => by rw [c_hM_, c_hF29_ c k (fun q => by simp only [S_c_X10_passTenth, or_false] at q; omega)]; exact c_hF_50 c k (fun q => by unfold wR at a; simp only [S_c_X11_check, or_false] at q; omega)
    have yc := eT c_e23_
    have y36 := eT c_e36_
    have last : CHc v.toInt.toNat (c_v2_50, (0 : Int32), c_M_50) (c_z45_, c_z45_, c_M25_) := by
      refine ⟨q0, by dsimp only; omega, c_r37_, c_hs31_, c_hF29_, c_hs41_, by dsimp only; omega, Or.inr ⟨?_, by dsimp only; omega⟩⟩
      (try dsimp only)
      rw [show v.toInt.toNat = c_j32_ by omega]
      omega
    refine xE_SP_X12_check h2 (fun d_z1_ d_e2_ d_h3_ d_M4_ d_hM5_ _ => ⟨(fun d_hs12_ d_h11_ d_M14_ _ d_hF18_ d_hs20_ d_v4_46 d_hv0_46 d_hv1_46 d_v3_46 d_M_46 d_hL_46 _ d_hF_46 => ⟨(fun d_h23_ d_M24_ _ d_hF28_ d_hs30_ d_hr_ d_hM_ => ?_), (fun d_h23_ d_h32_ d_M33_ _ d_hF37_ d_hs39_ d_hr_ d_hM_ => ?_)⟩), (fun d_hs12_ d_M75_ _ d_hF79_ d_r74_ d_hs81_ d_h77_ d_hr_ d_hM_ => ?_)⟩)
    · have cb := beg (w := v.toInt.toNat) (by omega) c_hs13_ c_hF18_ d_hM5_ d_hF18_
      have yd := eT d_e2_
      rw [← yd] at cb
      have L := check_loop (by omega) cb (RCH.tail (RCH_map (fun x : Int32 × mM => (x.1, (0 : Int32), x.2)) c_hL_50 (fun x y s => stC _ x y (by omega) s)) last) (RCH_mono d_hL_46 (fun x y s => stD _ _ x y (by omega) d_h11_ s)) (Or.inl (by dsimp only; omega)) (Or.inr (by dsimp only; omega))
      obtain ⟨l1, l2, -⟩ := L
      obtain ⟨g1, g2⟩ := rowD d_hM5_ d_hs20_ d_hF18_ (loop52 d_hL_46) d_hs30_ d_hF28_
      rw [d_hM_]
      exact ⟨fin kM g1 g2, by rw [c_hr_, d_hr_]; exact i32e l2⟩
    · have cb := beg (w := v.toInt.toNat) (by omega) c_hs13_ c_hF18_ d_hM5_ d_hF18_
      have yd := eT d_e2_
      rw [← yd] at cb
      have L := check_loop (by omega) cb (RCH.tail (RCH_map (fun x : Int32 × mM => (x.1, (0 : Int32), x.2)) c_hL_50 (fun x y s => stC _ x y (by omega) s)) last) (RCH_mono d_hL_46 (fun x y s => stD _ _ x y (by omega) d_h11_ s)) (Or.inl (by dsimp only; omega)) (Or.inl d_h32_)
      obtain ⟨l1, l2, -⟩ := L
      obtain ⟨g1, g2⟩ := rowD d_hM5_ d_hs20_ d_hF18_ (loop52 d_hL_46) d_hs39_ d_hF37_
      rw [d_hM_]
      exact ⟨fin kM g1 g2, by rw [c_hr_, d_hr_]; exact i32e l2⟩
    · have qi := is2x d_hs12_
      rw [zupN d_hM5_ (by simp)] at qi
      omega
  · have qh := x10has c_hs5_
    refine xE_SP_X12_check h2 (fun d_z1_ d_e2_ d_h3_ d_M4_ d_hM5_ _ => ⟨(fun d_hs12_ d_h11_ d_M14_ _ d_hF18_ d_hs20_ d_v4_46 d_hv0_46 d_hv1_46 d_v3_46 d_M_46 d_hL_46 _ d_hF_46 => ⟨(fun d_h23_ d_M24_ _ d_hF28_ d_hs30_ d_hr_ d_hM_ => ?_), (fun d_h23_ d_h32_ d_M33_ _ d_hF37_ d_hs39_ d_hr_ d_hM_ => ?_)⟩), (fun d_hs12_ d_M75_ _ d_hF79_ d_r74_ d_hs81_ d_h77_ d_hr_ d_hM_ => ?_)⟩)
    · have qi := is2x d_hs12_
      rw [zupN d_hM5_ (by simp)] at qi
      omega
    · have qi := is2x d_hs12_
      rw [zupN d_hM5_ (by simp)] at qi
      omega
    · refine ⟨fin (fun c k a b => ?_) (fun j hj h => ?_) ?_, i32e ?_⟩
      · rw [c_hM_, c_hF60_ c k (fun q => by unfold wR at a; simp only [S_c_X11_error, or_false] at q; omega)]
        exact c_hF52_ c k (fun q => by unfold wR at a; simp only [S_c_X5_clear, or_false] at q; omega)
      · rw [d_hM_, d_hF79_ _ _ (fun q => by simp only [S_c_X12_finding, or_false] at q; omega), zupN d_hM5_ (fun z => h z.2)]
      · rw [d_hM_, d_hF79_ _ _ (fun q => by simp only [S_c_X12_finding, or_false] at q; omega), zupE d_hM5_ rfl rfl]
        exact q0
      · have e := err_r c_hs62_ (by first | decide | simp | (dsimp only; omega))
        rw [c_hr_, d_hr_, e, d_h77_]
        decide
end
section
/-! the full relation -/
def RY (m : rf → Nat → Int32) : Prop := RXz m ∧ (m (12, 0, 0) 7).toInt = -1 ∧ RW 0 m (m (50, 0, 0)) ∧ (¬ (m (12, 0, 0) 3).toInt = 0 → RW 1 m (m (51, 0, 0))) ∧ SHR m m
/-- class cells, model cells -/
def cC (S : rf → Nat → Prop) : Prop := ∀ (c : rf) (k : Nat), S c k → ¬ (c.1 = 12 ∨ 50 ≤ c.1)
def cD (S : rf → Nat → Prop) : Prop := ∀ (c : rf) (k : Nat), S c k → c.1 = 12 ∨ 50 ≤ c.1
theorem wR_cls {r : Nat} (h : wR r) : ¬ (r = 12 ∨ 50 ≤ r) := by unfold wR at h; omega
/-- what a call's two halves tell of the memory behind both -/
theorem RY_of {S1 S2 : rf → Nat → Prop} {M M1 M2 : mM} (h : RY M.1) (hF1 : FR S1 M M1) (hF2 : FR S2 M1 M2) (s1 : cC S1) (s2 : cD S2) (hx : RXz M2.1) (hN : NW5 (M2.1 (50, 0, 0))) (hN1 : NW5 (M2.1 (51, 0, 0)))
    (h7 : (M2.1 (12, 0, 0) 7).toInt = -1) (hw : RW 0 M1.1 (M2.1 (50, 0, 0)))
    (hi : (M2.1 (12, 0, 0) 3 = M1.1 (12, 0, 0) 3 ∧ (∀ (c : rf) (k : Nat), wR c.1 → c.2.1 = 1 → ¬ S1 c k) ∧ ∀ k, ¬ S2 (51, 0, 0) k) ∨ (¬ (M2.1 (12, 0, 0) 3).toInt = 0 → RW 1 M1.1 (M2.1 (51, 0, 0)))) (hs : SHR M1.1 M2.1) : RY M2.1 := by
  have c2 : ∀ (c : rf) (k : Nat), ¬ (c.1 = 12 ∨ 50 ≤ c.1) → M2.1 c k = M1.1 c k := fun c k q => hF2 c k (fun z => q (s2 c k z))
  have c1 : ∀ (c : rf) (k : Nat), c.1 = 12 ∨ 50 ≤ c.1 → M1.1 c k = M.1 c k := fun c k q => hF1 c k (fun z => s1 c k z q)
  obtain ⟨-, -, -, h4, -⟩ := h
  refine ⟨hx, h7, RW_same hw hN (fun c k a _ => c2 c k (wR_cls a)), fun q => ?_, SHR_keep hs (fun c k a => c2 c k (by omega)) (fun _ _ _ => rfl)⟩
  refine RW_same ?_ hN1 (fun c k a _ => c2 c k (wR_cls a))
  rcases hi with ⟨i1, i2, i3⟩ | hi
  · have e51 : M2.1 (51, 0, 0) = M.1 (51, 0, 0) := funext fun k => by rw [hF2 _ _ (i3 k), c1 _ _ (by simp)]
    rw [i1, c1 _ _ (by simp)] at q
    rw [e51] at hN1 ⊢
    exact RW_same (h4 q) hN1 (fun c k a b => hF1 c k (i2 c k a b))
  · exact hi q
/-- a call that leaves all of it -/
theorem RY_fr {S1 S2 : rf → Nat → Prop} {M M1 M2 : mM} (h : RY M.1) (hF1 : FR S1 M M1) (hF2 : FR S2 M1 M2) (s1 : cC S1) (s2 : cD S2) (hx : RXz M2.1) (hN : NW5 (M2.1 (50, 0, 0))) (hN1 : NW5 (M2.1 (51, 0, 0)))
    (a1 : ∀ (c : rf) (k : Nat), wR c.1 ∨ c.1 = 6 → c.2.1 < 2 → ¬ S1 c k) (a2 : ∀ (c : rf) (k : Nat), c = (50, 0, 0) ∨ c = (51, 0, 0) ∨ (c = (12, 0, 0) ∧ (k = 3)) ∨ c.1 = 66 ∨ c.1 = 67 ∨ c.1 = 68 → ¬ S2 c k) (a34 : ∀ (c : rf) (k : Nat), c.1 = 6 ∨ c.1 = 34 → ¬ S1 c k) (h7 : (M2.1 (12, 0, 0) 7).toInt = -1) : RY M2.1 := by
  have c1 : ∀ (c : rf) (k : Nat), c.1 = 12 ∨ 50 ≤ c.1 → M1.1 c k = M.1 c k := fun c k q => hF1 c k (fun z => s1 c k z q)
  have e50 : M2.1 (50, 0, 0) = M.1 (50, 0, 0) := funext fun k => by rw [hF2 _ _ (a2 _ _ (Or.inl rfl)), c1 _ _ (by simp)]
  have h0 := h
  obtain ⟨-, -, h3, -, h5⟩ := h0
  refine RY_of h hF1 hF2 s1 s2 hx hN hN1 h7 ?_ (Or.inl ⟨hF2 _ _ (a2 _ _ (by simp)), fun c k a b => a1 c k (Or.inl a) (by omega), fun k => a2 _ _ (by simp)⟩) ?_
  · rw [e50] at hN ⊢
    exact RW_same h3 hN (fun c k a b => hF1 c k (a1 c k (Or.inl a) (by omega)))
  · exact SHR_keep h5 (fun c k a => hF1 c k (a34 c k a)) (fun c k a => by rw [hF2 c k (a2 c k (by omega)), c1 c k (by omega)])
end
section
/-! the unseen walker is put back -/
theorem UST_X12_findTold_3 {u : Int32} {Mz : mM} {v4_3 : Int32} {M_3 : mM} {v4_3y : Int32} {M_3y : mM} (h : ST_X12_findTold_3 u Mz v4_3 M_3 v4_3y M_3y) (h0 : (M_3.1 (12, 0, 0) 7).toInt = -1) : (M_3y.1 (12, 0, 0) 7).toInt = -1 := by
  refine xE_ST_X12_findTold_3 h (fun hv0_3 hv1_3 _ hF_3 h2_ z75_ h76_ z77_ h78_ j81_ h82_ M79_ hM80_ z85_ h86_ hq_v4_3y hM_ => ?_)
  · rw [hM_]
    have u1_ : (M79_.1 (12, 0, 0) 7).toInt = -1 := by rw [zupN hM80_ (by simp)]; exact h0
    exact u1_
theorem USP_X12_findTold {v : Int32} {u : Int32} {t : Int32} {Mz : mM} {M_ : mM} (h : SP_X12_findTold v u t Mz M_) (h0 : (Mz.1 (12, 0, 0) 7).toInt = -1) : (M_.1 (12, 0, 0) 7).toInt = -1 := by
  refine xE_SP_X12_findTold h (fun v4_3 hv0_3 hv1_3 M_3 hL_3 _ hF_3 h2_ M3_ hM4_ v4_39 hv0_39 hv1_39 M_39 hL_39 _ hF_39 h8_ M9_ hM10_ hM_ => ?_)
  · rw [hM_]
    have u1_ := rind hL_3 (fun z_ => (z_.2.1 (12, 0, 0) 7).toInt = -1) h0 (fun x_ z_ h1_ h2_ => UST_X12_findTold_3 h2_ h1_)
    have u4_ : (M9_.1 (12, 0, 0) 7).toInt = -1 := by rw [zupE hM10_ rfl rfl]; exact il_m1
    exact u4_
theorem UST_X12_spots_80 {v : Int32} {u : Int32} {Mz : mM} {v6_80 : Int32} {v5_80 : Int32} {M_80 : mM} {v6_80y : Int32} {v5_80y : Int32} {M_80y : mM} (h : ST_X12_spots_80 v u Mz v6_80 v5_80 M_80 v6_80y v5_80y M_80y) (h0 : (M_80.1 (12, 0, 0) 7).toInt = -1) : (M_80y.1 (12, 0, 0) 7).toInt = -1 := by
  refine xE_ST_X12_spots_80 h (fun hv0_80 _ hF_80 j39_ h40_ z37_ e38_ h41_ h42_ h43_ z100_ h101_ z102_ h103_ j106_ h107_ z104_ e105_ r108_ hs112_ h111_ => ⟨(fun h113_ z114_ h115_ hq_v6_80y hq_v5_80y hM_ => ?_), (fun h113_ z116_ h117_ z118_ h119_ z120_ h121_ z122_ h123_ j126_ h127_ z124_ e125_ M128_ _ hF132_ hs134_ z136_ h137_ hq_v6_80y hq_v5_80y hM_ => ?_)⟩)
  · rw [hM_]
    exact h0
  · rw [hM_]
    have u1_ : (M128_.1 (12, 0, 0) 7).toInt = -1 := USP_X12_findTold hs134_ h0
    exact u1_
theorem USP_X12_spots {v : Int32} {u : Int32} {t : Int32} {s : Int32} {Mz : mM} {r_ : Int32} {M_ : mM} (h : SP_X12_spots v u t s Mz r_ M_) (h0 : (Mz.1 (12, 0, 0) 7).toInt = -1) : (M_.1 (12, 0, 0) 7).toInt = -1 := by
  refine xE_SP_X12_spots h ⟨(fun hs5_ h4_ => ⟨(fun hs11_ h10_ => ⟨(fun hs17_ h16_ => ⟨(fun hs23_ h22_ j27_ h28_ z25_ e26_ => ⟨(fun h29_ => ⟨(fun hs34_ h33_ v6_80 hv0_80 v5_80 M_80 hL_80 _ hF_80 j39_ h40_ z37_ e38_ h41_ h42_ h43_ r44_ hs48_ => ⟨(fun h49_ v8_169 hv0_169 v7_169 v6_169 hL_169 j53_ h54_ z51_ e52_ h55_ h56_ z57_ h58_ h59_ => ⟨(fun h60_ hr_ hM_ => ?_), (fun h60_ hr_ hM_ => ?_)⟩), (fun h49_ M92_ _ hF96_ r91_ hs98_ h94_ hr_ hM_ => ?_)⟩), (fun hs34_ M140_ _ hF144_ r139_ hs146_ h142_ hr_ hM_ => ?_)⟩), (fun h29_ M148_ _ hF152_ r147_ hs154_ h150_ hr_ hM_ => ?_)⟩), (fun hs23_ h22_ M157_ _ hF161_ r156_ hs163_ h159_ hr_ hM_ => ?_)⟩), (fun hs17_ h16_ M166_ _ hF170_ r165_ hs172_ h168_ hr_ hM_ => ?_)⟩), (fun hs11_ h10_ M175_ _ hF179_ r174_ hs181_ h177_ hr_ hM_ => ?_)⟩), (fun hs5_ M184_ _ hF188_ r183_ hs190_ h186_ hr_ hM_ => ?_)⟩
  · rw [hM_]
    have u1_ := rind hL_80 (fun z_ => (z_.2.2.1 (12, 0, 0) 7).toInt = -1) h0 (fun x_ z_ h1_ h2_ => UST_X12_spots_80 h2_ h1_)
    exact u1_
  · rw [hM_]
    have u1_ := rind hL_80 (fun z_ => (z_.2.2.1 (12, 0, 0) 7).toInt = -1) h0 (fun x_ z_ h1_ h2_ => UST_X12_spots_80 h2_ h1_)
    exact u1_
  · rw [hM_]
    have u1_ := rind hL_80 (fun z_ => (z_.2.2.1 (12, 0, 0) 7).toInt = -1) h0 (fun x_ z_ h1_ h2_ => UST_X12_spots_80 h2_ h1_)
    have u2_ : (M92_.1 (12, 0, 0) 7).toInt = -1 := by rw [hF96_ _ _ (by simp [S_c_X12_finding])]; exact u1_
    exact u2_
  · rw [hM_]
    have u1_ : (M140_.1 (12, 0, 0) 7).toInt = -1 := by rw [hF144_ _ _ (by simp [S_c_X12_finding])]; exact h0
    exact u1_
  · rw [hM_]
    have u1_ : (M148_.1 (12, 0, 0) 7).toInt = -1 := by rw [hF152_ _ _ (by simp [S_c_X12_finding])]; exact h0
    exact u1_
  · rw [hM_]
    have u1_ : (M157_.1 (12, 0, 0) 7).toInt = -1 := by rw [hF161_ _ _ (by simp [S_c_X12_finding])]; exact h0
    exact u1_
  · rw [hM_]
    have u1_ : (M166_.1 (12, 0, 0) 7).toInt = -1 := by rw [hF170_ _ _ (by simp [S_c_X12_finding])]; exact h0
    exact u1_
  · rw [hM_]
    have u1_ : (M175_.1 (12, 0, 0) 7).toInt = -1 := by rw [hF179_ _ _ (by simp [S_c_X12_finding])]; exact h0
    exact u1_
  · rw [hM_]
    have u1_ : (M184_.1 (12, 0, 0) 7).toInt = -1 := by rw [hF188_ _ _ (by simp [S_c_X12_finding])]; exact h0
    exact u1_
theorem USP_X12_posts {v : Int32} {u : Int32} {t : Int32} {s : Int32} {Mz : mM} {r_ : Int32} {M_ : mM} (h : SP_X12_posts v u t s Mz r_ M_) (h0 : (Mz.1 (12, 0, 0) 7).toInt = -1) : (M_.1 (12, 0, 0) 7).toInt = -1 := by
  refine xE_SP_X12_posts h ⟨(fun hs5_ h4_ => ⟨(fun hs11_ h10_ => ⟨(fun hs17_ h16_ => ⟨(fun hs23_ h22_ j27_ h28_ z25_ e26_ => ⟨(fun h29_ M31_ _ hF35_ r30_ hs37_ h33_ hr_ hM_ => ?_), (fun h29_ j40_ h41_ z38_ e39_ => ⟨(fun h42_ => ⟨(fun hs47_ h46_ => ⟨(fun hs53_ h52_ M55_ hM56_ v5_98 hv0_98 M_98 hL_98 _ hF_98 j64_ h65_ z62_ e63_ h66_ h67_ h68_ M69_ hM70_ v6_204 hv0_204 v5_204 hL_204 j78_ h79_ z76_ e77_ h80_ h81_ z82_ h83_ h84_ => ⟨(fun h85_ => ⟨(fun h86_ hr_ hM_ => ?_), (fun h86_ _ r87_ hs91_ hr_ hM_ => ?_)⟩), (fun h85_ _ M93_ _ hF97_ r92_ hs99_ h95_ hr_ hM_ => ?_)⟩), (fun hs53_ M222_ _ hF226_ r221_ hs228_ h224_ hr_ hM_ => ?_)⟩), (fun hs47_ M232_ _ hF236_ r231_ hs238_ h234_ hr_ hM_ => ?_)⟩), (fun h42_ M240_ _ hF244_ r239_ hs246_ h242_ hr_ hM_ => ?_)⟩)⟩), (fun hs23_ h22_ M249_ _ hF253_ r248_ hs255_ h251_ hr_ hM_ => ?_)⟩), (fun hs17_ h16_ M258_ _ hF262_ r257_ hs264_ h260_ hr_ hM_ => ?_)⟩), (fun hs11_ h10_ M267_ _ hF271_ r266_ hs273_ h269_ hr_ hM_ => ?_)⟩), (fun hs5_ M276_ _ hF280_ r275_ hs282_ h278_ hr_ hM_ => ?_)⟩
  · rw [hM_]
    have u1_ : (M31_.1 (12, 0, 0) 7).toInt = -1 := by rw [hF35_ _ _ (by simp [S_c_X12_finding])]; exact h0
    exact u1_
  · rw [hM_]
    have u3_ : (M69_.1 (12, 0, 0) 7).toInt = -1 := by rw [zupE hM70_ rfl rfl]; exact il_m1
    exact u3_
  · rw [hM_]
    have u3_ : (M69_.1 (12, 0, 0) 7).toInt = -1 := by rw [zupE hM70_ rfl rfl]; exact il_m1
    exact u3_
  · rw [hM_]
    have u3_ : (M69_.1 (12, 0, 0) 7).toInt = -1 := by rw [zupE hM70_ rfl rfl]; exact il_m1
    have u4_ : (M93_.1 (12, 0, 0) 7).toInt = -1 := by rw [hF97_ _ _ (by simp [S_c_X12_finding])]; exact u3_
    exact u4_
  · rw [hM_]
    have u1_ : (M222_.1 (12, 0, 0) 7).toInt = -1 := by rw [hF226_ _ _ (by simp [S_c_X12_finding])]; exact h0
    exact u1_
  · rw [hM_]
    have u1_ : (M232_.1 (12, 0, 0) 7).toInt = -1 := by rw [hF236_ _ _ (by simp [S_c_X12_finding])]; exact h0
    exact u1_
  · rw [hM_]
    have u1_ : (M240_.1 (12, 0, 0) 7).toInt = -1 := by rw [hF244_ _ _ (by simp [S_c_X12_finding])]; exact h0
    exact u1_
  · rw [hM_]
    have u1_ : (M249_.1 (12, 0, 0) 7).toInt = -1 := by rw [hF253_ _ _ (by simp [S_c_X12_finding])]; exact h0
    exact u1_
  · rw [hM_]
    have u1_ : (M258_.1 (12, 0, 0) 7).toInt = -1 := by rw [hF262_ _ _ (by simp [S_c_X12_finding])]; exact h0
    exact u1_
  · rw [hM_]
    have u1_ : (M267_.1 (12, 0, 0) 7).toInt = -1 := by rw [hF271_ _ _ (by simp [S_c_X12_finding])]; exact h0
    exact u1_
  · rw [hM_]
    have u1_ : (M276_.1 (12, 0, 0) 7).toInt = -1 := by rw [hF280_ _ _ (by simp [S_c_X12_finding])]; exact h0
    exact u1_
end
