/-! move -/
theorem cp_run {M M1 : mM} {c0 c1 : rf} {u s q : Int32} (h : M1 = cp M c0 c1 u.toNatClampNeg s.toNatClampNeg q.toNatClampNeg) (hu : 0 ≤ u.toInt) (hs : 0 ≤ s.toInt) (hq : 0 ≤ q.toInt) : (∀ (c : rf) (k : Nat), ¬ c = c1 → M1.1 c k = M.1 c k) ∧ ∀ k : Nat, ((s.toInt ≤ (k : Int) ∧ (k : Int) < s.toInt + q.toInt) ∧ M1.1 c1 k = M.1 c0 (u.toInt.toNat + (k - s.toInt.toNat))) ∨ (¬ (s.toInt ≤ (k : Int) ∧ (k : Int) < s.toInt + q.toInt) ∧ M1.1 c1 k = M.1 c1 k) := by
  have a1 := clI (x := u) rfl hu
  have a2 := clI (x := s) rfl hs
  have a3 := clI (x := q) rfl hq
  refine ⟨fun c k hc => by rw [h, cp_other _ _ _ hc], fun k => ?_⟩
  by_cases e : s.toInt ≤ (k : Int) ∧ (k : Int) < s.toInt + q.toInt
  · left
    refine ⟨e, ?_⟩
    rw [h, cp_row]
    unfold va_cpy
    rw [if_pos ⟨by omega, by omega⟩, show u.toNatClampNeg + (k - s.toNatClampNeg) = u.toInt.toNat + (k - s.toInt.toNat) by omega]
  · right
    refine ⟨e, ?_⟩
    rw [h, cp_row]
    unfold va_cpy
    rw [if_neg (fun z => e ⟨by omega, by omega⟩)]
theorem move127 {v u q : Int32} {D Da : mM} {w : Int32 × mM} (h : RCH (fun x y : Int32 × mM => ST_X12_move_127 v u q D x.1 x.2 y.1 y.2) ((0 : Int32), Da) w) (hv : 0 ≤ v.toInt) (hu : 0 ≤ u.toInt) : (∀ (c : rf) (k : Nat), ¬ c = (69, 0, 0) → w.2.1 c k = Da.1 c k) ∧ ∀ k : Nat, (k : Int) < w.1.toInt → w.2.1 (69, 0, 0) k = Da.1 (68, 0, 0) (24 * v.toInt.toNat + u.toInt.toNat + k) := by
  have q0 := il_0
  have g := rind h (fun z => 0 ≤ z.1.toInt ∧ (∀ (c : rf) (k : Nat), ¬ c = (69, 0, 0) → z.2.1 c k = Da.1 c k) ∧ ∀ k : Nat, (k : Int) < z.1.toInt → z.2.1 (69, 0, 0) k = Da.1 (68, 0, 0) (24 * v.toInt.toNat + u.toInt.toNat + k)) ⟨by dsimp only; omega, fun _ _ _ => rfl, fun k hk => by dsimp only at hk; omega⟩ (fun x z p st => by
    (try dsimp only at p st ⊢)
    obtain ⟨p1, p2, p3⟩ := p
    refine xE_ST_X12_move_127 st (fun k_hv0_127 _ k_hF_127 k_h116_ k_z137_ k_h138_ k_z139_ k_h140_ k_z141_ k_h142_ k_j145_ k_h146_ k_z143_ k_e144_ k_j149_ k_h150_ k_M147_ k_hM148_ k_z153_ k_h154_ k_hq_v6_127y k_hM_ => ?_)
    have e := eT k_hq_v6_127y
    rw [k_hM_]
    refine ⟨by omega, fun c k q1 => ?_, fun k hk => ?_⟩
    · rw [zupN k_hM148_ (fun z => q1 z.1)]; exact p2 c k q1
    · by_cases e2 : (k : Int) = x.1.toInt
      · rw [zupE k_hM148_ rfl (by omega), k_e144_, p2 _ _ (by simp), show k_j145_ = 24 * v.toInt.toNat + u.toInt.toNat + k by omega]
      · rw [zupN k_hM148_ (fun z => by have := z.2; omega)]; exact p3 k (by omega))
  exact g.2
theorem move164 {t s q : Int32} {D Da : mM} {w : Int32 × mM} (h : RCH (fun x y : Int32 × mM => ST_X12_move_164 t s q D x.1 x.2 y.1 y.2) ((0 : Int32), Da) w) (ht : 0 ≤ t.toInt) (hs : 0 ≤ s.toInt) (hw : w.1.toInt ≤ q.toInt) : (∀ (c : rf) (k : Nat), ¬ c = (68, 0, 0) → w.2.1 c k = Da.1 c k) ∧ (∀ k : Nat, ¬ (24 * t.toInt.toNat + s.toInt.toNat ≤ k ∧ (k : Int) < 24 * t.toInt + s.toInt + q.toInt) → w.2.1 (68, 0, 0) k = Da.1 (68, 0, 0) k) ∧ ∀ k : Nat, (k : Int) < w.1.toInt → w.2.1 (68, 0, 0) (24 * t.toInt.toNat + s.toInt.toNat + k) = Da.1 (69, 0, 0) k := by
  have q0 := il_0
  have g := rind h (fun z => 0 ≤ z.1.toInt ∧ (∀ (c : rf) (k : Nat), ¬ c = (68, 0, 0) → z.2.1 c k = Da.1 c k) ∧ (∀ k : Nat, ¬ (24 * t.toInt.toNat + s.toInt.toNat ≤ k ∧ (k : Int) < 24 * t.toInt + s.toInt + q.toInt) → z.2.1 (68, 0, 0) k = Da.1 (68, 0, 0) k) ∧ ∀ k : Nat, (k : Int) < z.1.toInt → z.2.1 (68, 0, 0) (24 * t.toInt.toNat + s.toInt.toNat + k) = Da.1 (69, 0, 0) k) ⟨by dsimp only; omega, fun _ _ _ => rfl, fun _ _ => rfl, fun k hk => by dsimp only at hk; omega⟩ (fun x z p st => by
    (try dsimp only at p st ⊢)
    obtain ⟨p1, p2, p3, p4⟩ := p
    refine xE_ST_X12_move_164 st (fun k_hv0_164 _ k_hF_164 k_h118_ k_z119_ k_h120_ k_z121_ k_h122_ k_z123_ k_h124_ k_j127_ k_h128_ k_z125_ k_e126_ k_j131_ k_h132_ k_M129_ k_hM130_ k_z135_ k_h136_ k_hq_v6_164y k_hM_ => ?_)
    have e := eT k_hq_v6_164y
    rw [k_hM_]
    refine ⟨by omega, fun c k q1 => ?_, fun k hk => ?_, fun k hk => ?_⟩
    · rw [zupN k_hM130_ (fun z => q1 z.1)]; exact p2 c k q1
    · rw [zupN k_hM130_ (fun z => hk (by have := z.2; omega))]; exact p3 k hk
    · by_cases e2 : (k : Int) = x.1.toInt
      · rw [zupE k_hM130_ rfl (by omega), k_e126_, p2 _ _ (by simp), show k_j127_ = k by omega]
      · rw [zupN k_hM130_ (fun z => by have := z.2; omega)]; exact p4 k (by omega))
  exact g.2
theorem sh_34 {v u t s q : Int32} {M M1 D D2 : mM} {r1 r2 : Int32} (h1 : SP_X11_move v u t s q M r1 M1) (h2 : SP_X12_move v u t s q D r2 D2) (hS : SHR M.1 D.1) (hD : InvD D) : SHR M1.1 D2.1 := by
  have q0 := il_0
  have q1 := il_1
  have zb := sz_b hD
  have sw := fun (w : Nat) (hw : w < 4) => And.intro (eT (hS w hw).1) (eT (hS w hw).2.1)
  refine xE_SP_X11_move h1 ⟨(fun c_hs5_ c_h4_ => ⟨(fun c_hs11_ c_h10_ c_j13_ c_h14_ c_h15_ c_j16_ c_h17_ c_h18_ c_r19_ c_hs23_ c_h22_ => ⟨(fun c_h24_ c_M26_ _ c_hF30_ c_r25_ c_hs32_ c_hr_ c_hM_ => ?_), (fun c_h24_ c_r33_ c_hs37_ c_h36_ => ⟨(fun c_h38_ c_z39_ c_e40_ c_z41_ c_e42_ => ⟨(fun c_h43_ => ⟨(fun c_hs48_ c_h47_ => ⟨(fun c_hs54_ c_h53_ c_M56_ c_hM57_ c_hr_ c_hM_ => ?_), (fun c_hs54_ c_M62_ _ c_hF66_ c_r61_ c_hs68_ c_hr_ c_hM_ => ?_)⟩), (fun c_hs48_ c_M71_ _ c_hF75_ c_r70_ c_hs77_ c_hr_ c_hM_ => ?_)⟩), (fun c_h43_ c_M79_ _ c_hF83_ c_r78_ c_hs85_ c_hr_ c_hM_ => ?_)⟩), (fun c_h38_ c_M87_ _ c_hF91_ c_r86_ c_hs93_ c_hr_ c_hM_ => ?_)⟩)⟩), (fun c_hs11_ c_h10_ c_M96_ _ c_hF100_ c_r95_ c_hs102_ c_hr_ c_hM_ => ?_)⟩), (fun c_hs5_ c_h4_ c_M105_ _ c_hF109_ c_r104_ c_hs111_ c_hr_ c_hM_ => ?_)⟩
  ·
    obtain rfl : c_j13_ = v.toInt.toNat := by omega
    obtain rfl : c_j16_ = t.toInt.toNat := by omega
    have sv := sw v.toInt.toNat (by omega)
    have zbv := zb v.toInt.toNat
    have st := sw t.toInt.toNat (by omega)
    have zbt := zb t.toInt.toNat
    have mihs23_ := x6miss c_hs23_
    refine xE_SP_X12_move h2 ⟨(fun d_hs5_ d_h4_ => ⟨(fun d_hs11_ d_h10_ d_j15_ d_h16_ d_z13_ d_e14_ => ⟨(fun d_h17_ d_M19_ _ d_hF23_ d_r18_ d_hs25_ d_h21_ d_hr_ d_hM_ => ?_), (fun d_h17_ d_j28_ d_h29_ d_z26_ d_e27_ => ⟨(fun d_h30_ d_j33_ d_h34_ d_z31_ d_e32_ d_j37_ d_h38_ d_z35_ d_e36_ => ⟨(fun d_h39_ => ⟨(fun d_h40_ d_M42_ _ d_hF46_ d_r41_ d_hs48_ d_h44_ d_hr_ d_hM_ => ?_), (fun d_h40_ => ⟨(fun d_h49_ d_M51_ _ d_hF55_ d_r50_ d_hs57_ d_h53_ d_hr_ d_hM_ => ?_), (fun d_h49_ => ⟨(fun d_h58_ d_M60_ _ d_hF64_ d_r59_ d_hs66_ d_h62_ d_hr_ d_hM_ => ?_), (fun d_h58_ d_w67_ d_h68_ d_h69_ d_w70_ d_h71_ d_h72_ d_w73_ d_h74_ d_h75_ d_j78_ d_h79_ d_z76_ d_e77_ d_h80_ d_w81_ d_h82_ d_h83_ d_z84_ d_h85_ => ⟨(fun d_h86_ d_M88_ _ d_hF92_ d_r87_ d_hs94_ d_h90_ d_hr_ d_hM_ => ?_), (fun d_h86_ d_w95_ d_h96_ d_h97_ d_w98_ d_h99_ d_h100_ d_w101_ d_h102_ d_h103_ d_j106_ d_h107_ d_z104_ d_e105_ d_h108_ d_w109_ d_h110_ d_h111_ d_z112_ d_h113_ => ⟨(fun d_h114_ d_v6_127 d_hv0_127 d_M_127 d_hL_127 _ d_hF_127 d_h116_ d_v6_164 d_hv0_164 d_M_164 d_hL_164 _ d_hF_164 d_h118_ d_hr_ d_hM_ => ?_), (fun d_h114_ d_M156_ _ d_hF160_ d_r155_ d_hs162_ d_h158_ d_hr_ d_hM_ => ?_)⟩)⟩)⟩)⟩)⟩), (fun d_h39_ d_M164_ _ d_hF168_ d_r163_ d_hs170_ d_h166_ d_hr_ d_hM_ => ?_)⟩), (fun d_h30_ d_M172_ _ d_hF176_ d_r171_ d_hs178_ d_h174_ d_hr_ d_hM_ => ?_)⟩)⟩), (fun d_hs11_ d_h10_ d_M181_ _ d_hF185_ d_r180_ d_hs187_ d_h183_ d_hr_ d_hM_ => ?_)⟩), (fun d_hs5_ d_h4_ d_M190_ _ d_hF194_ d_r189_ d_hs196_ d_h192_ d_hr_ d_hM_ => ?_)⟩
    · skip
      exact shE hS c_hF30_ c_hM_ d_hF23_ d_hM_
    · skip
      exact shE hS c_hF30_ c_hM_ d_hF46_ d_hM_
    · skip
      exact shE hS c_hF30_ c_hM_ d_hF55_ d_hM_
    · skip
      exact shE hS c_hF30_ c_hM_ d_hF64_ d_hM_
    · skip
      exact shE hS c_hF30_ c_hM_ d_hF92_ d_hM_
    · skip
      obtain rfl : d_j15_ = v.toInt.toNat := by omega
      obtain rfl : d_j33_ = v.toInt.toNat := by omega
      obtain rfl : d_j78_ = v.toInt.toNat := by omega
      obtain rfl : d_j28_ = t.toInt.toNat := by omega
      obtain rfl : d_j37_ = t.toInt.toNat := by omega
      obtain rfl : d_j106_ = t.toInt.toNat := by omega
      have yde14_ := eT d_e14_
      have yde27_ := eT d_e27_
      have yde32_ := eT d_e32_
      have yde36_ := eT d_e36_
      have yde77_ := eT d_e77_
      have yde105_ := eT d_e105_
      omega
    · skip
      exact shE hS c_hF30_ c_hM_ d_hF160_ d_hM_
    · skip
      exact shE hS c_hF30_ c_hM_ d_hF168_ d_hM_
    · skip
      exact shE hS c_hF30_ c_hM_ d_hF176_ d_hM_
    · skip
      exact shE hS c_hF30_ c_hM_ d_hF185_ d_hM_
    · skip
      exact shE hS c_hF30_ c_hM_ d_hF194_ d_hM_
  ·
    obtain rfl : c_j13_ = v.toInt.toNat := by omega
    obtain rfl : c_j16_ = t.toInt.toNat := by omega
    have sv := sw v.toInt.toNat (by omega)
    have zbv := zb v.toInt.toNat
    have st := sw t.toInt.toNat (by omega)
    have zbt := zb t.toInt.toNat
    have mihs23_ := x6miss c_hs23_
    have mihs37_ := x6miss c_hs37_
    have ruhs48_ := x6runY c_hs48_
    have ruhs54_ := x6runY c_hs54_
    have yce40_ := eT c_e40_
    have yce42_ := eT c_e42_
    refine xE_SP_X12_move h2 ⟨(fun d_hs5_ d_h4_ => ⟨(fun d_hs11_ d_h10_ d_j15_ d_h16_ d_z13_ d_e14_ => ⟨(fun d_h17_ d_M19_ _ d_hF23_ d_r18_ d_hs25_ d_h21_ d_hr_ d_hM_ => ?_), (fun d_h17_ d_j28_ d_h29_ d_z26_ d_e27_ => ⟨(fun d_h30_ d_j33_ d_h34_ d_z31_ d_e32_ d_j37_ d_h38_ d_z35_ d_e36_ => ⟨(fun d_h39_ => ⟨(fun d_h40_ d_M42_ _ d_hF46_ d_r41_ d_hs48_ d_h44_ d_hr_ d_hM_ => ?_), (fun d_h40_ => ⟨(fun d_h49_ d_M51_ _ d_hF55_ d_r50_ d_hs57_ d_h53_ d_hr_ d_hM_ => ?_), (fun d_h49_ => ⟨(fun d_h58_ d_M60_ _ d_hF64_ d_r59_ d_hs66_ d_h62_ d_hr_ d_hM_ => ?_), (fun d_h58_ d_w67_ d_h68_ d_h69_ d_w70_ d_h71_ d_h72_ d_w73_ d_h74_ d_h75_ d_j78_ d_h79_ d_z76_ d_e77_ d_h80_ d_w81_ d_h82_ d_h83_ d_z84_ d_h85_ => ⟨(fun d_h86_ d_M88_ _ d_hF92_ d_r87_ d_hs94_ d_h90_ d_hr_ d_hM_ => ?_), (fun d_h86_ d_w95_ d_h96_ d_h97_ d_w98_ d_h99_ d_h100_ d_w101_ d_h102_ d_h103_ d_j106_ d_h107_ d_z104_ d_e105_ d_h108_ d_w109_ d_h110_ d_h111_ d_z112_ d_h113_ => ⟨(fun d_h114_ d_v6_127 d_hv0_127 d_M_127 d_hL_127 _ d_hF_127 d_h116_ d_v6_164 d_hv0_164 d_M_164 d_hL_164 _ d_hF_164 d_h118_ d_hr_ d_hM_ => ?_), (fun d_h114_ d_M156_ _ d_hF160_ d_r155_ d_hs162_ d_h158_ d_hr_ d_hM_ => ?_)⟩)⟩)⟩)⟩)⟩), (fun d_h39_ d_M164_ _ d_hF168_ d_r163_ d_hs170_ d_h166_ d_hr_ d_hM_ => ?_)⟩), (fun d_h30_ d_M172_ _ d_hF176_ d_r171_ d_hs178_ d_h174_ d_hr_ d_hM_ => ?_)⟩)⟩), (fun d_hs11_ d_h10_ d_M181_ _ d_hF185_ d_r180_ d_hs187_ d_h183_ d_hr_ d_hM_ => ?_)⟩), (fun d_hs5_ d_h4_ d_M190_ _ d_hF194_ d_r189_ d_hs196_ d_h192_ d_hr_ d_hM_ => ?_)⟩
    · skip
      obtain rfl : d_j15_ = v.toInt.toNat := by omega
      have yde14_ := eT d_e14_
      omega
    · skip
      obtain rfl : d_j15_ = v.toInt.toNat := by omega
      obtain rfl : d_j33_ = v.toInt.toNat := by omega
      obtain rfl : d_j28_ = t.toInt.toNat := by omega
      obtain rfl : d_j37_ = t.toInt.toNat := by omega
      have yde14_ := eT d_e14_
      have yde27_ := eT d_e27_
      have yde32_ := eT d_e32_
      have yde36_ := eT d_e36_
      omega
    · skip
      obtain rfl : d_j15_ = v.toInt.toNat := by omega
      obtain rfl : d_j33_ = v.toInt.toNat := by omega
      obtain rfl : d_j28_ = t.toInt.toNat := by omega
      obtain rfl : d_j37_ = t.toInt.toNat := by omega
      have yde14_ := eT d_e14_
      have yde27_ := eT d_e27_
      have yde32_ := eT d_e32_
      have yde36_ := eT d_e36_
      omega
    · skip
      obtain rfl : d_j15_ = v.toInt.toNat := by omega
      obtain rfl : d_j33_ = v.toInt.toNat := by omega
      obtain rfl : d_j28_ = t.toInt.toNat := by omega
      obtain rfl : d_j37_ = t.toInt.toNat := by omega
      have yde14_ := eT d_e14_
      have yde27_ := eT d_e27_
      have yde32_ := eT d_e32_
      have yde36_ := eT d_e36_
      omega
    · skip
      obtain rfl : d_j15_ = v.toInt.toNat := by omega
      obtain rfl : d_j33_ = v.toInt.toNat := by omega
      obtain rfl : d_j78_ = v.toInt.toNat := by omega
      obtain rfl : d_j28_ = t.toInt.toNat := by omega
      obtain rfl : d_j37_ = t.toInt.toNat := by omega
      have yde14_ := eT d_e14_
      have yde27_ := eT d_e27_
      have yde32_ := eT d_e32_
      have yde36_ := eT d_e36_
      have yde77_ := eT d_e77_
      omega
    · skip
      obtain rfl : d_j15_ = v.toInt.toNat := by omega
      obtain rfl : d_j33_ = v.toInt.toNat := by omega
      obtain rfl : d_j78_ = v.toInt.toNat := by omega
      obtain rfl : d_j28_ = t.toInt.toNat := by omega
      obtain rfl : d_j37_ = t.toInt.toNat := by omega
      obtain rfl : d_j106_ = t.toInt.toNat := by omega
      have yde14_ := eT d_e14_
      have yde27_ := eT d_e27_
      have yde32_ := eT d_e32_
      have yde36_ := eT d_e36_
      have yde77_ := eT d_e77_
      have yde105_ := eT d_e105_
      have run := cp_run c_hM57_ (by omega) (by omega) (by omega)
      obtain ⟨g1, g2⟩ := run
      have m1 := move127 d_hL_127 (by omega) (by omega)
      obtain ⟨a1, a2⟩ := m1
      have q164 : d_v6_164.toInt ≤ q.toInt := by
        have g := rind d_hL_164 (fun z => z.1.toInt ≤ q.toInt) (by dsimp only; omega) (fun x z pp st => by
          (try dsimp only at pp st ⊢)
          refine xE_ST_X12_move_164 st (fun k_hv0_164 _ k_hF_164 k_h118_ k_z119_ k_h120_ k_z121_ k_h122_ k_z123_ k_h124_ k_j127_ k_h128_ k_z125_ k_e126_ k_j131_ k_h132_ k_M129_ k_hM130_ k_z135_ k_h136_ k_hq_v6_164y k_hM_ => ?_)
          have e := eT k_hq_v6_164y
          omega)
        exact g
      have m2 := move164 d_hL_164 (by omega) (by omega) q164
      obtain ⟨b1, b2, b3⟩ := m2
      intro w hw
      obtain ⟨w1, w2, w3⟩ := hS w hw
      have zw := zb w
      have cc : ∀ (c : rf) (k : Nat), ¬ c = (34, 0, t.toInt.toNat) → M1.1 c k = M.1 c k := fun c k hc => by rw [c_hM_]; exact g1 c k hc
      have dd : ∀ (c : rf) (k : Nat), ¬ c = (68, 0, 0) → ¬ c = (69, 0, 0) → D2.1 c k = D.1 c k := fun c k h8 h9 => by rw [d_hM_, b1 c k h8, a1 c k h9]
      rw [cc _ _ (cne (by omega)), cc (6, 0, w) 1 (cne (by omega)), dd _ _ (cne (by omega)) (cne (by omega)), dd (67, 0, 0) w (cne (by omega)) (cne (by omega))]
      refine ⟨w1, w2, fun i hi => ?_⟩
      by_cases e : w = t.toInt.toNat
      · subst e
        rcases g2 i with ⟨r1, r2⟩ | ⟨r1, r2⟩
        · rw [c_hM_, r2, d_hM_, show 24 * t.toInt.toNat + i = 24 * t.toInt.toNat + s.toInt.toNat + (i - s.toInt.toNat) by omega, b3 _ (by dsimp only; omega), a2 _ (by dsimp only; omega), show 24 * v.toInt.toNat + u.toInt.toNat + (i - s.toInt.toNat) = 24 * v.toInt.toNat + (u.toInt.toNat + (i - s.toInt.toNat)) by omega]
          exact (hS v.toInt.toNat (by omega)).2.2 _ (by omega)
        · rw [c_hM_, r2, d_hM_, b2 _ (fun z => by omega), a1 _ _ (by simp)]
          exact w3 i hi
      · rw [cc _ _ (fun z => e (congrArg (fun c : rf => c.2.2) z)), d_hM_, b2 _ (fun z => by omega), a1 _ _ (by simp)]
        exact w3 i hi
    · skip
      obtain rfl : d_j15_ = v.toInt.toNat := by omega
      obtain rfl : d_j33_ = v.toInt.toNat := by omega
      obtain rfl : d_j78_ = v.toInt.toNat := by omega
      obtain rfl : d_j28_ = t.toInt.toNat := by omega
      obtain rfl : d_j37_ = t.toInt.toNat := by omega
      obtain rfl : d_j106_ = t.toInt.toNat := by omega
      have yde14_ := eT d_e14_
      have yde27_ := eT d_e27_
      have yde32_ := eT d_e32_
      have yde36_ := eT d_e36_
      have yde77_ := eT d_e77_
      have yde105_ := eT d_e105_
      omega
    · skip
      obtain rfl : d_j15_ = v.toInt.toNat := by omega
      obtain rfl : d_j33_ = v.toInt.toNat := by omega
      obtain rfl : d_j28_ = t.toInt.toNat := by omega
      obtain rfl : d_j37_ = t.toInt.toNat := by omega
      have yde14_ := eT d_e14_
      have yde27_ := eT d_e27_
      have yde32_ := eT d_e32_
      have yde36_ := eT d_e36_
      omega
    · skip
      obtain rfl : d_j15_ = v.toInt.toNat := by omega
      obtain rfl : d_j28_ = t.toInt.toNat := by omega
      have yde14_ := eT d_e14_
      have yde27_ := eT d_e27_
      omega
    · skip
      omega
    · skip
      omega
  ·
    obtain rfl : c_j13_ = v.toInt.toNat := by omega
    obtain rfl : c_j16_ = t.toInt.toNat := by omega
    have sv := sw v.toInt.toNat (by omega)
    have zbv := zb v.toInt.toNat
    have st := sw t.toInt.toNat (by omega)
    have zbt := zb t.toInt.toNat
    have mihs23_ := x6miss c_hs23_
    have mihs37_ := x6miss c_hs37_
    have ruhs48_ := x6runY c_hs48_
    have ruhs54_ := x6runY c_hs54_
    have yce40_ := eT c_e40_
    have yce42_ := eT c_e42_
    refine xE_SP_X12_move h2 ⟨(fun d_hs5_ d_h4_ => ⟨(fun d_hs11_ d_h10_ d_j15_ d_h16_ d_z13_ d_e14_ => ⟨(fun d_h17_ d_M19_ _ d_hF23_ d_r18_ d_hs25_ d_h21_ d_hr_ d_hM_ => ?_), (fun d_h17_ d_j28_ d_h29_ d_z26_ d_e27_ => ⟨(fun d_h30_ d_j33_ d_h34_ d_z31_ d_e32_ d_j37_ d_h38_ d_z35_ d_e36_ => ⟨(fun d_h39_ => ⟨(fun d_h40_ d_M42_ _ d_hF46_ d_r41_ d_hs48_ d_h44_ d_hr_ d_hM_ => ?_), (fun d_h40_ => ⟨(fun d_h49_ d_M51_ _ d_hF55_ d_r50_ d_hs57_ d_h53_ d_hr_ d_hM_ => ?_), (fun d_h49_ => ⟨(fun d_h58_ d_M60_ _ d_hF64_ d_r59_ d_hs66_ d_h62_ d_hr_ d_hM_ => ?_), (fun d_h58_ d_w67_ d_h68_ d_h69_ d_w70_ d_h71_ d_h72_ d_w73_ d_h74_ d_h75_ d_j78_ d_h79_ d_z76_ d_e77_ d_h80_ d_w81_ d_h82_ d_h83_ d_z84_ d_h85_ => ⟨(fun d_h86_ d_M88_ _ d_hF92_ d_r87_ d_hs94_ d_h90_ d_hr_ d_hM_ => ?_), (fun d_h86_ d_w95_ d_h96_ d_h97_ d_w98_ d_h99_ d_h100_ d_w101_ d_h102_ d_h103_ d_j106_ d_h107_ d_z104_ d_e105_ d_h108_ d_w109_ d_h110_ d_h111_ d_z112_ d_h113_ => ⟨(fun d_h114_ d_v6_127 d_hv0_127 d_M_127 d_hL_127 _ d_hF_127 d_h116_ d_v6_164 d_hv0_164 d_M_164 d_hL_164 _ d_hF_164 d_h118_ d_hr_ d_hM_ => ?_), (fun d_h114_ d_M156_ _ d_hF160_ d_r155_ d_hs162_ d_h158_ d_hr_ d_hM_ => ?_)⟩)⟩)⟩)⟩)⟩), (fun d_h39_ d_M164_ _ d_hF168_ d_r163_ d_hs170_ d_h166_ d_hr_ d_hM_ => ?_)⟩), (fun d_h30_ d_M172_ _ d_hF176_ d_r171_ d_hs178_ d_h174_ d_hr_ d_hM_ => ?_)⟩)⟩), (fun d_hs11_ d_h10_ d_M181_ _ d_hF185_ d_r180_ d_hs187_ d_h183_ d_hr_ d_hM_ => ?_)⟩), (fun d_hs5_ d_h4_ d_M190_ _ d_hF194_ d_r189_ d_hs196_ d_h192_ d_hr_ d_hM_ => ?_)⟩
    · skip
      exact shE hS c_hF66_ c_hM_ d_hF23_ d_hM_
    · skip
      exact shE hS c_hF66_ c_hM_ d_hF46_ d_hM_
    · skip
      exact shE hS c_hF66_ c_hM_ d_hF55_ d_hM_
    · skip
      exact shE hS c_hF66_ c_hM_ d_hF64_ d_hM_
    · skip
      exact shE hS c_hF66_ c_hM_ d_hF92_ d_hM_
    · skip
      obtain rfl : d_j15_ = v.toInt.toNat := by omega
      obtain rfl : d_j33_ = v.toInt.toNat := by omega
      obtain rfl : d_j78_ = v.toInt.toNat := by omega
      obtain rfl : d_j28_ = t.toInt.toNat := by omega
      obtain rfl : d_j37_ = t.toInt.toNat := by omega
      obtain rfl : d_j106_ = t.toInt.toNat := by omega
      have yde14_ := eT d_e14_
      have yde27_ := eT d_e27_
      have yde32_ := eT d_e32_
      have yde36_ := eT d_e36_
      have yde77_ := eT d_e77_
      have yde105_ := eT d_e105_
      omega
    · skip
      exact shE hS c_hF66_ c_hM_ d_hF160_ d_hM_
    · skip
      exact shE hS c_hF66_ c_hM_ d_hF168_ d_hM_
    · skip
      exact shE hS c_hF66_ c_hM_ d_hF176_ d_hM_
    · skip
      exact shE hS c_hF66_ c_hM_ d_hF185_ d_hM_
    · skip
      exact shE hS c_hF66_ c_hM_ d_hF194_ d_hM_
  ·
    obtain rfl : c_j13_ = v.toInt.toNat := by omega
    obtain rfl : c_j16_ = t.toInt.toNat := by omega
    have sv := sw v.toInt.toNat (by omega)
    have zbv := zb v.toInt.toNat
    have st := sw t.toInt.toNat (by omega)
    have zbt := zb t.toInt.toNat
    have mihs23_ := x6miss c_hs23_
    have mihs37_ := x6miss c_hs37_
    have ruhs48_ := x6runY c_hs48_
    have yce40_ := eT c_e40_
    have yce42_ := eT c_e42_
    refine xE_SP_X12_move h2 ⟨(fun d_hs5_ d_h4_ => ⟨(fun d_hs11_ d_h10_ d_j15_ d_h16_ d_z13_ d_e14_ => ⟨(fun d_h17_ d_M19_ _ d_hF23_ d_r18_ d_hs25_ d_h21_ d_hr_ d_hM_ => ?_), (fun d_h17_ d_j28_ d_h29_ d_z26_ d_e27_ => ⟨(fun d_h30_ d_j33_ d_h34_ d_z31_ d_e32_ d_j37_ d_h38_ d_z35_ d_e36_ => ⟨(fun d_h39_ => ⟨(fun d_h40_ d_M42_ _ d_hF46_ d_r41_ d_hs48_ d_h44_ d_hr_ d_hM_ => ?_), (fun d_h40_ => ⟨(fun d_h49_ d_M51_ _ d_hF55_ d_r50_ d_hs57_ d_h53_ d_hr_ d_hM_ => ?_), (fun d_h49_ => ⟨(fun d_h58_ d_M60_ _ d_hF64_ d_r59_ d_hs66_ d_h62_ d_hr_ d_hM_ => ?_), (fun d_h58_ d_w67_ d_h68_ d_h69_ d_w70_ d_h71_ d_h72_ d_w73_ d_h74_ d_h75_ d_j78_ d_h79_ d_z76_ d_e77_ d_h80_ d_w81_ d_h82_ d_h83_ d_z84_ d_h85_ => ⟨(fun d_h86_ d_M88_ _ d_hF92_ d_r87_ d_hs94_ d_h90_ d_hr_ d_hM_ => ?_), (fun d_h86_ d_w95_ d_h96_ d_h97_ d_w98_ d_h99_ d_h100_ d_w101_ d_h102_ d_h103_ d_j106_ d_h107_ d_z104_ d_e105_ d_h108_ d_w109_ d_h110_ d_h111_ d_z112_ d_h113_ => ⟨(fun d_h114_ d_v6_127 d_hv0_127 d_M_127 d_hL_127 _ d_hF_127 d_h116_ d_v6_164 d_hv0_164 d_M_164 d_hL_164 _ d_hF_164 d_h118_ d_hr_ d_hM_ => ?_), (fun d_h114_ d_M156_ _ d_hF160_ d_r155_ d_hs162_ d_h158_ d_hr_ d_hM_ => ?_)⟩)⟩)⟩)⟩)⟩), (fun d_h39_ d_M164_ _ d_hF168_ d_r163_ d_hs170_ d_h166_ d_hr_ d_hM_ => ?_)⟩), (fun d_h30_ d_M172_ _ d_hF176_ d_r171_ d_hs178_ d_h174_ d_hr_ d_hM_ => ?_)⟩)⟩), (fun d_hs11_ d_h10_ d_M181_ _ d_hF185_ d_r180_ d_hs187_ d_h183_ d_hr_ d_hM_ => ?_)⟩), (fun d_hs5_ d_h4_ d_M190_ _ d_hF194_ d_r189_ d_hs196_ d_h192_ d_hr_ d_hM_ => ?_)⟩
    · skip
      exact shE hS c_hF75_ c_hM_ d_hF23_ d_hM_
    · skip
      exact shE hS c_hF75_ c_hM_ d_hF46_ d_hM_
    · skip
      exact shE hS c_hF75_ c_hM_ d_hF55_ d_hM_
    · skip
      exact shE hS c_hF75_ c_hM_ d_hF64_ d_hM_
    · skip
      exact shE hS c_hF75_ c_hM_ d_hF92_ d_hM_
    · skip
      obtain rfl : d_j15_ = v.toInt.toNat := by omega
      obtain rfl : d_j33_ = v.toInt.toNat := by omega
      obtain rfl : d_j78_ = v.toInt.toNat := by omega
      obtain rfl : d_j28_ = t.toInt.toNat := by omega
      obtain rfl : d_j37_ = t.toInt.toNat := by omega
      obtain rfl : d_j106_ = t.toInt.toNat := by omega
      have yde14_ := eT d_e14_
      have yde27_ := eT d_e27_
      have yde32_ := eT d_e32_
      have yde36_ := eT d_e36_
      have yde77_ := eT d_e77_
      have yde105_ := eT d_e105_
      omega
    · skip
      exact shE hS c_hF75_ c_hM_ d_hF160_ d_hM_
    · skip
      exact shE hS c_hF75_ c_hM_ d_hF168_ d_hM_
    · skip
      exact shE hS c_hF75_ c_hM_ d_hF176_ d_hM_
    · skip
      exact shE hS c_hF75_ c_hM_ d_hF185_ d_hM_
    · skip
      exact shE hS c_hF75_ c_hM_ d_hF194_ d_hM_
  ·
    obtain rfl : c_j13_ = v.toInt.toNat := by omega
    obtain rfl : c_j16_ = t.toInt.toNat := by omega
    have sv := sw v.toInt.toNat (by omega)
    have zbv := zb v.toInt.toNat
    have st := sw t.toInt.toNat (by omega)
    have zbt := zb t.toInt.toNat
    have mihs23_ := x6miss c_hs23_
    have mihs37_ := x6miss c_hs37_
    have yce40_ := eT c_e40_
    have yce42_ := eT c_e42_
    refine xE_SP_X12_move h2 ⟨(fun d_hs5_ d_h4_ => ⟨(fun d_hs11_ d_h10_ d_j15_ d_h16_ d_z13_ d_e14_ => ⟨(fun d_h17_ d_M19_ _ d_hF23_ d_r18_ d_hs25_ d_h21_ d_hr_ d_hM_ => ?_), (fun d_h17_ d_j28_ d_h29_ d_z26_ d_e27_ => ⟨(fun d_h30_ d_j33_ d_h34_ d_z31_ d_e32_ d_j37_ d_h38_ d_z35_ d_e36_ => ⟨(fun d_h39_ => ⟨(fun d_h40_ d_M42_ _ d_hF46_ d_r41_ d_hs48_ d_h44_ d_hr_ d_hM_ => ?_), (fun d_h40_ => ⟨(fun d_h49_ d_M51_ _ d_hF55_ d_r50_ d_hs57_ d_h53_ d_hr_ d_hM_ => ?_), (fun d_h49_ => ⟨(fun d_h58_ d_M60_ _ d_hF64_ d_r59_ d_hs66_ d_h62_ d_hr_ d_hM_ => ?_), (fun d_h58_ d_w67_ d_h68_ d_h69_ d_w70_ d_h71_ d_h72_ d_w73_ d_h74_ d_h75_ d_j78_ d_h79_ d_z76_ d_e77_ d_h80_ d_w81_ d_h82_ d_h83_ d_z84_ d_h85_ => ⟨(fun d_h86_ d_M88_ _ d_hF92_ d_r87_ d_hs94_ d_h90_ d_hr_ d_hM_ => ?_), (fun d_h86_ d_w95_ d_h96_ d_h97_ d_w98_ d_h99_ d_h100_ d_w101_ d_h102_ d_h103_ d_j106_ d_h107_ d_z104_ d_e105_ d_h108_ d_w109_ d_h110_ d_h111_ d_z112_ d_h113_ => ⟨(fun d_h114_ d_v6_127 d_hv0_127 d_M_127 d_hL_127 _ d_hF_127 d_h116_ d_v6_164 d_hv0_164 d_M_164 d_hL_164 _ d_hF_164 d_h118_ d_hr_ d_hM_ => ?_), (fun d_h114_ d_M156_ _ d_hF160_ d_r155_ d_hs162_ d_h158_ d_hr_ d_hM_ => ?_)⟩)⟩)⟩)⟩)⟩), (fun d_h39_ d_M164_ _ d_hF168_ d_r163_ d_hs170_ d_h166_ d_hr_ d_hM_ => ?_)⟩), (fun d_h30_ d_M172_ _ d_hF176_ d_r171_ d_hs178_ d_h174_ d_hr_ d_hM_ => ?_)⟩)⟩), (fun d_hs11_ d_h10_ d_M181_ _ d_hF185_ d_r180_ d_hs187_ d_h183_ d_hr_ d_hM_ => ?_)⟩), (fun d_hs5_ d_h4_ d_M190_ _ d_hF194_ d_r189_ d_hs196_ d_h192_ d_hr_ d_hM_ => ?_)⟩
    · skip
      exact shE hS c_hF83_ c_hM_ d_hF23_ d_hM_
    · skip
      exact shE hS c_hF83_ c_hM_ d_hF46_ d_hM_
    · skip
      exact shE hS c_hF83_ c_hM_ d_hF55_ d_hM_
    · skip
      exact shE hS c_hF83_ c_hM_ d_hF64_ d_hM_
    · skip
      exact shE hS c_hF83_ c_hM_ d_hF92_ d_hM_
    · skip
      obtain rfl : d_j15_ = v.toInt.toNat := by omega
      obtain rfl : d_j33_ = v.toInt.toNat := by omega
      obtain rfl : d_j78_ = v.toInt.toNat := by omega
      obtain rfl : d_j28_ = t.toInt.toNat := by omega
      obtain rfl : d_j37_ = t.toInt.toNat := by omega
      obtain rfl : d_j106_ = t.toInt.toNat := by omega
      have yde14_ := eT d_e14_
      have yde27_ := eT d_e27_
      have yde32_ := eT d_e32_
      have yde36_ := eT d_e36_
      have yde77_ := eT d_e77_
      have yde105_ := eT d_e105_
      omega
    · skip
      exact shE hS c_hF83_ c_hM_ d_hF160_ d_hM_
    · skip
      exact shE hS c_hF83_ c_hM_ d_hF168_ d_hM_
    · skip
      exact shE hS c_hF83_ c_hM_ d_hF176_ d_hM_
    · skip
      exact shE hS c_hF83_ c_hM_ d_hF185_ d_hM_
    · skip
      exact shE hS c_hF83_ c_hM_ d_hF194_ d_hM_
  ·
    obtain rfl : c_j13_ = v.toInt.toNat := by omega
    obtain rfl : c_j16_ = t.toInt.toNat := by omega
    have sv := sw v.toInt.toNat (by omega)
    have zbv := zb v.toInt.toNat
    have st := sw t.toInt.toNat (by omega)
    have zbt := zb t.toInt.toNat
    have mihs23_ := x6miss c_hs23_
    have mihs37_ := x6miss c_hs37_
    refine xE_SP_X12_move h2 ⟨(fun d_hs5_ d_h4_ => ⟨(fun d_hs11_ d_h10_ d_j15_ d_h16_ d_z13_ d_e14_ => ⟨(fun d_h17_ d_M19_ _ d_hF23_ d_r18_ d_hs25_ d_h21_ d_hr_ d_hM_ => ?_), (fun d_h17_ d_j28_ d_h29_ d_z26_ d_e27_ => ⟨(fun d_h30_ d_j33_ d_h34_ d_z31_ d_e32_ d_j37_ d_h38_ d_z35_ d_e36_ => ⟨(fun d_h39_ => ⟨(fun d_h40_ d_M42_ _ d_hF46_ d_r41_ d_hs48_ d_h44_ d_hr_ d_hM_ => ?_), (fun d_h40_ => ⟨(fun d_h49_ d_M51_ _ d_hF55_ d_r50_ d_hs57_ d_h53_ d_hr_ d_hM_ => ?_), (fun d_h49_ => ⟨(fun d_h58_ d_M60_ _ d_hF64_ d_r59_ d_hs66_ d_h62_ d_hr_ d_hM_ => ?_), (fun d_h58_ d_w67_ d_h68_ d_h69_ d_w70_ d_h71_ d_h72_ d_w73_ d_h74_ d_h75_ d_j78_ d_h79_ d_z76_ d_e77_ d_h80_ d_w81_ d_h82_ d_h83_ d_z84_ d_h85_ => ⟨(fun d_h86_ d_M88_ _ d_hF92_ d_r87_ d_hs94_ d_h90_ d_hr_ d_hM_ => ?_), (fun d_h86_ d_w95_ d_h96_ d_h97_ d_w98_ d_h99_ d_h100_ d_w101_ d_h102_ d_h103_ d_j106_ d_h107_ d_z104_ d_e105_ d_h108_ d_w109_ d_h110_ d_h111_ d_z112_ d_h113_ => ⟨(fun d_h114_ d_v6_127 d_hv0_127 d_M_127 d_hL_127 _ d_hF_127 d_h116_ d_v6_164 d_hv0_164 d_M_164 d_hL_164 _ d_hF_164 d_h118_ d_hr_ d_hM_ => ?_), (fun d_h114_ d_M156_ _ d_hF160_ d_r155_ d_hs162_ d_h158_ d_hr_ d_hM_ => ?_)⟩)⟩)⟩)⟩)⟩), (fun d_h39_ d_M164_ _ d_hF168_ d_r163_ d_hs170_ d_h166_ d_hr_ d_hM_ => ?_)⟩), (fun d_h30_ d_M172_ _ d_hF176_ d_r171_ d_hs178_ d_h174_ d_hr_ d_hM_ => ?_)⟩)⟩), (fun d_hs11_ d_h10_ d_M181_ _ d_hF185_ d_r180_ d_hs187_ d_h183_ d_hr_ d_hM_ => ?_)⟩), (fun d_hs5_ d_h4_ d_M190_ _ d_hF194_ d_r189_ d_hs196_ d_h192_ d_hr_ d_hM_ => ?_)⟩
    · skip
      exact shE hS c_hF91_ c_hM_ d_hF23_ d_hM_
    · skip
      exact shE hS c_hF91_ c_hM_ d_hF46_ d_hM_
    · skip
      exact shE hS c_hF91_ c_hM_ d_hF55_ d_hM_
    · skip
      exact shE hS c_hF91_ c_hM_ d_hF64_ d_hM_
    · skip
      exact shE hS c_hF91_ c_hM_ d_hF92_ d_hM_
    · skip
      obtain rfl : d_j15_ = v.toInt.toNat := by omega
      obtain rfl : d_j33_ = v.toInt.toNat := by omega
      obtain rfl : d_j78_ = v.toInt.toNat := by omega
      obtain rfl : d_j28_ = t.toInt.toNat := by omega
      obtain rfl : d_j37_ = t.toInt.toNat := by omega
      obtain rfl : d_j106_ = t.toInt.toNat := by omega
      have yde14_ := eT d_e14_
      have yde27_ := eT d_e27_
      have yde32_ := eT d_e32_
      have yde36_ := eT d_e36_
      have yde77_ := eT d_e77_
      have yde105_ := eT d_e105_
      omega
    · skip
      exact shE hS c_hF91_ c_hM_ d_hF160_ d_hM_
    · skip
      exact shE hS c_hF91_ c_hM_ d_hF168_ d_hM_
    · skip
      exact shE hS c_hF91_ c_hM_ d_hF176_ d_hM_
    · skip
      exact shE hS c_hF91_ c_hM_ d_hF185_ d_hM_
    · skip
      exact shE hS c_hF91_ c_hM_ d_hF194_ d_hM_
  ·
    refine xE_SP_X12_move h2 ⟨(fun d_hs5_ d_h4_ => ⟨(fun d_hs11_ d_h10_ d_j15_ d_h16_ d_z13_ d_e14_ => ⟨(fun d_h17_ d_M19_ _ d_hF23_ d_r18_ d_hs25_ d_h21_ d_hr_ d_hM_ => ?_), (fun d_h17_ d_j28_ d_h29_ d_z26_ d_e27_ => ⟨(fun d_h30_ d_j33_ d_h34_ d_z31_ d_e32_ d_j37_ d_h38_ d_z35_ d_e36_ => ⟨(fun d_h39_ => ⟨(fun d_h40_ d_M42_ _ d_hF46_ d_r41_ d_hs48_ d_h44_ d_hr_ d_hM_ => ?_), (fun d_h40_ => ⟨(fun d_h49_ d_M51_ _ d_hF55_ d_r50_ d_hs57_ d_h53_ d_hr_ d_hM_ => ?_), (fun d_h49_ => ⟨(fun d_h58_ d_M60_ _ d_hF64_ d_r59_ d_hs66_ d_h62_ d_hr_ d_hM_ => ?_), (fun d_h58_ d_w67_ d_h68_ d_h69_ d_w70_ d_h71_ d_h72_ d_w73_ d_h74_ d_h75_ d_j78_ d_h79_ d_z76_ d_e77_ d_h80_ d_w81_ d_h82_ d_h83_ d_z84_ d_h85_ => ⟨(fun d_h86_ d_M88_ _ d_hF92_ d_r87_ d_hs94_ d_h90_ d_hr_ d_hM_ => ?_), (fun d_h86_ d_w95_ d_h96_ d_h97_ d_w98_ d_h99_ d_h100_ d_w101_ d_h102_ d_h103_ d_j106_ d_h107_ d_z104_ d_e105_ d_h108_ d_w109_ d_h110_ d_h111_ d_z112_ d_h113_ => ⟨(fun d_h114_ d_v6_127 d_hv0_127 d_M_127 d_hL_127 _ d_hF_127 d_h116_ d_v6_164 d_hv0_164 d_M_164 d_hL_164 _ d_hF_164 d_h118_ d_hr_ d_hM_ => ?_), (fun d_h114_ d_M156_ _ d_hF160_ d_r155_ d_hs162_ d_h158_ d_hr_ d_hM_ => ?_)⟩)⟩)⟩)⟩)⟩), (fun d_h39_ d_M164_ _ d_hF168_ d_r163_ d_hs170_ d_h166_ d_hr_ d_hM_ => ?_)⟩), (fun d_h30_ d_M172_ _ d_hF176_ d_r171_ d_hs178_ d_h174_ d_hr_ d_hM_ => ?_)⟩)⟩), (fun d_hs11_ d_h10_ d_M181_ _ d_hF185_ d_r180_ d_hs187_ d_h183_ d_hr_ d_hM_ => ?_)⟩), (fun d_hs5_ d_h4_ d_M190_ _ d_hF194_ d_r189_ d_hs196_ d_h192_ d_hr_ d_hM_ => ?_)⟩
    · skip
      exact shE hS c_hF100_ c_hM_ d_hF23_ d_hM_
    · skip
      exact shE hS c_hF100_ c_hM_ d_hF46_ d_hM_
    · skip
      exact shE hS c_hF100_ c_hM_ d_hF55_ d_hM_
    · skip
      exact shE hS c_hF100_ c_hM_ d_hF64_ d_hM_
    · skip
      exact shE hS c_hF100_ c_hM_ d_hF92_ d_hM_
    · skip
      obtain rfl : d_j15_ = v.toInt.toNat := by omega
      obtain rfl : d_j33_ = v.toInt.toNat := by omega
      obtain rfl : d_j78_ = v.toInt.toNat := by omega
      obtain rfl : d_j28_ = t.toInt.toNat := by omega
      obtain rfl : d_j37_ = t.toInt.toNat := by omega
      obtain rfl : d_j106_ = t.toInt.toNat := by omega
      have yde14_ := eT d_e14_
      have yde27_ := eT d_e27_
      have yde32_ := eT d_e32_
      have yde36_ := eT d_e36_
      have yde77_ := eT d_e77_
      have yde105_ := eT d_e105_
      omega
    · skip
      exact shE hS c_hF100_ c_hM_ d_hF160_ d_hM_
    · skip
      exact shE hS c_hF100_ c_hM_ d_hF168_ d_hM_
    · skip
      exact shE hS c_hF100_ c_hM_ d_hF176_ d_hM_
    · skip
      exact shE hS c_hF100_ c_hM_ d_hF185_ d_hM_
    · skip
      exact shE hS c_hF100_ c_hM_ d_hF194_ d_hM_
  ·
    refine xE_SP_X12_move h2 ⟨(fun d_hs5_ d_h4_ => ⟨(fun d_hs11_ d_h10_ d_j15_ d_h16_ d_z13_ d_e14_ => ⟨(fun d_h17_ d_M19_ _ d_hF23_ d_r18_ d_hs25_ d_h21_ d_hr_ d_hM_ => ?_), (fun d_h17_ d_j28_ d_h29_ d_z26_ d_e27_ => ⟨(fun d_h30_ d_j33_ d_h34_ d_z31_ d_e32_ d_j37_ d_h38_ d_z35_ d_e36_ => ⟨(fun d_h39_ => ⟨(fun d_h40_ d_M42_ _ d_hF46_ d_r41_ d_hs48_ d_h44_ d_hr_ d_hM_ => ?_), (fun d_h40_ => ⟨(fun d_h49_ d_M51_ _ d_hF55_ d_r50_ d_hs57_ d_h53_ d_hr_ d_hM_ => ?_), (fun d_h49_ => ⟨(fun d_h58_ d_M60_ _ d_hF64_ d_r59_ d_hs66_ d_h62_ d_hr_ d_hM_ => ?_), (fun d_h58_ d_w67_ d_h68_ d_h69_ d_w70_ d_h71_ d_h72_ d_w73_ d_h74_ d_h75_ d_j78_ d_h79_ d_z76_ d_e77_ d_h80_ d_w81_ d_h82_ d_h83_ d_z84_ d_h85_ => ⟨(fun d_h86_ d_M88_ _ d_hF92_ d_r87_ d_hs94_ d_h90_ d_hr_ d_hM_ => ?_), (fun d_h86_ d_w95_ d_h96_ d_h97_ d_w98_ d_h99_ d_h100_ d_w101_ d_h102_ d_h103_ d_j106_ d_h107_ d_z104_ d_e105_ d_h108_ d_w109_ d_h110_ d_h111_ d_z112_ d_h113_ => ⟨(fun d_h114_ d_v6_127 d_hv0_127 d_M_127 d_hL_127 _ d_hF_127 d_h116_ d_v6_164 d_hv0_164 d_M_164 d_hL_164 _ d_hF_164 d_h118_ d_hr_ d_hM_ => ?_), (fun d_h114_ d_M156_ _ d_hF160_ d_r155_ d_hs162_ d_h158_ d_hr_ d_hM_ => ?_)⟩)⟩)⟩)⟩)⟩), (fun d_h39_ d_M164_ _ d_hF168_ d_r163_ d_hs170_ d_h166_ d_hr_ d_hM_ => ?_)⟩), (fun d_h30_ d_M172_ _ d_hF176_ d_r171_ d_hs178_ d_h174_ d_hr_ d_hM_ => ?_)⟩)⟩), (fun d_hs11_ d_h10_ d_M181_ _ d_hF185_ d_r180_ d_hs187_ d_h183_ d_hr_ d_hM_ => ?_)⟩), (fun d_hs5_ d_h4_ d_M190_ _ d_hF194_ d_r189_ d_hs196_ d_h192_ d_hr_ d_hM_ => ?_)⟩
    · skip
      exact shE hS c_hF109_ c_hM_ d_hF23_ d_hM_
    · skip
      exact shE hS c_hF109_ c_hM_ d_hF46_ d_hM_
    · skip
      exact shE hS c_hF109_ c_hM_ d_hF55_ d_hM_
    · skip
      exact shE hS c_hF109_ c_hM_ d_hF64_ d_hM_
    · skip
      exact shE hS c_hF109_ c_hM_ d_hF92_ d_hM_
    · skip
      obtain rfl : d_j15_ = v.toInt.toNat := by omega
      obtain rfl : d_j33_ = v.toInt.toNat := by omega
      obtain rfl : d_j78_ = v.toInt.toNat := by omega
      obtain rfl : d_j28_ = t.toInt.toNat := by omega
      obtain rfl : d_j37_ = t.toInt.toNat := by omega
      obtain rfl : d_j106_ = t.toInt.toNat := by omega
      have yde14_ := eT d_e14_
      have yde27_ := eT d_e27_
      have yde32_ := eT d_e32_
      have yde36_ := eT d_e36_
      have yde77_ := eT d_e77_
      have yde105_ := eT d_e105_
      omega
    · skip
      exact shE hS c_hF109_ c_hM_ d_hF160_ d_hM_
    · skip
      exact shE hS c_hF109_ c_hM_ d_hF168_ d_hM_
    · skip
      exact shE hS c_hF109_ c_hM_ d_hF176_ d_hM_
    · skip
      exact shE hS c_hF109_ c_hM_ d_hF185_ d_hM_
    · skip
      exact shE hS c_hF109_ c_hM_ d_hF194_ d_hM_
