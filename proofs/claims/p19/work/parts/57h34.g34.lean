/-! the sheets' numbers -/
theorem SHR_keep {q q2 p p2 : rf → Nat → Int32} (h : SHR q p) (hq : ∀ (c : rf) (k : Nat), c.1 = 6 ∨ c.1 = 34 → q2 c k = q c k) (hp : ∀ (c : rf) (k : Nat), c.1 = 66 ∨ c.1 = 67 ∨ c.1 = 68 → p2 c k = p c k) : SHR q2 p2 := fun w hw => by
  obtain ⟨h1, h2, h3⟩ := h w hw
  rw [hq _ _ (by simp), hq (6, 0, w) 1 (by simp), hp _ _ (by simp), hp (67, 0, 0) w (by simp)]
  refine ⟨h1, h2, fun i hi => ?_⟩
  rw [hq _ _ (by simp), hp _ _ (by simp)]
  exact h3 i hi
theorem shE {M Mc M1 D Dc D2 : mM} (h : SHR M.1 D.1) (hc : FR S_c_X11_error M Mc) (h1 : M1 = Mc) (hd : FR S_c_X12_finding D Dc) (h2 : D2 = Dc) : SHR M1.1 D2.1 := by
  rw [h1, h2]
  exact SHR_keep h (fun c k q => hc c k (fun z => by simp only [S_c_X11_error, or_false] at z; omega)) (fun c k q => hd c k (fun z => by simp only [S_c_X12_finding, or_false] at z; omega))
theorem x6hasY {w : Nat} {v r : Int32} {M : mM} (h : SP_X6_has w v M r) : (r.toInt = 1 ∧ 0 ≤ v.toInt ∧ v.toInt < (M.1 (6, 0, w) 1).toInt) ∨ (r.toInt = 0 ∧ ¬ (0 ≤ v.toInt ∧ v.toInt < (M.1 (6, 0, w) 1).toInt)) := by
  have q0 := il_0
  have q1 := il_1
  refine xE_SP_X6_has h ⟨(fun h1_ hr_ => ?_), (fun h1_ z2_ e3_ h4_ => ⟨(fun h5_ hr_ => ?_), (fun h5_ h6_ hr_ => ?_)⟩)⟩
  · have := eT hr_; omega
  · have := eT hr_; have := eT e3_; omega
  · have := eT hr_; have := eT e3_; omega
theorem x6runY {w : Nat} {v u r : Int32} {M : mM} (h : SP_X6_hasRun w v u M r) : (r.toInt = 1 ∧ 0 ≤ v.toInt ∧ 0 ≤ u.toInt ∧ v.toInt + u.toInt ≤ (M.1 (6, 0, w) 1).toInt) ∨ (r.toInt = 0 ∧ ¬ (0 ≤ v.toInt ∧ 0 ≤ u.toInt ∧ v.toInt + u.toInt ≤ (M.1 (6, 0, w) 1).toInt)) := by
  have q0 := il_0
  have q1 := il_1
  refine xE_SP_X6_hasRun h ⟨(fun h1_ hr_ => ?_), (fun h1_ => ⟨(fun h2_ hr_ => ?_), (fun h2_ z3_ e4_ h5_ => ⟨(fun h6_ hr_ => ?_), (fun h6_ z9_ h10_ => ⟨(fun h11_ hr_ => ?_), (fun h11_ hr_ => ?_)⟩)⟩)⟩)⟩
  · have := eT hr_; omega
  · have := eT hr_; omega
  all_goals
    have := eT hr_
    have := eT e4_
    omega
theorem sz_b {D : mM} (hD : InvD D) (w : Nat) : 0 ≤ (D.1 (67, 0, 0) w).toInt ∧ (D.1 (67, 0, 0) w).toInt ≤ 24 := hD.1 (67, 0, 0) w
/-- one number is written on both sides -/
theorem SHR_put {q q2 p p2 : rf → Nat → Int32} {v i : Nat} {x : Int32} (h : SHR q p) (hz : ∀ w, (p (67, 0, 0) w).toInt ≤ 24) (hi : i < 24) (hq : ∀ (c : rf) (k : Nat), c.1 = 6 ∨ c.1 = 34 → ¬ (c = (34, 0, v) ∧ k = i) → q2 c k = q c k) (hx : q2 (34, 0, v) i = x) (hp : ∀ (c : rf) (k : Nat), c.1 = 66 ∨ c.1 = 67 ∨ c.1 = 68 → ¬ (c = (68, 0, 0) ∧ k = 24 * v + i) → p2 c k = p c k) (hy : p2 (68, 0, 0) (24 * v + i) = x) : SHR q2 p2 := fun w hw => by
  obtain ⟨h1, h2, h3⟩ := h w hw
  rw [hq _ _ (by simp) (by simp), hq (6, 0, w) 1 (by simp) (by simp), hp _ _ (by simp) (by simp), hp (67, 0, 0) w (by simp) (by simp)]
  refine ⟨h1, h2, fun j hj => ?_⟩
  have z := hz w
  by_cases e : w = v ∧ j = i
  · rw [e.1, e.2, hx, hy]
  · rw [hq _ _ (by simp) (fun y => e ⟨congrArg (fun c : rf => c.2.2) y.1, y.2⟩), hp _ _ (by simp) (fun y => by have := y.2; omega)]
    exact h3 j hj
theorem x6store {w : Nat} {v u : Int32} {M M1 : mM} (h : SP_X6_store w v u M M1) (hv : 0 ≤ v.toInt ∧ v.toInt < (M.1 (6, 0, w) 1).toInt) : M1 = up M (34, 0, w) v.toInt.toNat (if (M.1 (6, 0, w) 0).toInt = 8 then u.toInt8.toInt32 else if (M.1 (6, 0, w) 0).toInt = 16 then u.toInt16.toInt32 else u) := by
  have q0 := il_0
  refine xE_SP_X6_store h ⟨(fun hs5_ h4_ z7_ e8_ => ⟨(fun h9_ => ⟨(fun h12_ j15_ h16_ M13_ hM14_ hM_ => ?_), (fun h12_ z19_ h20_ j23_ h24_ M21_ hM22_ hM_ => ?_)⟩), (fun h9_ z27_ h28_ j31_ h32_ M29_ hM30_ hM_ => ?_)⟩), (fun hs5_ hM_ => ?_)⟩
  · have y := eT e8_
    rw [hM_, hM14_, if_neg (by omega), if_neg (by omega), show j15_ = v.toInt.toNat by omega]
  · have y := eT e8_
    rw [hM_, hM22_, if_neg (by omega), if_pos (by omega), show j23_ = v.toInt.toNat by omega, h20_]
  · have y := eT e8_
    rw [hM_, hM30_, if_pos (by omega), show j31_ = v.toInt.toNat by omega, h28_]
  · have := x6hasY hs5_
    omega
theorem sh_33 {v u t : Int32} {M M1 D D2 : mM} {r1 r2 : Int32} (h1 : SP_X11_put v u t M r1 M1) (h2 : SP_X12_put v u t D r2 D2) (hS : SHR M.1 D.1) (hD : InvD D) : SHR M1.1 D2.1 := by
  have q0 := il_0
  have q1 := il_1
  have zb := sz_b hD
  have sw := fun (w : Nat) (hw : w < 4) => And.intro (eT (hS w hw).1) (eT (hS w hw).2.1)
  refine xE_SP_X11_put h1 ⟨(fun c_hs5_ c_h4_ c_j7_ c_h8_ c_h9_ c_r10_ c_hs14_ c_h13_ => ⟨(fun c_h15_ c_j16_ c_h17_ c_h18_ => ⟨(fun c_hs23_ c_h22_ c_j25_ c_h26_ c_h27_ c_M28_ _ c_hF32_ c_hs34_ c_hr_ c_hM_ => ?_), (fun c_hs23_ c_M37_ _ c_hF41_ c_r36_ c_hs43_ c_hr_ c_hM_ => ?_)⟩), (fun c_h15_ c_M45_ _ c_hF49_ c_r44_ c_hs51_ c_hr_ c_hM_ => ?_)⟩), (fun c_hs5_ c_h4_ c_M54_ _ c_hF58_ c_r53_ c_hs60_ c_hr_ c_hM_ => ?_)⟩
  ·
    obtain rfl : c_j7_ = v.toInt.toNat := by omega
    obtain rfl : c_j16_ = v.toInt.toNat := by omega
    obtain rfl : c_j25_ = v.toInt.toNat := by omega
    have sv := sw v.toInt.toNat (by omega)
    have zbv := zb v.toInt.toNat
    have mihs14_ := x6miss c_hs14_
    have hahs23_ := x6hasY c_hs23_
    refine xE_SP_X12_put h2 ⟨(fun d_hs5_ d_h4_ d_j9_ d_h10_ d_z7_ d_e8_ => ⟨(fun d_h11_ d_j14_ d_h15_ d_z12_ d_e13_ d_h16_ d_z17_ d_h18_ => ⟨(fun d_hs23_ d_h22_ d_z25_ d_h26_ d_z27_ d_h28_ d_j31_ d_h32_ d_z29_ d_e30_ => ⟨(fun d_h33_ d_j36_ d_h37_ d_z34_ d_e35_ => ⟨(fun d_h38_ d_j41_ d_h42_ d_M39_ d_hM40_ d_hr_ d_hM_ => ?_), (fun d_h38_ d_z45_ d_h46_ d_j49_ d_h50_ d_M47_ d_hM48_ d_hr_ d_hM_ => ?_)⟩), (fun d_h33_ d_z53_ d_h54_ d_j57_ d_h58_ d_M55_ d_hM56_ d_hr_ d_hM_ => ?_)⟩), (fun d_hs23_ d_h22_ d_M63_ _ d_hF67_ d_r62_ d_hs69_ d_h65_ d_hr_ d_hM_ => ?_)⟩), (fun d_h11_ d_M71_ _ d_hF75_ d_r70_ d_hs77_ d_h73_ d_hr_ d_hM_ => ?_)⟩), (fun d_hs5_ d_h4_ d_M80_ _ d_hF84_ d_r79_ d_hs86_ d_h82_ d_hr_ d_hM_ => ?_)⟩
    · skip
      obtain rfl : d_j9_ = v.toInt.toNat := by omega
      obtain rfl : d_j14_ = v.toInt.toNat := by omega
      obtain rfl : d_j31_ = v.toInt.toNat := by omega
      obtain rfl : d_j36_ = v.toInt.toNat := by omega
      have yde8_ := eT d_e8_
      have yde13_ := eT d_e13_
      have yde30_ := eT d_e30_
      have yde35_ := eT d_e35_
      have st := x6store c_hs34_ (by omega)
      rw [if_neg (by omega), if_neg (by omega)] at st
      refine SHR_put (v := v.toInt.toNat) (i := u.toInt.toNat) (x := t) hS (fun w => (zb w).2) (by omega) (fun c k a b => by rw [c_hM_, st, zupN rfl b]) (by rw [c_hM_, st, zupE rfl rfl rfl]) (fun c k a b => by rw [d_hM_, zupN d_hM40_ (fun z => b ⟨z.1, by have := z.2; omega⟩)]) (by rw [d_hM_, zupE d_hM40_ rfl (by omega)])
    · skip
      obtain rfl : d_j9_ = v.toInt.toNat := by omega
      obtain rfl : d_j14_ = v.toInt.toNat := by omega
      obtain rfl : d_j31_ = v.toInt.toNat := by omega
      obtain rfl : d_j36_ = v.toInt.toNat := by omega
      have yde8_ := eT d_e8_
      have yde13_ := eT d_e13_
      have yde30_ := eT d_e30_
      have yde35_ := eT d_e35_
      have st := x6store c_hs34_ (by omega)
      rw [if_neg (by omega), if_pos (by omega)] at st
      refine SHR_put (v := v.toInt.toNat) (i := u.toInt.toNat) (x := t.toInt16.toInt32) hS (fun w => (zb w).2) (by omega) (fun c k a b => by rw [c_hM_, st, zupN rfl b]) (by rw [c_hM_, st, zupE rfl rfl rfl]) (fun c k a b => by rw [d_hM_, zupN d_hM48_ (fun z => b ⟨z.1, by have := z.2; omega⟩)]) (by rw [d_hM_, zupE d_hM48_ rfl (by omega), d_h46_])
    · skip
      obtain rfl : d_j9_ = v.toInt.toNat := by omega
      obtain rfl : d_j14_ = v.toInt.toNat := by omega
      obtain rfl : d_j31_ = v.toInt.toNat := by omega
      have yde8_ := eT d_e8_
      have yde13_ := eT d_e13_
      have yde30_ := eT d_e30_
      have st := x6store c_hs34_ (by omega)
      rw [if_pos (by omega)] at st
      refine SHR_put (v := v.toInt.toNat) (i := u.toInt.toNat) (x := t.toInt8.toInt32) hS (fun w => (zb w).2) (by omega) (fun c k a b => by rw [c_hM_, st, zupN rfl b]) (by rw [c_hM_, st, zupE rfl rfl rfl]) (fun c k a b => by rw [d_hM_, zupN d_hM56_ (fun z => b ⟨z.1, by have := z.2; omega⟩)]) (by rw [d_hM_, zupE d_hM56_ rfl (by omega), d_h54_])
    · skip
      obtain rfl : d_j9_ = v.toInt.toNat := by omega
      obtain rfl : d_j14_ = v.toInt.toNat := by omega
      have yde8_ := eT d_e8_
      have yde13_ := eT d_e13_
      omega
    · skip
      obtain rfl : d_j9_ = v.toInt.toNat := by omega
      have yde8_ := eT d_e8_
      omega
    · skip
      omega
  ·
    obtain rfl : c_j7_ = v.toInt.toNat := by omega
    obtain rfl : c_j16_ = v.toInt.toNat := by omega
    have sv := sw v.toInt.toNat (by omega)
    have zbv := zb v.toInt.toNat
    have mihs14_ := x6miss c_hs14_
    have hahs23_ := x6hasY c_hs23_
    refine xE_SP_X12_put h2 ⟨(fun d_hs5_ d_h4_ d_j9_ d_h10_ d_z7_ d_e8_ => ⟨(fun d_h11_ d_j14_ d_h15_ d_z12_ d_e13_ d_h16_ d_z17_ d_h18_ => ⟨(fun d_hs23_ d_h22_ d_z25_ d_h26_ d_z27_ d_h28_ d_j31_ d_h32_ d_z29_ d_e30_ => ⟨(fun d_h33_ d_j36_ d_h37_ d_z34_ d_e35_ => ⟨(fun d_h38_ d_j41_ d_h42_ d_M39_ d_hM40_ d_hr_ d_hM_ => ?_), (fun d_h38_ d_z45_ d_h46_ d_j49_ d_h50_ d_M47_ d_hM48_ d_hr_ d_hM_ => ?_)⟩), (fun d_h33_ d_z53_ d_h54_ d_j57_ d_h58_ d_M55_ d_hM56_ d_hr_ d_hM_ => ?_)⟩), (fun d_hs23_ d_h22_ d_M63_ _ d_hF67_ d_r62_ d_hs69_ d_h65_ d_hr_ d_hM_ => ?_)⟩), (fun d_h11_ d_M71_ _ d_hF75_ d_r70_ d_hs77_ d_h73_ d_hr_ d_hM_ => ?_)⟩), (fun d_hs5_ d_h4_ d_M80_ _ d_hF84_ d_r79_ d_hs86_ d_h82_ d_hr_ d_hM_ => ?_)⟩
    · skip
      obtain rfl : d_j9_ = v.toInt.toNat := by omega
      obtain rfl : d_j14_ = v.toInt.toNat := by omega
      obtain rfl : d_j31_ = v.toInt.toNat := by omega
      obtain rfl : d_j36_ = v.toInt.toNat := by omega
      have yde8_ := eT d_e8_
      have yde13_ := eT d_e13_
      have yde30_ := eT d_e30_
      have yde35_ := eT d_e35_
      omega
    · skip
      obtain rfl : d_j9_ = v.toInt.toNat := by omega
      obtain rfl : d_j14_ = v.toInt.toNat := by omega
      obtain rfl : d_j31_ = v.toInt.toNat := by omega
      obtain rfl : d_j36_ = v.toInt.toNat := by omega
      have yde8_ := eT d_e8_
      have yde13_ := eT d_e13_
      have yde30_ := eT d_e30_
      have yde35_ := eT d_e35_
      omega
    · skip
      obtain rfl : d_j9_ = v.toInt.toNat := by omega
      obtain rfl : d_j14_ = v.toInt.toNat := by omega
      obtain rfl : d_j31_ = v.toInt.toNat := by omega
      have yde8_ := eT d_e8_
      have yde13_ := eT d_e13_
      have yde30_ := eT d_e30_
      omega
    · skip
      exact shE hS c_hF41_ c_hM_ d_hF67_ d_hM_
    · skip
      exact shE hS c_hF41_ c_hM_ d_hF75_ d_hM_
    · skip
      exact shE hS c_hF41_ c_hM_ d_hF84_ d_hM_
  ·
    obtain rfl : c_j7_ = v.toInt.toNat := by omega
    have sv := sw v.toInt.toNat (by omega)
    have zbv := zb v.toInt.toNat
    have mihs14_ := x6miss c_hs14_
    refine xE_SP_X12_put h2 ⟨(fun d_hs5_ d_h4_ d_j9_ d_h10_ d_z7_ d_e8_ => ⟨(fun d_h11_ d_j14_ d_h15_ d_z12_ d_e13_ d_h16_ d_z17_ d_h18_ => ⟨(fun d_hs23_ d_h22_ d_z25_ d_h26_ d_z27_ d_h28_ d_j31_ d_h32_ d_z29_ d_e30_ => ⟨(fun d_h33_ d_j36_ d_h37_ d_z34_ d_e35_ => ⟨(fun d_h38_ d_j41_ d_h42_ d_M39_ d_hM40_ d_hr_ d_hM_ => ?_), (fun d_h38_ d_z45_ d_h46_ d_j49_ d_h50_ d_M47_ d_hM48_ d_hr_ d_hM_ => ?_)⟩), (fun d_h33_ d_z53_ d_h54_ d_j57_ d_h58_ d_M55_ d_hM56_ d_hr_ d_hM_ => ?_)⟩), (fun d_hs23_ d_h22_ d_M63_ _ d_hF67_ d_r62_ d_hs69_ d_h65_ d_hr_ d_hM_ => ?_)⟩), (fun d_h11_ d_M71_ _ d_hF75_ d_r70_ d_hs77_ d_h73_ d_hr_ d_hM_ => ?_)⟩), (fun d_hs5_ d_h4_ d_M80_ _ d_hF84_ d_r79_ d_hs86_ d_h82_ d_hr_ d_hM_ => ?_)⟩
    · skip
      obtain rfl : d_j9_ = v.toInt.toNat := by omega
      obtain rfl : d_j14_ = v.toInt.toNat := by omega
      obtain rfl : d_j31_ = v.toInt.toNat := by omega
      obtain rfl : d_j36_ = v.toInt.toNat := by omega
      have yde8_ := eT d_e8_
      have yde13_ := eT d_e13_
      have yde30_ := eT d_e30_
      have yde35_ := eT d_e35_
      omega
    · skip
      obtain rfl : d_j9_ = v.toInt.toNat := by omega
      obtain rfl : d_j14_ = v.toInt.toNat := by omega
      obtain rfl : d_j31_ = v.toInt.toNat := by omega
      obtain rfl : d_j36_ = v.toInt.toNat := by omega
      have yde8_ := eT d_e8_
      have yde13_ := eT d_e13_
      have yde30_ := eT d_e30_
      have yde35_ := eT d_e35_
      omega
    · skip
      obtain rfl : d_j9_ = v.toInt.toNat := by omega
      obtain rfl : d_j14_ = v.toInt.toNat := by omega
      obtain rfl : d_j31_ = v.toInt.toNat := by omega
      have yde8_ := eT d_e8_
      have yde13_ := eT d_e13_
      have yde30_ := eT d_e30_
      omega
    · skip
      exact shE hS c_hF49_ c_hM_ d_hF67_ d_hM_
    · skip
      exact shE hS c_hF49_ c_hM_ d_hF75_ d_hM_
    · skip
      exact shE hS c_hF49_ c_hM_ d_hF84_ d_hM_
  ·
    refine xE_SP_X12_put h2 ⟨(fun d_hs5_ d_h4_ d_j9_ d_h10_ d_z7_ d_e8_ => ⟨(fun d_h11_ d_j14_ d_h15_ d_z12_ d_e13_ d_h16_ d_z17_ d_h18_ => ⟨(fun d_hs23_ d_h22_ d_z25_ d_h26_ d_z27_ d_h28_ d_j31_ d_h32_ d_z29_ d_e30_ => ⟨(fun d_h33_ d_j36_ d_h37_ d_z34_ d_e35_ => ⟨(fun d_h38_ d_j41_ d_h42_ d_M39_ d_hM40_ d_hr_ d_hM_ => ?_), (fun d_h38_ d_z45_ d_h46_ d_j49_ d_h50_ d_M47_ d_hM48_ d_hr_ d_hM_ => ?_)⟩), (fun d_h33_ d_z53_ d_h54_ d_j57_ d_h58_ d_M55_ d_hM56_ d_hr_ d_hM_ => ?_)⟩), (fun d_hs23_ d_h22_ d_M63_ _ d_hF67_ d_r62_ d_hs69_ d_h65_ d_hr_ d_hM_ => ?_)⟩), (fun d_h11_ d_M71_ _ d_hF75_ d_r70_ d_hs77_ d_h73_ d_hr_ d_hM_ => ?_)⟩), (fun d_hs5_ d_h4_ d_M80_ _ d_hF84_ d_r79_ d_hs86_ d_h82_ d_hr_ d_hM_ => ?_)⟩
    · skip
      obtain rfl : d_j9_ = v.toInt.toNat := by omega
      obtain rfl : d_j14_ = v.toInt.toNat := by omega
      obtain rfl : d_j31_ = v.toInt.toNat := by omega
      obtain rfl : d_j36_ = v.toInt.toNat := by omega
      have yde8_ := eT d_e8_
      have yde13_ := eT d_e13_
      have yde30_ := eT d_e30_
      have yde35_ := eT d_e35_
      omega
    · skip
      obtain rfl : d_j9_ = v.toInt.toNat := by omega
      obtain rfl : d_j14_ = v.toInt.toNat := by omega
      obtain rfl : d_j31_ = v.toInt.toNat := by omega
      obtain rfl : d_j36_ = v.toInt.toNat := by omega
      have yde8_ := eT d_e8_
      have yde13_ := eT d_e13_
      have yde30_ := eT d_e30_
      have yde35_ := eT d_e35_
      omega
    · skip
      obtain rfl : d_j9_ = v.toInt.toNat := by omega
      obtain rfl : d_j14_ = v.toInt.toNat := by omega
      obtain rfl : d_j31_ = v.toInt.toNat := by omega
      have yde8_ := eT d_e8_
      have yde13_ := eT d_e13_
      have yde30_ := eT d_e30_
      omega
    · skip
      exact shE hS c_hF58_ c_hM_ d_hF67_ d_hM_
    · skip
      exact shE hS c_hF58_ c_hM_ d_hF75_ d_hM_
    · skip
      exact shE hS c_hF58_ c_hM_ d_hF84_ d_hM_
theorem x6beginY {w : Nat} {v u : Int32} {M M1 : mM} (h : SP_X6_begin w v u M M1) : (∀ (c : rf) (k : Nat), ¬ c = (34, 0, w) → ¬ c = (6, 0, w) → M1.1 c k = M.1 c k) ∧ ∀ k, k < 24 → M1.1 (34, 0, w) k = 0 := by
  have q0 := il_0
  refine xE_SP_X6_begin h (fun M1_ hM2_ z5_ h6_ z7_ h8_ M9_ hM10_ v3_21 hv0_21 hv1_21 M_21 hL_21 _ hF_21 h14_ hM_ => ?_)
  have g := rind hL_21 (fun z => 0 ≤ z.1.toInt ∧ (∀ (c : rf) (k : Nat), ¬ c = (34, 0, w) → z.2.1 c k = M9_.1 c k) ∧ ∀ k : Nat, (k : Int) < z.1.toInt → z.2.1 (34, 0, w) k = 0) ⟨by dsimp only; omega, fun _ _ _ => rfl, fun k hk => by dsimp only at hk; omega⟩ (fun x z p st => by
    (try dsimp only at p st ⊢)
    obtain ⟨p1, p2, p3⟩ := p
    refine xE_ST_X6_begin_21 st (fun k_hv0_21 k_hv1_21 _ k_hF_21 k_h14_ k_j17_ k_h18_ k_M15_ k_hM16_ k_z21_ k_h22_ k_hq_v3_21y k_hM_ => ?_)
    have e := eT k_hq_v3_21y
    refine ⟨by omega, fun c k q1 => ?_, fun k hk => ?_⟩
    · rw [k_hM_, zupN k_hM16_ (fun z => q1 z.1)]; exact p2 c k q1
    · by_cases e2 : (k : Int) = x.1.toInt
      · rw [k_hM_]; exact zupE k_hM16_ rfl (by omega)
      · rw [k_hM_, zupN k_hM16_ (fun z => by have := z.2; omega)]; exact p3 k (by omega))
  (try dsimp only at g)
  obtain ⟨g1, g2, g3⟩ := g
  rw [hM_]
  exact ⟨fun c k q1 q2 => by rw [g2 c k q1, zupN hM10_ (fun z => q2 z.1), zupN hM2_ (fun z => q2 z.1)], fun k hk => g3 k (by omega)⟩
theorem SHR_sheet {q q2 p p2 : rf → Nat → Int32} {v : Nat} (h : SHR q p) (hz : ∀ w, (p (67, 0, 0) w).toInt ≤ 24 ∧ (p2 (67, 0, 0) w).toInt ≤ 24) (hb : q2 (6, 0, v) 0 = p2 (66, 0, 0) v ∧ q2 (6, 0, v) 1 = p2 (67, 0, 0) v) (hq : ∀ w k, ¬ w = v → q2 (34, 0, w) k = q (34, 0, w) k ∧ q2 (6, 0, w) k = q (6, 0, w) k) (hp : ∀ w, ¬ w = v → p2 (66, 0, 0) w = p (66, 0, 0) w ∧ p2 (67, 0, 0) w = p (67, 0, 0) w) (hp8 : ∀ k, ¬ (24 * v ≤ k ∧ k < 24 * v + 24) → p2 (68, 0, 0) k = p (68, 0, 0) k)
    (hn : ∀ i : Nat, (i : Int) < (p2 (67, 0, 0) v).toInt → q2 (34, 0, v) i = p2 (68, 0, 0) (24 * v + i)) : SHR q2 p2 := fun w hw => by
  obtain ⟨h1, h2, h3⟩ := h w hw
  by_cases e : w = v
  · subst e
    exact ⟨hb.1, hb.2, hn⟩
  · have z := (hz w).1
    rw [(hq w 0 e).2, (hq w 1 e).2, (hp w e).1, (hp w e).2]
    refine ⟨h1, h2, fun i hi => ?_⟩
    rw [(hq w i e).1, hp8 _ (by omega)]
    exact h3 i hi
theorem sheet93 {v : Int32} {D Da : mM} {w : Int32 × mM} (h : RCH (fun x y : Int32 × mM => ST_X12_sheet_93 v D x.1 x.2 y.1 y.2) ((0 : Int32), Da) w) (hv : 0 ≤ v.toInt) : (∀ (c : rf) (k : Nat), ¬ c = (68, 0, 0) → w.2.1 c k = Da.1 c k) ∧ (∀ k, ¬ (24 * v.toInt.toNat ≤ k ∧ k < 24 * v.toInt.toNat + 24) → w.2.1 (68, 0, 0) k = Da.1 (68, 0, 0) k) ∧ ∀ k : Nat, (k : Int) < w.1.toInt → w.2.1 (68, 0, 0) (24 * v.toInt.toNat + k) = 0 := by
  have q0 := il_0
  have g := rind h (fun z => 0 ≤ z.1.toInt ∧ (∀ (c : rf) (k : Nat), ¬ c = (68, 0, 0) → z.2.1 c k = Da.1 c k) ∧ (∀ k, ¬ (24 * v.toInt.toNat ≤ k ∧ k < 24 * v.toInt.toNat + 24) → z.2.1 (68, 0, 0) k = Da.1 (68, 0, 0) k) ∧ ∀ k : Nat, (k : Int) < z.1.toInt → z.2.1 (68, 0, 0) (24 * v.toInt.toNat + k) = 0) ⟨by dsimp only; omega, fun _ _ _ => rfl, fun _ _ => rfl, fun k hk => by dsimp only at hk; omega⟩ (fun x z p st => by
    (try dsimp only at p st ⊢)
    obtain ⟨p1, p2, p3, p4⟩ := p
    refine xE_ST_X12_sheet_93 st (fun k_hv0_93 k_hv1_93 _ k_hF_93 k_h24_ k_z25_ k_h26_ k_z27_ k_h28_ k_j31_ k_h32_ k_M29_ k_hM30_ k_z35_ k_h36_ k_hq_v4_93y k_hM_ => ?_)
    have e := eT k_hq_v4_93y
    rw [k_hM_]
    refine ⟨by omega, fun c k q1 => ?_, fun k hk => ?_, fun k hk => ?_⟩
    · rw [zupN k_hM30_ (fun z => q1 z.1)]; exact p2 c k q1
    · rw [zupN k_hM30_ (fun z => by have := z.2; omega)]; exact p3 k hk
    · by_cases e2 : (k : Int) = x.1.toInt
      · exact zupE k_hM30_ rfl (by omega)
      · rw [zupN k_hM30_ (fun z => by have := z.2; omega)]; exact p4 k (by omega))
  exact g.2
theorem sheet93b {v : Int32} {D Da : mM} {w : Int32 × mM} (h : RCH (fun x y : Int32 × mM => ST_X12_sheet_93b v D x.1 x.2 y.1 y.2) ((0 : Int32), Da) w) (hv : 0 ≤ v.toInt) : (∀ (c : rf) (k : Nat), ¬ c = (68, 0, 0) → w.2.1 c k = Da.1 c k) ∧ (∀ k, ¬ (24 * v.toInt.toNat ≤ k ∧ k < 24 * v.toInt.toNat + 24) → w.2.1 (68, 0, 0) k = Da.1 (68, 0, 0) k) ∧ ∀ k : Nat, (k : Int) < w.1.toInt → w.2.1 (68, 0, 0) (24 * v.toInt.toNat + k) = 0 := by
  have q0 := il_0
  have g := rind h (fun z => 0 ≤ z.1.toInt ∧ (∀ (c : rf) (k : Nat), ¬ c = (68, 0, 0) → z.2.1 c k = Da.1 c k) ∧ (∀ k, ¬ (24 * v.toInt.toNat ≤ k ∧ k < 24 * v.toInt.toNat + 24) → z.2.1 (68, 0, 0) k = Da.1 (68, 0, 0) k) ∧ ∀ k : Nat, (k : Int) < z.1.toInt → z.2.1 (68, 0, 0) (24 * v.toInt.toNat + k) = 0) ⟨by dsimp only; omega, fun _ _ _ => rfl, fun _ _ => rfl, fun k hk => by dsimp only at hk; omega⟩ (fun x z p st => by
    (try dsimp only at p st ⊢)
    obtain ⟨p1, p2, p3, p4⟩ := p
    refine xE_ST_X12_sheet_93b st (fun k_hv0_93 k_hv1_93 _ k_hF_93 k_h56_ k_z57_ k_h58_ k_z59_ k_h60_ k_j63_ k_h64_ k_M61_ k_hM62_ k_z67_ k_h68_ k_hq_v4_93y k_hM_ => ?_)
    have e := eT k_hq_v4_93y
    rw [k_hM_]
    refine ⟨by omega, fun c k q1 => ?_, fun k hk => ?_, fun k hk => ?_⟩
    · rw [zupN k_hM62_ (fun z => q1 z.1)]; exact p2 c k q1
    · rw [zupN k_hM62_ (fun z => by have := z.2; omega)]; exact p3 k hk
    · by_cases e2 : (k : Int) = x.1.toInt
      · exact zupE k_hM62_ rfl (by omega)
      · rw [zupN k_hM62_ (fun z => by have := z.2; omega)]; exact p4 k (by omega))
  exact g.2
theorem sheet93c {v : Int32} {D Da : mM} {w : Int32 × mM} (h : RCH (fun x y : Int32 × mM => ST_X12_sheet_93c v D x.1 x.2 y.1 y.2) ((0 : Int32), Da) w) (hv : 0 ≤ v.toInt) : (∀ (c : rf) (k : Nat), ¬ c = (68, 0, 0) → w.2.1 c k = Da.1 c k) ∧ (∀ k, ¬ (24 * v.toInt.toNat ≤ k ∧ k < 24 * v.toInt.toNat + 24) → w.2.1 (68, 0, 0) k = Da.1 (68, 0, 0) k) ∧ ∀ k : Nat, (k : Int) < w.1.toInt → w.2.1 (68, 0, 0) (24 * v.toInt.toNat + k) = 0 := by
  have q0 := il_0
  have g := rind h (fun z => 0 ≤ z.1.toInt ∧ (∀ (c : rf) (k : Nat), ¬ c = (68, 0, 0) → z.2.1 c k = Da.1 c k) ∧ (∀ k, ¬ (24 * v.toInt.toNat ≤ k ∧ k < 24 * v.toInt.toNat + 24) → z.2.1 (68, 0, 0) k = Da.1 (68, 0, 0) k) ∧ ∀ k : Nat, (k : Int) < z.1.toInt → z.2.1 (68, 0, 0) (24 * v.toInt.toNat + k) = 0) ⟨by dsimp only; omega, fun _ _ _ => rfl, fun _ _ => rfl, fun k hk => by dsimp only at hk; omega⟩ (fun x z p st => by
    (try dsimp only at p st ⊢)
    obtain ⟨p1, p2, p3, p4⟩ := p
    refine xE_ST_X12_sheet_93c st (fun k_hv0_93 k_hv1_93 _ k_hF_93 k_h104_ k_z105_ k_h106_ k_z107_ k_h108_ k_j111_ k_h112_ k_M109_ k_hM110_ k_z115_ k_h116_ k_hq_v4_93y k_hM_ => ?_)
    have e := eT k_hq_v4_93y
    rw [k_hM_]
    refine ⟨by omega, fun c k q1 => ?_, fun k hk => ?_, fun k hk => ?_⟩
    · rw [zupN k_hM110_ (fun z => q1 z.1)]; exact p2 c k q1
    · rw [zupN k_hM110_ (fun z => by have := z.2; omega)]; exact p3 k hk
    · by_cases e2 : (k : Int) = x.1.toInt
      · exact zupE k_hM110_ rfl (by omega)
      · rw [zupN k_hM110_ (fun z => by have := z.2; omega)]; exact p4 k (by omega))
  exact g.2
theorem sheet93d {v : Int32} {D Da : mM} {w : Int32 × mM} (h : RCH (fun x y : Int32 × mM => ST_X12_sheet_93d v D x.1 x.2 y.1 y.2) ((0 : Int32), Da) w) (hv : 0 ≤ v.toInt) : (∀ (c : rf) (k : Nat), ¬ c = (68, 0, 0) → w.2.1 c k = Da.1 c k) ∧ (∀ k, ¬ (24 * v.toInt.toNat ≤ k ∧ k < 24 * v.toInt.toNat + 24) → w.2.1 (68, 0, 0) k = Da.1 (68, 0, 0) k) ∧ ∀ k : Nat, (k : Int) < w.1.toInt → w.2.1 (68, 0, 0) (24 * v.toInt.toNat + k) = 0 := by
  have q0 := il_0
  have g := rind h (fun z => 0 ≤ z.1.toInt ∧ (∀ (c : rf) (k : Nat), ¬ c = (68, 0, 0) → z.2.1 c k = Da.1 c k) ∧ (∀ k, ¬ (24 * v.toInt.toNat ≤ k ∧ k < 24 * v.toInt.toNat + 24) → z.2.1 (68, 0, 0) k = Da.1 (68, 0, 0) k) ∧ ∀ k : Nat, (k : Int) < z.1.toInt → z.2.1 (68, 0, 0) (24 * v.toInt.toNat + k) = 0) ⟨by dsimp only; omega, fun _ _ _ => rfl, fun _ _ => rfl, fun k hk => by dsimp only at hk; omega⟩ (fun x z p st => by
    (try dsimp only at p st ⊢)
    obtain ⟨p1, p2, p3, p4⟩ := p
    refine xE_ST_X12_sheet_93d st (fun k_hv0_93 k_hv1_93 _ k_hF_93 k_h152_ k_z153_ k_h154_ k_z155_ k_h156_ k_j159_ k_h160_ k_M157_ k_hM158_ k_z163_ k_h164_ k_hq_v4_93y k_hM_ => ?_)
    have e := eT k_hq_v4_93y
    rw [k_hM_]
    refine ⟨by omega, fun c k q1 => ?_, fun k hk => ?_, fun k hk => ?_⟩
    · rw [zupN k_hM158_ (fun z => q1 z.1)]; exact p2 c k q1
    · rw [zupN k_hM158_ (fun z => by have := z.2; omega)]; exact p3 k hk
    · by_cases e2 : (k : Int) = x.1.toInt
      · exact zupE k_hM158_ rfl (by omega)
      · rw [zupN k_hM158_ (fun z => by have := z.2; omega)]; exact p4 k (by omega))
  exact g.2
theorem sh_32 {v u t : Int32} {M M1 D D2 : mM} {r1 r2 : Int32} (h1 : SP_X11_sheet v u t M r1 M1) (h2 : SP_X12_sheet v u t D r2 D2) (hS : SHR M.1 D.1) (hD : InvD D) (hD2 : InvD D2) (hB : ∀ w, w < 4 → M1.1 (6, 0, w) 0 = D2.1 (66, 0, 0) w ∧ M1.1 (6, 0, w) 1 = D2.1 (67, 0, 0) w) : SHR M1.1 D2.1 := by
  have q0 := il_0
  have q1 := il_1
  have zb := sz_b hD
  have sw := fun (w : Nat) (hw : w < 4) => And.intro (eT (hS w hw).1) (eT (hS w hw).2.1)
  refine xE_SP_X11_sheet h1 ⟨(fun c_hs5_ c_h4_ => ⟨(fun c_h7_ c_h8_ c_j9_ c_h10_ c_h11_ c_M12_ _ c_hF16_ c_hs18_ c_hr_ c_hM_ => ?_), (fun c_h7_ => ⟨(fun c_h19_ c_h20_ => ⟨(fun c_h21_ => ⟨(fun c_h22_ c_j23_ c_h24_ c_h25_ c_M26_ _ c_hF30_ c_hs32_ c_hr_ c_hM_ => ?_), (fun c_h22_ c_M34_ _ c_hF38_ c_r33_ c_hs40_ c_hr_ c_hM_ => ?_)⟩), (fun c_h21_ c_M42_ _ c_hF46_ c_r41_ c_hs48_ c_hr_ c_hM_ => ?_)⟩), (fun c_h19_ => ⟨(fun c_h49_ c_h50_ => ⟨(fun c_h51_ => ⟨(fun c_h52_ c_j53_ c_h54_ c_h55_ c_M56_ _ c_hF60_ c_hs62_ c_hr_ c_hM_ => ?_), (fun c_h52_ c_M64_ _ c_hF68_ c_r63_ c_hs70_ c_hr_ c_hM_ => ?_)⟩), (fun c_h51_ c_M72_ _ c_hF76_ c_r71_ c_hs78_ c_hr_ c_hM_ => ?_)⟩), (fun c_h49_ => ⟨(fun c_h79_ c_h80_ => ⟨(fun c_h81_ => ⟨(fun c_h82_ c_j83_ c_h84_ c_h85_ c_M86_ _ c_hF90_ c_hs92_ c_hr_ c_hM_ => ?_), (fun c_h82_ c_M94_ _ c_hF98_ c_r93_ c_hs100_ c_hr_ c_hM_ => ?_)⟩), (fun c_h81_ c_M102_ _ c_hF106_ c_r101_ c_hs108_ c_hr_ c_hM_ => ?_)⟩), (fun c_h79_ c_M110_ _ c_hF114_ c_r109_ c_hs116_ c_hr_ c_hM_ => ?_)⟩)⟩)⟩)⟩), (fun c_hs5_ c_h4_ c_M119_ _ c_hF123_ c_r118_ c_hs125_ c_hr_ c_hM_ => ?_)⟩
  ·
    obtain rfl : c_j9_ = v.toInt.toNat := by omega
    have sv := sw v.toInt.toNat (by omega)
    have zbv := zb v.toInt.toNat
    refine xE_SP_X12_sheet h2 ⟨(fun d_hs5_ d_h4_ => ⟨(fun d_h7_ d_h8_ d_h9_ d_j12_ d_h13_ d_M10_ d_hM11_ d_h16_ d_j19_ d_h20_ d_M17_ d_hM18_ d_v4_93 d_hv0_93 d_hv1_93 d_M_93 d_hL_93 _ d_hF_93 d_h24_ d_hr_ d_hM_ => ?_), (fun d_h7_ => ⟨(fun d_h37_ d_h38_ => ⟨(fun d_h39_ d_h40_ => ⟨(fun d_h41_ d_j44_ d_h45_ d_M42_ d_hM43_ d_h48_ d_j51_ d_h52_ d_M49_ d_hM50_ d_v4_93 d_hv0_93 d_hv1_93 d_M_93 d_hL_93 _ d_hF_93 d_h56_ d_hr_ d_hM_ => ?_), (fun d_h41_ d_M70_ _ d_hF74_ d_r69_ d_hs76_ d_h72_ d_hr_ d_hM_ => ?_)⟩), (fun d_h39_ d_M78_ _ d_hF82_ d_r77_ d_hs84_ d_h80_ d_hr_ d_hM_ => ?_)⟩), (fun d_h37_ => ⟨(fun d_h85_ d_h86_ => ⟨(fun d_h87_ d_h88_ => ⟨(fun d_h89_ d_j92_ d_h93_ d_M90_ d_hM91_ d_h96_ d_j99_ d_h100_ d_M97_ d_hM98_ d_v4_93 d_hv0_93 d_hv1_93 d_M_93 d_hL_93 _ d_hF_93 d_h104_ d_hr_ d_hM_ => ?_), (fun d_h89_ d_M118_ _ d_hF122_ d_r117_ d_hs124_ d_h120_ d_hr_ d_hM_ => ?_)⟩), (fun d_h87_ d_M126_ _ d_hF130_ d_r125_ d_hs132_ d_h128_ d_hr_ d_hM_ => ?_)⟩), (fun d_h85_ => ⟨(fun d_h133_ d_h134_ => ⟨(fun d_h135_ d_h136_ => ⟨(fun d_h137_ d_j140_ d_h141_ d_M138_ d_hM139_ d_h144_ d_j147_ d_h148_ d_M145_ d_hM146_ d_v4_93 d_hv0_93 d_hv1_93 d_M_93 d_hL_93 _ d_hF_93 d_h152_ d_hr_ d_hM_ => ?_), (fun d_h137_ d_M166_ _ d_hF170_ d_r165_ d_hs172_ d_h168_ d_hr_ d_hM_ => ?_)⟩), (fun d_h135_ d_M174_ _ d_hF178_ d_r173_ d_hs180_ d_h176_ d_hr_ d_hM_ => ?_)⟩), (fun d_h133_ d_M182_ _ d_hF186_ d_r181_ d_hs188_ d_h184_ d_hr_ d_hM_ => ?_)⟩)⟩)⟩)⟩), (fun d_hs5_ d_h4_ d_M191_ _ d_hF195_ d_r190_ d_hs197_ d_h193_ d_hr_ d_hM_ => ?_)⟩
    · skip
      obtain rfl : d_j12_ = v.toInt.toNat := by omega
      obtain rfl : d_j19_ = v.toInt.toNat := by omega
      have sl := sheet93 d_hL_93 d_h4_.1
      obtain ⟨s1, s2, s3⟩ := sl
      refine xE_SP_X6_drop c_hs18_ (fun e_M1_ e_hM2_ e_M5_ e_hM6_ e_hM_ => ?_)
      refine SHR_sheet (v := v.toInt.toNat) hS (fun w => ⟨(zb w).2, (sz_b hD2 w).2⟩) (hB _ (by omega)) (fun w k hw => ?_) (fun w hw => ?_) (fun k hk => ?_) (fun i hi => ?_)
      · rw [c_hM_, e_hM_]
        exact ⟨by rw [zupR e_hM6_ (by simp), zupR e_hM2_ (by simp)], by rw [zupN e_hM6_ (fun z => hw (congrArg (fun c : rf => c.2.2) z.1)), zupN e_hM2_ (fun z => hw (congrArg (fun c : rf => c.2.2) z.1))]⟩
      · rw [d_hM_, s1 (66, 0, 0) w (by simp), s1 (67, 0, 0) w (by simp), zupR (c' := (66, 0, 0)) d_hM18_ (by simp), zupN (c' := (66, 0, 0)) d_hM11_ (fun z => hw z.2), zupN (c' := (67, 0, 0)) d_hM18_ (fun z => hw z.2), zupR (c' := (67, 0, 0)) d_hM11_ (by simp)]
        exact ⟨rfl, rfl⟩
      · rw [d_hM_, s2 k hk, zupR d_hM18_ (by simp), zupR d_hM11_ (by simp)]
      · exfalso
        rw [d_hM_, s1 (67, 0, 0) _ (by simp), zupE d_hM18_ rfl rfl] at hi
        omega
    · skip
      obtain rfl : d_j44_ = v.toInt.toNat := by omega
      obtain rfl : d_j51_ = v.toInt.toNat := by omega
      have sl := sheet93b d_hL_93 d_h4_.1
      obtain ⟨s1, s2, s3⟩ := sl
      refine xE_SP_X6_drop c_hs18_ (fun e_M1_ e_hM2_ e_M5_ e_hM6_ e_hM_ => ?_)
      refine SHR_sheet (v := v.toInt.toNat) hS (fun w => ⟨(zb w).2, (sz_b hD2 w).2⟩) (hB _ (by omega)) (fun w k hw => ?_) (fun w hw => ?_) (fun k hk => ?_) (fun i hi => ?_)
      · rw [c_hM_, e_hM_]
        exact ⟨by rw [zupR e_hM6_ (by simp), zupR e_hM2_ (by simp)], by rw [zupN e_hM6_ (fun z => hw (congrArg (fun c : rf => c.2.2) z.1)), zupN e_hM2_ (fun z => hw (congrArg (fun c : rf => c.2.2) z.1))]⟩
      · rw [d_hM_, s1 (66, 0, 0) w (by simp), s1 (67, 0, 0) w (by simp), zupR (c' := (66, 0, 0)) d_hM50_ (by simp), zupN (c' := (66, 0, 0)) d_hM43_ (fun z => hw z.2), zupN (c' := (67, 0, 0)) d_hM50_ (fun z => hw z.2), zupR (c' := (67, 0, 0)) d_hM43_ (by simp)]
        exact ⟨rfl, rfl⟩
      · rw [d_hM_, s2 k hk, zupR d_hM50_ (by simp), zupR d_hM43_ (by simp)]
      · exfalso
        rw [d_hM_, s1 (67, 0, 0) _ (by simp), zupE d_hM50_ rfl rfl] at hi
        omega
    · skip
      omega
    · skip
      omega
    · skip
      obtain rfl : d_j92_ = v.toInt.toNat := by omega
      obtain rfl : d_j99_ = v.toInt.toNat := by omega
      have sl := sheet93c d_hL_93 d_h4_.1
      obtain ⟨s1, s2, s3⟩ := sl
      refine xE_SP_X6_drop c_hs18_ (fun e_M1_ e_hM2_ e_M5_ e_hM6_ e_hM_ => ?_)
      refine SHR_sheet (v := v.toInt.toNat) hS (fun w => ⟨(zb w).2, (sz_b hD2 w).2⟩) (hB _ (by omega)) (fun w k hw => ?_) (fun w hw => ?_) (fun k hk => ?_) (fun i hi => ?_)
      · rw [c_hM_, e_hM_]
        exact ⟨by rw [zupR e_hM6_ (by simp), zupR e_hM2_ (by simp)], by rw [zupN e_hM6_ (fun z => hw (congrArg (fun c : rf => c.2.2) z.1)), zupN e_hM2_ (fun z => hw (congrArg (fun c : rf => c.2.2) z.1))]⟩
      · rw [d_hM_, s1 (66, 0, 0) w (by simp), s1 (67, 0, 0) w (by simp), zupR (c' := (66, 0, 0)) d_hM98_ (by simp), zupN (c' := (66, 0, 0)) d_hM91_ (fun z => hw z.2), zupN (c' := (67, 0, 0)) d_hM98_ (fun z => hw z.2), zupR (c' := (67, 0, 0)) d_hM91_ (by simp)]
        exact ⟨rfl, rfl⟩
      · rw [d_hM_, s2 k hk, zupR d_hM98_ (by simp), zupR d_hM91_ (by simp)]
      · exfalso
        rw [d_hM_, s1 (67, 0, 0) _ (by simp), zupE d_hM98_ rfl rfl] at hi
        omega
    · skip
      omega
    · skip
      omega
    · skip
      obtain rfl : d_j140_ = v.toInt.toNat := by omega
      obtain rfl : d_j147_ = v.toInt.toNat := by omega
      have sl := sheet93d d_hL_93 d_h4_.1
      obtain ⟨s1, s2, s3⟩ := sl
      refine xE_SP_X6_drop c_hs18_ (fun e_M1_ e_hM2_ e_M5_ e_hM6_ e_hM_ => ?_)
      refine SHR_sheet (v := v.toInt.toNat) hS (fun w => ⟨(zb w).2, (sz_b hD2 w).2⟩) (hB _ (by omega)) (fun w k hw => ?_) (fun w hw => ?_) (fun k hk => ?_) (fun i hi => ?_)
      · rw [c_hM_, e_hM_]
        exact ⟨by rw [zupR e_hM6_ (by simp), zupR e_hM2_ (by simp)], by rw [zupN e_hM6_ (fun z => hw (congrArg (fun c : rf => c.2.2) z.1)), zupN e_hM2_ (fun z => hw (congrArg (fun c : rf => c.2.2) z.1))]⟩
      · rw [d_hM_, s1 (66, 0, 0) w (by simp), s1 (67, 0, 0) w (by simp), zupR (c' := (66, 0, 0)) d_hM146_ (by simp), zupN (c' := (66, 0, 0)) d_hM139_ (fun z => hw z.2), zupN (c' := (67, 0, 0)) d_hM146_ (fun z => hw z.2), zupR (c' := (67, 0, 0)) d_hM139_ (by simp)]
        exact ⟨rfl, rfl⟩
      · rw [d_hM_, s2 k hk, zupR d_hM146_ (by simp), zupR d_hM139_ (by simp)]
      · exfalso
        rw [d_hM_, s1 (67, 0, 0) _ (by simp), zupE d_hM146_ rfl rfl] at hi
        omega
    · skip
      omega
    · skip
      omega
    · skip
      omega
    · skip
      omega
  ·
    obtain rfl : c_j23_ = v.toInt.toNat := by omega
    have sv := sw v.toInt.toNat (by omega)
    have zbv := zb v.toInt.toNat
    refine xE_SP_X12_sheet h2 ⟨(fun d_hs5_ d_h4_ => ⟨(fun d_h7_ d_h8_ d_h9_ d_j12_ d_h13_ d_M10_ d_hM11_ d_h16_ d_j19_ d_h20_ d_M17_ d_hM18_ d_v4_93 d_hv0_93 d_hv1_93 d_M_93 d_hL_93 _ d_hF_93 d_h24_ d_hr_ d_hM_ => ?_), (fun d_h7_ => ⟨(fun d_h37_ d_h38_ => ⟨(fun d_h39_ d_h40_ => ⟨(fun d_h41_ d_j44_ d_h45_ d_M42_ d_hM43_ d_h48_ d_j51_ d_h52_ d_M49_ d_hM50_ d_v4_93 d_hv0_93 d_hv1_93 d_M_93 d_hL_93 _ d_hF_93 d_h56_ d_hr_ d_hM_ => ?_), (fun d_h41_ d_M70_ _ d_hF74_ d_r69_ d_hs76_ d_h72_ d_hr_ d_hM_ => ?_)⟩), (fun d_h39_ d_M78_ _ d_hF82_ d_r77_ d_hs84_ d_h80_ d_hr_ d_hM_ => ?_)⟩), (fun d_h37_ => ⟨(fun d_h85_ d_h86_ => ⟨(fun d_h87_ d_h88_ => ⟨(fun d_h89_ d_j92_ d_h93_ d_M90_ d_hM91_ d_h96_ d_j99_ d_h100_ d_M97_ d_hM98_ d_v4_93 d_hv0_93 d_hv1_93 d_M_93 d_hL_93 _ d_hF_93 d_h104_ d_hr_ d_hM_ => ?_), (fun d_h89_ d_M118_ _ d_hF122_ d_r117_ d_hs124_ d_h120_ d_hr_ d_hM_ => ?_)⟩), (fun d_h87_ d_M126_ _ d_hF130_ d_r125_ d_hs132_ d_h128_ d_hr_ d_hM_ => ?_)⟩), (fun d_h85_ => ⟨(fun d_h133_ d_h134_ => ⟨(fun d_h135_ d_h136_ => ⟨(fun d_h137_ d_j140_ d_h141_ d_M138_ d_hM139_ d_h144_ d_j147_ d_h148_ d_M145_ d_hM146_ d_v4_93 d_hv0_93 d_hv1_93 d_M_93 d_hL_93 _ d_hF_93 d_h152_ d_hr_ d_hM_ => ?_), (fun d_h137_ d_M166_ _ d_hF170_ d_r165_ d_hs172_ d_h168_ d_hr_ d_hM_ => ?_)⟩), (fun d_h135_ d_M174_ _ d_hF178_ d_r173_ d_hs180_ d_h176_ d_hr_ d_hM_ => ?_)⟩), (fun d_h133_ d_M182_ _ d_hF186_ d_r181_ d_hs188_ d_h184_ d_hr_ d_hM_ => ?_)⟩)⟩)⟩)⟩), (fun d_hs5_ d_h4_ d_M191_ _ d_hF195_ d_r190_ d_hs197_ d_h193_ d_hr_ d_hM_ => ?_)⟩
    · skip
      obtain rfl : d_j12_ = v.toInt.toNat := by omega
      obtain rfl : d_j19_ = v.toInt.toNat := by omega
      have sl := sheet93 d_hL_93 d_h4_.1
      obtain ⟨s1, s2, s3⟩ := sl
      have bg := x6beginY c_hs32_
      obtain ⟨b1, b2⟩ := bg
      refine SHR_sheet (v := v.toInt.toNat) hS (fun w => ⟨(zb w).2, (sz_b hD2 w).2⟩) (hB _ (by omega)) (fun w k hw => ?_) (fun w hw => ?_) (fun k hk => ?_) (fun i hi => ?_)
      · have ne : ∀ r r2 : Nat, ¬ ((r, 0, w) : rf) = (r2, 0, v.toInt.toNat) := fun r r2 z => hw (congrArg (fun c : rf => c.2.2) z)
        rw [c_hM_]
        exact ⟨b1 _ _ (ne _ _) (ne _ _), b1 _ _ (ne _ _) (ne _ _)⟩
      · rw [d_hM_, s1 (66, 0, 0) w (by simp), s1 (67, 0, 0) w (by simp), zupR (c' := (66, 0, 0)) d_hM18_ (by simp), zupN (c' := (66, 0, 0)) d_hM11_ (fun z => hw z.2), zupN (c' := (67, 0, 0)) d_hM18_ (fun z => hw z.2), zupR (c' := (67, 0, 0)) d_hM11_ (by simp)]
        exact ⟨rfl, rfl⟩
      · rw [d_hM_, s2 k hk, zupR d_hM18_ (by simp), zupR d_hM11_ (by simp)]
      · have z24 := (sz_b hD2 v.toInt.toNat).2
        rw [c_hM_, b2 i (by omega), d_hM_, s3 i (by dsimp only; omega)]
    · skip
      obtain rfl : d_j44_ = v.toInt.toNat := by omega
      obtain rfl : d_j51_ = v.toInt.toNat := by omega
      have sl := sheet93b d_hL_93 d_h4_.1
      obtain ⟨s1, s2, s3⟩ := sl
      have bg := x6beginY c_hs32_
      obtain ⟨b1, b2⟩ := bg
      refine SHR_sheet (v := v.toInt.toNat) hS (fun w => ⟨(zb w).2, (sz_b hD2 w).2⟩) (hB _ (by omega)) (fun w k hw => ?_) (fun w hw => ?_) (fun k hk => ?_) (fun i hi => ?_)
      · have ne : ∀ r r2 : Nat, ¬ ((r, 0, w) : rf) = (r2, 0, v.toInt.toNat) := fun r r2 z => hw (congrArg (fun c : rf => c.2.2) z)
        rw [c_hM_]
        exact ⟨b1 _ _ (ne _ _) (ne _ _), b1 _ _ (ne _ _) (ne _ _)⟩
      · rw [d_hM_, s1 (66, 0, 0) w (by simp), s1 (67, 0, 0) w (by simp), zupR (c' := (66, 0, 0)) d_hM50_ (by simp), zupN (c' := (66, 0, 0)) d_hM43_ (fun z => hw z.2), zupN (c' := (67, 0, 0)) d_hM50_ (fun z => hw z.2), zupR (c' := (67, 0, 0)) d_hM43_ (by simp)]
        exact ⟨rfl, rfl⟩
      · rw [d_hM_, s2 k hk, zupR d_hM50_ (by simp), zupR d_hM43_ (by simp)]
      · have z24 := (sz_b hD2 v.toInt.toNat).2
        rw [c_hM_, b2 i (by omega), d_hM_, s3 i (by dsimp only; omega)]
    · skip
      omega
    · skip
      omega
    · skip
      obtain rfl : d_j92_ = v.toInt.toNat := by omega
      obtain rfl : d_j99_ = v.toInt.toNat := by omega
      have sl := sheet93c d_hL_93 d_h4_.1
      obtain ⟨s1, s2, s3⟩ := sl
      have bg := x6beginY c_hs32_
      obtain ⟨b1, b2⟩ := bg
      refine SHR_sheet (v := v.toInt.toNat) hS (fun w => ⟨(zb w).2, (sz_b hD2 w).2⟩) (hB _ (by omega)) (fun w k hw => ?_) (fun w hw => ?_) (fun k hk => ?_) (fun i hi => ?_)
      · have ne : ∀ r r2 : Nat, ¬ ((r, 0, w) : rf) = (r2, 0, v.toInt.toNat) := fun r r2 z => hw (congrArg (fun c : rf => c.2.2) z)
        rw [c_hM_]
        exact ⟨b1 _ _ (ne _ _) (ne _ _), b1 _ _ (ne _ _) (ne _ _)⟩
      · rw [d_hM_, s1 (66, 0, 0) w (by simp), s1 (67, 0, 0) w (by simp), zupR (c' := (66, 0, 0)) d_hM98_ (by simp), zupN (c' := (66, 0, 0)) d_hM91_ (fun z => hw z.2), zupN (c' := (67, 0, 0)) d_hM98_ (fun z => hw z.2), zupR (c' := (67, 0, 0)) d_hM91_ (by simp)]
        exact ⟨rfl, rfl⟩
      · rw [d_hM_, s2 k hk, zupR d_hM98_ (by simp), zupR d_hM91_ (by simp)]
      · have z24 := (sz_b hD2 v.toInt.toNat).2
        rw [c_hM_, b2 i (by omega), d_hM_, s3 i (by dsimp only; omega)]
    · skip
      omega
    · skip
      omega
    · skip
      obtain rfl : d_j140_ = v.toInt.toNat := by omega
      obtain rfl : d_j147_ = v.toInt.toNat := by omega
      have sl := sheet93d d_hL_93 d_h4_.1
      obtain ⟨s1, s2, s3⟩ := sl
      have bg := x6beginY c_hs32_
      obtain ⟨b1, b2⟩ := bg
      refine SHR_sheet (v := v.toInt.toNat) hS (fun w => ⟨(zb w).2, (sz_b hD2 w).2⟩) (hB _ (by omega)) (fun w k hw => ?_) (fun w hw => ?_) (fun k hk => ?_) (fun i hi => ?_)
      · have ne : ∀ r r2 : Nat, ¬ ((r, 0, w) : rf) = (r2, 0, v.toInt.toNat) := fun r r2 z => hw (congrArg (fun c : rf => c.2.2) z)
        rw [c_hM_]
        exact ⟨b1 _ _ (ne _ _) (ne _ _), b1 _ _ (ne _ _) (ne _ _)⟩
      · rw [d_hM_, s1 (66, 0, 0) w (by simp), s1 (67, 0, 0) w (by simp), zupR (c' := (66, 0, 0)) d_hM146_ (by simp), zupN (c' := (66, 0, 0)) d_hM139_ (fun z => hw z.2), zupN (c' := (67, 0, 0)) d_hM146_ (fun z => hw z.2), zupR (c' := (67, 0, 0)) d_hM139_ (by simp)]
        exact ⟨rfl, rfl⟩
      · rw [d_hM_, s2 k hk, zupR d_hM146_ (by simp), zupR d_hM139_ (by simp)]
      · have z24 := (sz_b hD2 v.toInt.toNat).2
        rw [c_hM_, b2 i (by omega), d_hM_, s3 i (by dsimp only; omega)]
    · skip
      omega
    · skip
      omega
    · skip
      omega
    · skip
      omega
  ·
    refine xE_SP_X12_sheet h2 ⟨(fun d_hs5_ d_h4_ => ⟨(fun d_h7_ d_h8_ d_h9_ d_j12_ d_h13_ d_M10_ d_hM11_ d_h16_ d_j19_ d_h20_ d_M17_ d_hM18_ d_v4_93 d_hv0_93 d_hv1_93 d_M_93 d_hL_93 _ d_hF_93 d_h24_ d_hr_ d_hM_ => ?_), (fun d_h7_ => ⟨(fun d_h37_ d_h38_ => ⟨(fun d_h39_ d_h40_ => ⟨(fun d_h41_ d_j44_ d_h45_ d_M42_ d_hM43_ d_h48_ d_j51_ d_h52_ d_M49_ d_hM50_ d_v4_93 d_hv0_93 d_hv1_93 d_M_93 d_hL_93 _ d_hF_93 d_h56_ d_hr_ d_hM_ => ?_), (fun d_h41_ d_M70_ _ d_hF74_ d_r69_ d_hs76_ d_h72_ d_hr_ d_hM_ => ?_)⟩), (fun d_h39_ d_M78_ _ d_hF82_ d_r77_ d_hs84_ d_h80_ d_hr_ d_hM_ => ?_)⟩), (fun d_h37_ => ⟨(fun d_h85_ d_h86_ => ⟨(fun d_h87_ d_h88_ => ⟨(fun d_h89_ d_j92_ d_h93_ d_M90_ d_hM91_ d_h96_ d_j99_ d_h100_ d_M97_ d_hM98_ d_v4_93 d_hv0_93 d_hv1_93 d_M_93 d_hL_93 _ d_hF_93 d_h104_ d_hr_ d_hM_ => ?_), (fun d_h89_ d_M118_ _ d_hF122_ d_r117_ d_hs124_ d_h120_ d_hr_ d_hM_ => ?_)⟩), (fun d_h87_ d_M126_ _ d_hF130_ d_r125_ d_hs132_ d_h128_ d_hr_ d_hM_ => ?_)⟩), (fun d_h85_ => ⟨(fun d_h133_ d_h134_ => ⟨(fun d_h135_ d_h136_ => ⟨(fun d_h137_ d_j140_ d_h141_ d_M138_ d_hM139_ d_h144_ d_j147_ d_h148_ d_M145_ d_hM146_ d_v4_93 d_hv0_93 d_hv1_93 d_M_93 d_hL_93 _ d_hF_93 d_h152_ d_hr_ d_hM_ => ?_), (fun d_h137_ d_M166_ _ d_hF170_ d_r165_ d_hs172_ d_h168_ d_hr_ d_hM_ => ?_)⟩), (fun d_h135_ d_M174_ _ d_hF178_ d_r173_ d_hs180_ d_h176_ d_hr_ d_hM_ => ?_)⟩), (fun d_h133_ d_M182_ _ d_hF186_ d_r181_ d_hs188_ d_h184_ d_hr_ d_hM_ => ?_)⟩)⟩)⟩)⟩), (fun d_hs5_ d_h4_ d_M191_ _ d_hF195_ d_r190_ d_hs197_ d_h193_ d_hr_ d_hM_ => ?_)⟩
    · skip
      obtain rfl : d_j12_ = v.toInt.toNat := by omega
      obtain rfl : d_j19_ = v.toInt.toNat := by omega
      omega
    · skip
      obtain rfl : d_j44_ = v.toInt.toNat := by omega
      obtain rfl : d_j51_ = v.toInt.toNat := by omega
      omega
    · skip
      exact shE hS c_hF38_ c_hM_ d_hF74_ d_hM_
    · skip
      exact shE hS c_hF38_ c_hM_ d_hF82_ d_hM_
    · skip
      obtain rfl : d_j92_ = v.toInt.toNat := by omega
      obtain rfl : d_j99_ = v.toInt.toNat := by omega
      omega
    · skip
      exact shE hS c_hF38_ c_hM_ d_hF122_ d_hM_
    · skip
      exact shE hS c_hF38_ c_hM_ d_hF130_ d_hM_
    · skip
      obtain rfl : d_j140_ = v.toInt.toNat := by omega
      obtain rfl : d_j147_ = v.toInt.toNat := by omega
      omega
    · skip
      exact shE hS c_hF38_ c_hM_ d_hF170_ d_hM_
    · skip
      exact shE hS c_hF38_ c_hM_ d_hF178_ d_hM_
    · skip
      exact shE hS c_hF38_ c_hM_ d_hF186_ d_hM_
    · skip
      exact shE hS c_hF38_ c_hM_ d_hF195_ d_hM_
  ·
    refine xE_SP_X12_sheet h2 ⟨(fun d_hs5_ d_h4_ => ⟨(fun d_h7_ d_h8_ d_h9_ d_j12_ d_h13_ d_M10_ d_hM11_ d_h16_ d_j19_ d_h20_ d_M17_ d_hM18_ d_v4_93 d_hv0_93 d_hv1_93 d_M_93 d_hL_93 _ d_hF_93 d_h24_ d_hr_ d_hM_ => ?_), (fun d_h7_ => ⟨(fun d_h37_ d_h38_ => ⟨(fun d_h39_ d_h40_ => ⟨(fun d_h41_ d_j44_ d_h45_ d_M42_ d_hM43_ d_h48_ d_j51_ d_h52_ d_M49_ d_hM50_ d_v4_93 d_hv0_93 d_hv1_93 d_M_93 d_hL_93 _ d_hF_93 d_h56_ d_hr_ d_hM_ => ?_), (fun d_h41_ d_M70_ _ d_hF74_ d_r69_ d_hs76_ d_h72_ d_hr_ d_hM_ => ?_)⟩), (fun d_h39_ d_M78_ _ d_hF82_ d_r77_ d_hs84_ d_h80_ d_hr_ d_hM_ => ?_)⟩), (fun d_h37_ => ⟨(fun d_h85_ d_h86_ => ⟨(fun d_h87_ d_h88_ => ⟨(fun d_h89_ d_j92_ d_h93_ d_M90_ d_hM91_ d_h96_ d_j99_ d_h100_ d_M97_ d_hM98_ d_v4_93 d_hv0_93 d_hv1_93 d_M_93 d_hL_93 _ d_hF_93 d_h104_ d_hr_ d_hM_ => ?_), (fun d_h89_ d_M118_ _ d_hF122_ d_r117_ d_hs124_ d_h120_ d_hr_ d_hM_ => ?_)⟩), (fun d_h87_ d_M126_ _ d_hF130_ d_r125_ d_hs132_ d_h128_ d_hr_ d_hM_ => ?_)⟩), (fun d_h85_ => ⟨(fun d_h133_ d_h134_ => ⟨(fun d_h135_ d_h136_ => ⟨(fun d_h137_ d_j140_ d_h141_ d_M138_ d_hM139_ d_h144_ d_j147_ d_h148_ d_M145_ d_hM146_ d_v4_93 d_hv0_93 d_hv1_93 d_M_93 d_hL_93 _ d_hF_93 d_h152_ d_hr_ d_hM_ => ?_), (fun d_h137_ d_M166_ _ d_hF170_ d_r165_ d_hs172_ d_h168_ d_hr_ d_hM_ => ?_)⟩), (fun d_h135_ d_M174_ _ d_hF178_ d_r173_ d_hs180_ d_h176_ d_hr_ d_hM_ => ?_)⟩), (fun d_h133_ d_M182_ _ d_hF186_ d_r181_ d_hs188_ d_h184_ d_hr_ d_hM_ => ?_)⟩)⟩)⟩)⟩), (fun d_hs5_ d_h4_ d_M191_ _ d_hF195_ d_r190_ d_hs197_ d_h193_ d_hr_ d_hM_ => ?_)⟩
    · skip
      obtain rfl : d_j12_ = v.toInt.toNat := by omega
      obtain rfl : d_j19_ = v.toInt.toNat := by omega
      omega
    · skip
      obtain rfl : d_j44_ = v.toInt.toNat := by omega
      obtain rfl : d_j51_ = v.toInt.toNat := by omega
      omega
    · skip
      exact shE hS c_hF46_ c_hM_ d_hF74_ d_hM_
    · skip
      exact shE hS c_hF46_ c_hM_ d_hF82_ d_hM_
    · skip
      obtain rfl : d_j92_ = v.toInt.toNat := by omega
      obtain rfl : d_j99_ = v.toInt.toNat := by omega
      omega
    · skip
      exact shE hS c_hF46_ c_hM_ d_hF122_ d_hM_
    · skip
      exact shE hS c_hF46_ c_hM_ d_hF130_ d_hM_
    · skip
      obtain rfl : d_j140_ = v.toInt.toNat := by omega
      obtain rfl : d_j147_ = v.toInt.toNat := by omega
      omega
    · skip
      exact shE hS c_hF46_ c_hM_ d_hF170_ d_hM_
    · skip
      exact shE hS c_hF46_ c_hM_ d_hF178_ d_hM_
    · skip
      exact shE hS c_hF46_ c_hM_ d_hF186_ d_hM_
    · skip
      exact shE hS c_hF46_ c_hM_ d_hF195_ d_hM_
  ·
    obtain rfl : c_j53_ = v.toInt.toNat := by omega
    have sv := sw v.toInt.toNat (by omega)
    have zbv := zb v.toInt.toNat
    refine xE_SP_X12_sheet h2 ⟨(fun d_hs5_ d_h4_ => ⟨(fun d_h7_ d_h8_ d_h9_ d_j12_ d_h13_ d_M10_ d_hM11_ d_h16_ d_j19_ d_h20_ d_M17_ d_hM18_ d_v4_93 d_hv0_93 d_hv1_93 d_M_93 d_hL_93 _ d_hF_93 d_h24_ d_hr_ d_hM_ => ?_), (fun d_h7_ => ⟨(fun d_h37_ d_h38_ => ⟨(fun d_h39_ d_h40_ => ⟨(fun d_h41_ d_j44_ d_h45_ d_M42_ d_hM43_ d_h48_ d_j51_ d_h52_ d_M49_ d_hM50_ d_v4_93 d_hv0_93 d_hv1_93 d_M_93 d_hL_93 _ d_hF_93 d_h56_ d_hr_ d_hM_ => ?_), (fun d_h41_ d_M70_ _ d_hF74_ d_r69_ d_hs76_ d_h72_ d_hr_ d_hM_ => ?_)⟩), (fun d_h39_ d_M78_ _ d_hF82_ d_r77_ d_hs84_ d_h80_ d_hr_ d_hM_ => ?_)⟩), (fun d_h37_ => ⟨(fun d_h85_ d_h86_ => ⟨(fun d_h87_ d_h88_ => ⟨(fun d_h89_ d_j92_ d_h93_ d_M90_ d_hM91_ d_h96_ d_j99_ d_h100_ d_M97_ d_hM98_ d_v4_93 d_hv0_93 d_hv1_93 d_M_93 d_hL_93 _ d_hF_93 d_h104_ d_hr_ d_hM_ => ?_), (fun d_h89_ d_M118_ _ d_hF122_ d_r117_ d_hs124_ d_h120_ d_hr_ d_hM_ => ?_)⟩), (fun d_h87_ d_M126_ _ d_hF130_ d_r125_ d_hs132_ d_h128_ d_hr_ d_hM_ => ?_)⟩), (fun d_h85_ => ⟨(fun d_h133_ d_h134_ => ⟨(fun d_h135_ d_h136_ => ⟨(fun d_h137_ d_j140_ d_h141_ d_M138_ d_hM139_ d_h144_ d_j147_ d_h148_ d_M145_ d_hM146_ d_v4_93 d_hv0_93 d_hv1_93 d_M_93 d_hL_93 _ d_hF_93 d_h152_ d_hr_ d_hM_ => ?_), (fun d_h137_ d_M166_ _ d_hF170_ d_r165_ d_hs172_ d_h168_ d_hr_ d_hM_ => ?_)⟩), (fun d_h135_ d_M174_ _ d_hF178_ d_r173_ d_hs180_ d_h176_ d_hr_ d_hM_ => ?_)⟩), (fun d_h133_ d_M182_ _ d_hF186_ d_r181_ d_hs188_ d_h184_ d_hr_ d_hM_ => ?_)⟩)⟩)⟩)⟩), (fun d_hs5_ d_h4_ d_M191_ _ d_hF195_ d_r190_ d_hs197_ d_h193_ d_hr_ d_hM_ => ?_)⟩
    · skip
      obtain rfl : d_j12_ = v.toInt.toNat := by omega
      obtain rfl : d_j19_ = v.toInt.toNat := by omega
      have sl := sheet93 d_hL_93 d_h4_.1
      obtain ⟨s1, s2, s3⟩ := sl
      have bg := x6beginY c_hs62_
      obtain ⟨b1, b2⟩ := bg
      refine SHR_sheet (v := v.toInt.toNat) hS (fun w => ⟨(zb w).2, (sz_b hD2 w).2⟩) (hB _ (by omega)) (fun w k hw => ?_) (fun w hw => ?_) (fun k hk => ?_) (fun i hi => ?_)
      · have ne : ∀ r r2 : Nat, ¬ ((r, 0, w) : rf) = (r2, 0, v.toInt.toNat) := fun r r2 z => hw (congrArg (fun c : rf => c.2.2) z)
        rw [c_hM_]
        exact ⟨b1 _ _ (ne _ _) (ne _ _), b1 _ _ (ne _ _) (ne _ _)⟩
      · rw [d_hM_, s1 (66, 0, 0) w (by simp), s1 (67, 0, 0) w (by simp), zupR (c' := (66, 0, 0)) d_hM18_ (by simp), zupN (c' := (66, 0, 0)) d_hM11_ (fun z => hw z.2), zupN (c' := (67, 0, 0)) d_hM18_ (fun z => hw z.2), zupR (c' := (67, 0, 0)) d_hM11_ (by simp)]
        exact ⟨rfl, rfl⟩
      · rw [d_hM_, s2 k hk, zupR d_hM18_ (by simp), zupR d_hM11_ (by simp)]
      · have z24 := (sz_b hD2 v.toInt.toNat).2
        rw [c_hM_, b2 i (by omega), d_hM_, s3 i (by dsimp only; omega)]
    · skip
      obtain rfl : d_j44_ = v.toInt.toNat := by omega
      obtain rfl : d_j51_ = v.toInt.toNat := by omega
      have sl := sheet93b d_hL_93 d_h4_.1
      obtain ⟨s1, s2, s3⟩ := sl
      have bg := x6beginY c_hs62_
      obtain ⟨b1, b2⟩ := bg
      refine SHR_sheet (v := v.toInt.toNat) hS (fun w => ⟨(zb w).2, (sz_b hD2 w).2⟩) (hB _ (by omega)) (fun w k hw => ?_) (fun w hw => ?_) (fun k hk => ?_) (fun i hi => ?_)
      · have ne : ∀ r r2 : Nat, ¬ ((r, 0, w) : rf) = (r2, 0, v.toInt.toNat) := fun r r2 z => hw (congrArg (fun c : rf => c.2.2) z)
        rw [c_hM_]
        exact ⟨b1 _ _ (ne _ _) (ne _ _), b1 _ _ (ne _ _) (ne _ _)⟩
      · rw [d_hM_, s1 (66, 0, 0) w (by simp), s1 (67, 0, 0) w (by simp), zupR (c' := (66, 0, 0)) d_hM50_ (by simp), zupN (c' := (66, 0, 0)) d_hM43_ (fun z => hw z.2), zupN (c' := (67, 0, 0)) d_hM50_ (fun z => hw z.2), zupR (c' := (67, 0, 0)) d_hM43_ (by simp)]
        exact ⟨rfl, rfl⟩
      · rw [d_hM_, s2 k hk, zupR d_hM50_ (by simp), zupR d_hM43_ (by simp)]
      · have z24 := (sz_b hD2 v.toInt.toNat).2
        rw [c_hM_, b2 i (by omega), d_hM_, s3 i (by dsimp only; omega)]
    · skip
      omega
    · skip
      omega
    · skip
      obtain rfl : d_j92_ = v.toInt.toNat := by omega
      obtain rfl : d_j99_ = v.toInt.toNat := by omega
      have sl := sheet93c d_hL_93 d_h4_.1
      obtain ⟨s1, s2, s3⟩ := sl
      have bg := x6beginY c_hs62_
      obtain ⟨b1, b2⟩ := bg
      refine SHR_sheet (v := v.toInt.toNat) hS (fun w => ⟨(zb w).2, (sz_b hD2 w).2⟩) (hB _ (by omega)) (fun w k hw => ?_) (fun w hw => ?_) (fun k hk => ?_) (fun i hi => ?_)
      · have ne : ∀ r r2 : Nat, ¬ ((r, 0, w) : rf) = (r2, 0, v.toInt.toNat) := fun r r2 z => hw (congrArg (fun c : rf => c.2.2) z)
        rw [c_hM_]
        exact ⟨b1 _ _ (ne _ _) (ne _ _), b1 _ _ (ne _ _) (ne _ _)⟩
      · rw [d_hM_, s1 (66, 0, 0) w (by simp), s1 (67, 0, 0) w (by simp), zupR (c' := (66, 0, 0)) d_hM98_ (by simp), zupN (c' := (66, 0, 0)) d_hM91_ (fun z => hw z.2), zupN (c' := (67, 0, 0)) d_hM98_ (fun z => hw z.2), zupR (c' := (67, 0, 0)) d_hM91_ (by simp)]
        exact ⟨rfl, rfl⟩
      · rw [d_hM_, s2 k hk, zupR d_hM98_ (by simp), zupR d_hM91_ (by simp)]
      · have z24 := (sz_b hD2 v.toInt.toNat).2
        rw [c_hM_, b2 i (by omega), d_hM_, s3 i (by dsimp only; omega)]
    · skip
      omega
    · skip
      omega
    · skip
      obtain rfl : d_j140_ = v.toInt.toNat := by omega
      obtain rfl : d_j147_ = v.toInt.toNat := by omega
      have sl := sheet93d d_hL_93 d_h4_.1
      obtain ⟨s1, s2, s3⟩ := sl
      have bg := x6beginY c_hs62_
      obtain ⟨b1, b2⟩ := bg
      refine SHR_sheet (v := v.toInt.toNat) hS (fun w => ⟨(zb w).2, (sz_b hD2 w).2⟩) (hB _ (by omega)) (fun w k hw => ?_) (fun w hw => ?_) (fun k hk => ?_) (fun i hi => ?_)
      · have ne : ∀ r r2 : Nat, ¬ ((r, 0, w) : rf) = (r2, 0, v.toInt.toNat) := fun r r2 z => hw (congrArg (fun c : rf => c.2.2) z)
        rw [c_hM_]
        exact ⟨b1 _ _ (ne _ _) (ne _ _), b1 _ _ (ne _ _) (ne _ _)⟩
      · rw [d_hM_, s1 (66, 0, 0) w (by simp), s1 (67, 0, 0) w (by simp), zupR (c' := (66, 0, 0)) d_hM146_ (by simp), zupN (c' := (66, 0, 0)) d_hM139_ (fun z => hw z.2), zupN (c' := (67, 0, 0)) d_hM146_ (fun z => hw z.2), zupR (c' := (67, 0, 0)) d_hM139_ (by simp)]
        exact ⟨rfl, rfl⟩
      · rw [d_hM_, s2 k hk, zupR d_hM146_ (by simp), zupR d_hM139_ (by simp)]
      · have z24 := (sz_b hD2 v.toInt.toNat).2
        rw [c_hM_, b2 i (by omega), d_hM_, s3 i (by dsimp only; omega)]
    · skip
      omega
    · skip
      omega
    · skip
      omega
    · skip
      omega
  ·
    refine xE_SP_X12_sheet h2 ⟨(fun d_hs5_ d_h4_ => ⟨(fun d_h7_ d_h8_ d_h9_ d_j12_ d_h13_ d_M10_ d_hM11_ d_h16_ d_j19_ d_h20_ d_M17_ d_hM18_ d_v4_93 d_hv0_93 d_hv1_93 d_M_93 d_hL_93 _ d_hF_93 d_h24_ d_hr_ d_hM_ => ?_), (fun d_h7_ => ⟨(fun d_h37_ d_h38_ => ⟨(fun d_h39_ d_h40_ => ⟨(fun d_h41_ d_j44_ d_h45_ d_M42_ d_hM43_ d_h48_ d_j51_ d_h52_ d_M49_ d_hM50_ d_v4_93 d_hv0_93 d_hv1_93 d_M_93 d_hL_93 _ d_hF_93 d_h56_ d_hr_ d_hM_ => ?_), (fun d_h41_ d_M70_ _ d_hF74_ d_r69_ d_hs76_ d_h72_ d_hr_ d_hM_ => ?_)⟩), (fun d_h39_ d_M78_ _ d_hF82_ d_r77_ d_hs84_ d_h80_ d_hr_ d_hM_ => ?_)⟩), (fun d_h37_ => ⟨(fun d_h85_ d_h86_ => ⟨(fun d_h87_ d_h88_ => ⟨(fun d_h89_ d_j92_ d_h93_ d_M90_ d_hM91_ d_h96_ d_j99_ d_h100_ d_M97_ d_hM98_ d_v4_93 d_hv0_93 d_hv1_93 d_M_93 d_hL_93 _ d_hF_93 d_h104_ d_hr_ d_hM_ => ?_), (fun d_h89_ d_M118_ _ d_hF122_ d_r117_ d_hs124_ d_h120_ d_hr_ d_hM_ => ?_)⟩), (fun d_h87_ d_M126_ _ d_hF130_ d_r125_ d_hs132_ d_h128_ d_hr_ d_hM_ => ?_)⟩), (fun d_h85_ => ⟨(fun d_h133_ d_h134_ => ⟨(fun d_h135_ d_h136_ => ⟨(fun d_h137_ d_j140_ d_h141_ d_M138_ d_hM139_ d_h144_ d_j147_ d_h148_ d_M145_ d_hM146_ d_v4_93 d_hv0_93 d_hv1_93 d_M_93 d_hL_93 _ d_hF_93 d_h152_ d_hr_ d_hM_ => ?_), (fun d_h137_ d_M166_ _ d_hF170_ d_r165_ d_hs172_ d_h168_ d_hr_ d_hM_ => ?_)⟩), (fun d_h135_ d_M174_ _ d_hF178_ d_r173_ d_hs180_ d_h176_ d_hr_ d_hM_ => ?_)⟩), (fun d_h133_ d_M182_ _ d_hF186_ d_r181_ d_hs188_ d_h184_ d_hr_ d_hM_ => ?_)⟩)⟩)⟩)⟩), (fun d_hs5_ d_h4_ d_M191_ _ d_hF195_ d_r190_ d_hs197_ d_h193_ d_hr_ d_hM_ => ?_)⟩
    · skip
      obtain rfl : d_j12_ = v.toInt.toNat := by omega
      obtain rfl : d_j19_ = v.toInt.toNat := by omega
      omega
    · skip
      obtain rfl : d_j44_ = v.toInt.toNat := by omega
      obtain rfl : d_j51_ = v.toInt.toNat := by omega
      omega
    · skip
      exact shE hS c_hF68_ c_hM_ d_hF74_ d_hM_
    · skip
      exact shE hS c_hF68_ c_hM_ d_hF82_ d_hM_
    · skip
      obtain rfl : d_j92_ = v.toInt.toNat := by omega
      obtain rfl : d_j99_ = v.toInt.toNat := by omega
      omega
    · skip
      exact shE hS c_hF68_ c_hM_ d_hF122_ d_hM_
    · skip
      exact shE hS c_hF68_ c_hM_ d_hF130_ d_hM_
    · skip
      obtain rfl : d_j140_ = v.toInt.toNat := by omega
      obtain rfl : d_j147_ = v.toInt.toNat := by omega
      omega
    · skip
      exact shE hS c_hF68_ c_hM_ d_hF170_ d_hM_
    · skip
      exact shE hS c_hF68_ c_hM_ d_hF178_ d_hM_
    · skip
      exact shE hS c_hF68_ c_hM_ d_hF186_ d_hM_
    · skip
      exact shE hS c_hF68_ c_hM_ d_hF195_ d_hM_
  ·
    refine xE_SP_X12_sheet h2 ⟨(fun d_hs5_ d_h4_ => ⟨(fun d_h7_ d_h8_ d_h9_ d_j12_ d_h13_ d_M10_ d_hM11_ d_h16_ d_j19_ d_h20_ d_M17_ d_hM18_ d_v4_93 d_hv0_93 d_hv1_93 d_M_93 d_hL_93 _ d_hF_93 d_h24_ d_hr_ d_hM_ => ?_), (fun d_h7_ => ⟨(fun d_h37_ d_h38_ => ⟨(fun d_h39_ d_h40_ => ⟨(fun d_h41_ d_j44_ d_h45_ d_M42_ d_hM43_ d_h48_ d_j51_ d_h52_ d_M49_ d_hM50_ d_v4_93 d_hv0_93 d_hv1_93 d_M_93 d_hL_93 _ d_hF_93 d_h56_ d_hr_ d_hM_ => ?_), (fun d_h41_ d_M70_ _ d_hF74_ d_r69_ d_hs76_ d_h72_ d_hr_ d_hM_ => ?_)⟩), (fun d_h39_ d_M78_ _ d_hF82_ d_r77_ d_hs84_ d_h80_ d_hr_ d_hM_ => ?_)⟩), (fun d_h37_ => ⟨(fun d_h85_ d_h86_ => ⟨(fun d_h87_ d_h88_ => ⟨(fun d_h89_ d_j92_ d_h93_ d_M90_ d_hM91_ d_h96_ d_j99_ d_h100_ d_M97_ d_hM98_ d_v4_93 d_hv0_93 d_hv1_93 d_M_93 d_hL_93 _ d_hF_93 d_h104_ d_hr_ d_hM_ => ?_), (fun d_h89_ d_M118_ _ d_hF122_ d_r117_ d_hs124_ d_h120_ d_hr_ d_hM_ => ?_)⟩), (fun d_h87_ d_M126_ _ d_hF130_ d_r125_ d_hs132_ d_h128_ d_hr_ d_hM_ => ?_)⟩), (fun d_h85_ => ⟨(fun d_h133_ d_h134_ => ⟨(fun d_h135_ d_h136_ => ⟨(fun d_h137_ d_j140_ d_h141_ d_M138_ d_hM139_ d_h144_ d_j147_ d_h148_ d_M145_ d_hM146_ d_v4_93 d_hv0_93 d_hv1_93 d_M_93 d_hL_93 _ d_hF_93 d_h152_ d_hr_ d_hM_ => ?_), (fun d_h137_ d_M166_ _ d_hF170_ d_r165_ d_hs172_ d_h168_ d_hr_ d_hM_ => ?_)⟩), (fun d_h135_ d_M174_ _ d_hF178_ d_r173_ d_hs180_ d_h176_ d_hr_ d_hM_ => ?_)⟩), (fun d_h133_ d_M182_ _ d_hF186_ d_r181_ d_hs188_ d_h184_ d_hr_ d_hM_ => ?_)⟩)⟩)⟩)⟩), (fun d_hs5_ d_h4_ d_M191_ _ d_hF195_ d_r190_ d_hs197_ d_h193_ d_hr_ d_hM_ => ?_)⟩
    · skip
      obtain rfl : d_j12_ = v.toInt.toNat := by omega
      obtain rfl : d_j19_ = v.toInt.toNat := by omega
      omega
    · skip
      obtain rfl : d_j44_ = v.toInt.toNat := by omega
      obtain rfl : d_j51_ = v.toInt.toNat := by omega
      omega
    · skip
      exact shE hS c_hF76_ c_hM_ d_hF74_ d_hM_
    · skip
      exact shE hS c_hF76_ c_hM_ d_hF82_ d_hM_
    · skip
      obtain rfl : d_j92_ = v.toInt.toNat := by omega
      obtain rfl : d_j99_ = v.toInt.toNat := by omega
      omega
    · skip
      exact shE hS c_hF76_ c_hM_ d_hF122_ d_hM_
    · skip
      exact shE hS c_hF76_ c_hM_ d_hF130_ d_hM_
    · skip
      obtain rfl : d_j140_ = v.toInt.toNat := by omega
      obtain rfl : d_j147_ = v.toInt.toNat := by omega
      omega
    · skip
      exact shE hS c_hF76_ c_hM_ d_hF170_ d_hM_
    · skip
      exact shE hS c_hF76_ c_hM_ d_hF178_ d_hM_
    · skip
      exact shE hS c_hF76_ c_hM_ d_hF186_ d_hM_
    · skip
      exact shE hS c_hF76_ c_hM_ d_hF195_ d_hM_
  ·
    obtain rfl : c_j83_ = v.toInt.toNat := by omega
    have sv := sw v.toInt.toNat (by omega)
    have zbv := zb v.toInt.toNat
    refine xE_SP_X12_sheet h2 ⟨(fun d_hs5_ d_h4_ => ⟨(fun d_h7_ d_h8_ d_h9_ d_j12_ d_h13_ d_M10_ d_hM11_ d_h16_ d_j19_ d_h20_ d_M17_ d_hM18_ d_v4_93 d_hv0_93 d_hv1_93 d_M_93 d_hL_93 _ d_hF_93 d_h24_ d_hr_ d_hM_ => ?_), (fun d_h7_ => ⟨(fun d_h37_ d_h38_ => ⟨(fun d_h39_ d_h40_ => ⟨(fun d_h41_ d_j44_ d_h45_ d_M42_ d_hM43_ d_h48_ d_j51_ d_h52_ d_M49_ d_hM50_ d_v4_93 d_hv0_93 d_hv1_93 d_M_93 d_hL_93 _ d_hF_93 d_h56_ d_hr_ d_hM_ => ?_), (fun d_h41_ d_M70_ _ d_hF74_ d_r69_ d_hs76_ d_h72_ d_hr_ d_hM_ => ?_)⟩), (fun d_h39_ d_M78_ _ d_hF82_ d_r77_ d_hs84_ d_h80_ d_hr_ d_hM_ => ?_)⟩), (fun d_h37_ => ⟨(fun d_h85_ d_h86_ => ⟨(fun d_h87_ d_h88_ => ⟨(fun d_h89_ d_j92_ d_h93_ d_M90_ d_hM91_ d_h96_ d_j99_ d_h100_ d_M97_ d_hM98_ d_v4_93 d_hv0_93 d_hv1_93 d_M_93 d_hL_93 _ d_hF_93 d_h104_ d_hr_ d_hM_ => ?_), (fun d_h89_ d_M118_ _ d_hF122_ d_r117_ d_hs124_ d_h120_ d_hr_ d_hM_ => ?_)⟩), (fun d_h87_ d_M126_ _ d_hF130_ d_r125_ d_hs132_ d_h128_ d_hr_ d_hM_ => ?_)⟩), (fun d_h85_ => ⟨(fun d_h133_ d_h134_ => ⟨(fun d_h135_ d_h136_ => ⟨(fun d_h137_ d_j140_ d_h141_ d_M138_ d_hM139_ d_h144_ d_j147_ d_h148_ d_M145_ d_hM146_ d_v4_93 d_hv0_93 d_hv1_93 d_M_93 d_hL_93 _ d_hF_93 d_h152_ d_hr_ d_hM_ => ?_), (fun d_h137_ d_M166_ _ d_hF170_ d_r165_ d_hs172_ d_h168_ d_hr_ d_hM_ => ?_)⟩), (fun d_h135_ d_M174_ _ d_hF178_ d_r173_ d_hs180_ d_h176_ d_hr_ d_hM_ => ?_)⟩), (fun d_h133_ d_M182_ _ d_hF186_ d_r181_ d_hs188_ d_h184_ d_hr_ d_hM_ => ?_)⟩)⟩)⟩)⟩), (fun d_hs5_ d_h4_ d_M191_ _ d_hF195_ d_r190_ d_hs197_ d_h193_ d_hr_ d_hM_ => ?_)⟩
    · skip
      obtain rfl : d_j12_ = v.toInt.toNat := by omega
      obtain rfl : d_j19_ = v.toInt.toNat := by omega
      have sl := sheet93 d_hL_93 d_h4_.1
      obtain ⟨s1, s2, s3⟩ := sl
      have bg := x6beginY c_hs92_
      obtain ⟨b1, b2⟩ := bg
      refine SHR_sheet (v := v.toInt.toNat) hS (fun w => ⟨(zb w).2, (sz_b hD2 w).2⟩) (hB _ (by omega)) (fun w k hw => ?_) (fun w hw => ?_) (fun k hk => ?_) (fun i hi => ?_)
      · have ne : ∀ r r2 : Nat, ¬ ((r, 0, w) : rf) = (r2, 0, v.toInt.toNat) := fun r r2 z => hw (congrArg (fun c : rf => c.2.2) z)
        rw [c_hM_]
        exact ⟨b1 _ _ (ne _ _) (ne _ _), b1 _ _ (ne _ _) (ne _ _)⟩
      · rw [d_hM_, s1 (66, 0, 0) w (by simp), s1 (67, 0, 0) w (by simp), zupR (c' := (66, 0, 0)) d_hM18_ (by simp), zupN (c' := (66, 0, 0)) d_hM11_ (fun z => hw z.2), zupN (c' := (67, 0, 0)) d_hM18_ (fun z => hw z.2), zupR (c' := (67, 0, 0)) d_hM11_ (by simp)]
        exact ⟨rfl, rfl⟩
      · rw [d_hM_, s2 k hk, zupR d_hM18_ (by simp), zupR d_hM11_ (by simp)]
      · have z24 := (sz_b hD2 v.toInt.toNat).2
        rw [c_hM_, b2 i (by omega), d_hM_, s3 i (by dsimp only; omega)]
    · skip
      obtain rfl : d_j44_ = v.toInt.toNat := by omega
      obtain rfl : d_j51_ = v.toInt.toNat := by omega
      have sl := sheet93b d_hL_93 d_h4_.1
      obtain ⟨s1, s2, s3⟩ := sl
      have bg := x6beginY c_hs92_
      obtain ⟨b1, b2⟩ := bg
      refine SHR_sheet (v := v.toInt.toNat) hS (fun w => ⟨(zb w).2, (sz_b hD2 w).2⟩) (hB _ (by omega)) (fun w k hw => ?_) (fun w hw => ?_) (fun k hk => ?_) (fun i hi => ?_)
      · have ne : ∀ r r2 : Nat, ¬ ((r, 0, w) : rf) = (r2, 0, v.toInt.toNat) := fun r r2 z => hw (congrArg (fun c : rf => c.2.2) z)
        rw [c_hM_]
        exact ⟨b1 _ _ (ne _ _) (ne _ _), b1 _ _ (ne _ _) (ne _ _)⟩
      · rw [d_hM_, s1 (66, 0, 0) w (by simp), s1 (67, 0, 0) w (by simp), zupR (c' := (66, 0, 0)) d_hM50_ (by simp), zupN (c' := (66, 0, 0)) d_hM43_ (fun z => hw z.2), zupN (c' := (67, 0, 0)) d_hM50_ (fun z => hw z.2), zupR (c' := (67, 0, 0)) d_hM43_ (by simp)]
        exact ⟨rfl, rfl⟩
      · rw [d_hM_, s2 k hk, zupR d_hM50_ (by simp), zupR d_hM43_ (by simp)]
      · have z24 := (sz_b hD2 v.toInt.toNat).2
        rw [c_hM_, b2 i (by omega), d_hM_, s3 i (by dsimp only; omega)]
    · skip
      omega
    · skip
      omega
    · skip
      obtain rfl : d_j92_ = v.toInt.toNat := by omega
      obtain rfl : d_j99_ = v.toInt.toNat := by omega
      have sl := sheet93c d_hL_93 d_h4_.1
      obtain ⟨s1, s2, s3⟩ := sl
      have bg := x6beginY c_hs92_
      obtain ⟨b1, b2⟩ := bg
      refine SHR_sheet (v := v.toInt.toNat) hS (fun w => ⟨(zb w).2, (sz_b hD2 w).2⟩) (hB _ (by omega)) (fun w k hw => ?_) (fun w hw => ?_) (fun k hk => ?_) (fun i hi => ?_)
      · have ne : ∀ r r2 : Nat, ¬ ((r, 0, w) : rf) = (r2, 0, v.toInt.toNat) := fun r r2 z => hw (congrArg (fun c : rf => c.2.2) z)
        rw [c_hM_]
        exact ⟨b1 _ _ (ne _ _) (ne _ _), b1 _ _ (ne _ _) (ne _ _)⟩
      · rw [d_hM_, s1 (66, 0, 0) w (by simp), s1 (67, 0, 0) w (by simp), zupR (c' := (66, 0, 0)) d_hM98_ (by simp), zupN (c' := (66, 0, 0)) d_hM91_ (fun z => hw z.2), zupN (c' := (67, 0, 0)) d_hM98_ (fun z => hw z.2), zupR (c' := (67, 0, 0)) d_hM91_ (by simp)]
        exact ⟨rfl, rfl⟩
      · rw [d_hM_, s2 k hk, zupR d_hM98_ (by simp), zupR d_hM91_ (by simp)]
      · have z24 := (sz_b hD2 v.toInt.toNat).2
        rw [c_hM_, b2 i (by omega), d_hM_, s3 i (by dsimp only; omega)]
    · skip
      omega
    · skip
      omega
    · skip
      obtain rfl : d_j140_ = v.toInt.toNat := by omega
      obtain rfl : d_j147_ = v.toInt.toNat := by omega
      have sl := sheet93d d_hL_93 d_h4_.1
      obtain ⟨s1, s2, s3⟩ := sl
      have bg := x6beginY c_hs92_
      obtain ⟨b1, b2⟩ := bg
      refine SHR_sheet (v := v.toInt.toNat) hS (fun w => ⟨(zb w).2, (sz_b hD2 w).2⟩) (hB _ (by omega)) (fun w k hw => ?_) (fun w hw => ?_) (fun k hk => ?_) (fun i hi => ?_)
      · have ne : ∀ r r2 : Nat, ¬ ((r, 0, w) : rf) = (r2, 0, v.toInt.toNat) := fun r r2 z => hw (congrArg (fun c : rf => c.2.2) z)
        rw [c_hM_]
        exact ⟨b1 _ _ (ne _ _) (ne _ _), b1 _ _ (ne _ _) (ne _ _)⟩
      · rw [d_hM_, s1 (66, 0, 0) w (by simp), s1 (67, 0, 0) w (by simp), zupR (c' := (66, 0, 0)) d_hM146_ (by simp), zupN (c' := (66, 0, 0)) d_hM139_ (fun z => hw z.2), zupN (c' := (67, 0, 0)) d_hM146_ (fun z => hw z.2), zupR (c' := (67, 0, 0)) d_hM139_ (by simp)]
        exact ⟨rfl, rfl⟩
      · rw [d_hM_, s2 k hk, zupR d_hM146_ (by simp), zupR d_hM139_ (by simp)]
      · have z24 := (sz_b hD2 v.toInt.toNat).2
        rw [c_hM_, b2 i (by omega), d_hM_, s3 i (by dsimp only; omega)]
    · skip
      omega
    · skip
      omega
    · skip
      omega
    · skip
      omega
  ·
    refine xE_SP_X12_sheet h2 ⟨(fun d_hs5_ d_h4_ => ⟨(fun d_h7_ d_h8_ d_h9_ d_j12_ d_h13_ d_M10_ d_hM11_ d_h16_ d_j19_ d_h20_ d_M17_ d_hM18_ d_v4_93 d_hv0_93 d_hv1_93 d_M_93 d_hL_93 _ d_hF_93 d_h24_ d_hr_ d_hM_ => ?_), (fun d_h7_ => ⟨(fun d_h37_ d_h38_ => ⟨(fun d_h39_ d_h40_ => ⟨(fun d_h41_ d_j44_ d_h45_ d_M42_ d_hM43_ d_h48_ d_j51_ d_h52_ d_M49_ d_hM50_ d_v4_93 d_hv0_93 d_hv1_93 d_M_93 d_hL_93 _ d_hF_93 d_h56_ d_hr_ d_hM_ => ?_), (fun d_h41_ d_M70_ _ d_hF74_ d_r69_ d_hs76_ d_h72_ d_hr_ d_hM_ => ?_)⟩), (fun d_h39_ d_M78_ _ d_hF82_ d_r77_ d_hs84_ d_h80_ d_hr_ d_hM_ => ?_)⟩), (fun d_h37_ => ⟨(fun d_h85_ d_h86_ => ⟨(fun d_h87_ d_h88_ => ⟨(fun d_h89_ d_j92_ d_h93_ d_M90_ d_hM91_ d_h96_ d_j99_ d_h100_ d_M97_ d_hM98_ d_v4_93 d_hv0_93 d_hv1_93 d_M_93 d_hL_93 _ d_hF_93 d_h104_ d_hr_ d_hM_ => ?_), (fun d_h89_ d_M118_ _ d_hF122_ d_r117_ d_hs124_ d_h120_ d_hr_ d_hM_ => ?_)⟩), (fun d_h87_ d_M126_ _ d_hF130_ d_r125_ d_hs132_ d_h128_ d_hr_ d_hM_ => ?_)⟩), (fun d_h85_ => ⟨(fun d_h133_ d_h134_ => ⟨(fun d_h135_ d_h136_ => ⟨(fun d_h137_ d_j140_ d_h141_ d_M138_ d_hM139_ d_h144_ d_j147_ d_h148_ d_M145_ d_hM146_ d_v4_93 d_hv0_93 d_hv1_93 d_M_93 d_hL_93 _ d_hF_93 d_h152_ d_hr_ d_hM_ => ?_), (fun d_h137_ d_M166_ _ d_hF170_ d_r165_ d_hs172_ d_h168_ d_hr_ d_hM_ => ?_)⟩), (fun d_h135_ d_M174_ _ d_hF178_ d_r173_ d_hs180_ d_h176_ d_hr_ d_hM_ => ?_)⟩), (fun d_h133_ d_M182_ _ d_hF186_ d_r181_ d_hs188_ d_h184_ d_hr_ d_hM_ => ?_)⟩)⟩)⟩)⟩), (fun d_hs5_ d_h4_ d_M191_ _ d_hF195_ d_r190_ d_hs197_ d_h193_ d_hr_ d_hM_ => ?_)⟩
    · skip
      obtain rfl : d_j12_ = v.toInt.toNat := by omega
      obtain rfl : d_j19_ = v.toInt.toNat := by omega
      omega
    · skip
      obtain rfl : d_j44_ = v.toInt.toNat := by omega
      obtain rfl : d_j51_ = v.toInt.toNat := by omega
      omega
    · skip
      exact shE hS c_hF98_ c_hM_ d_hF74_ d_hM_
    · skip
      exact shE hS c_hF98_ c_hM_ d_hF82_ d_hM_
    · skip
      obtain rfl : d_j92_ = v.toInt.toNat := by omega
      obtain rfl : d_j99_ = v.toInt.toNat := by omega
      omega
    · skip
      exact shE hS c_hF98_ c_hM_ d_hF122_ d_hM_
    · skip
      exact shE hS c_hF98_ c_hM_ d_hF130_ d_hM_
    · skip
      obtain rfl : d_j140_ = v.toInt.toNat := by omega
      obtain rfl : d_j147_ = v.toInt.toNat := by omega
      omega
    · skip
      exact shE hS c_hF98_ c_hM_ d_hF170_ d_hM_
    · skip
      exact shE hS c_hF98_ c_hM_ d_hF178_ d_hM_
    · skip
      exact shE hS c_hF98_ c_hM_ d_hF186_ d_hM_
    · skip
      exact shE hS c_hF98_ c_hM_ d_hF195_ d_hM_
  ·
    refine xE_SP_X12_sheet h2 ⟨(fun d_hs5_ d_h4_ => ⟨(fun d_h7_ d_h8_ d_h9_ d_j12_ d_h13_ d_M10_ d_hM11_ d_h16_ d_j19_ d_h20_ d_M17_ d_hM18_ d_v4_93 d_hv0_93 d_hv1_93 d_M_93 d_hL_93 _ d_hF_93 d_h24_ d_hr_ d_hM_ => ?_), (fun d_h7_ => ⟨(fun d_h37_ d_h38_ => ⟨(fun d_h39_ d_h40_ => ⟨(fun d_h41_ d_j44_ d_h45_ d_M42_ d_hM43_ d_h48_ d_j51_ d_h52_ d_M49_ d_hM50_ d_v4_93 d_hv0_93 d_hv1_93 d_M_93 d_hL_93 _ d_hF_93 d_h56_ d_hr_ d_hM_ => ?_), (fun d_h41_ d_M70_ _ d_hF74_ d_r69_ d_hs76_ d_h72_ d_hr_ d_hM_ => ?_)⟩), (fun d_h39_ d_M78_ _ d_hF82_ d_r77_ d_hs84_ d_h80_ d_hr_ d_hM_ => ?_)⟩), (fun d_h37_ => ⟨(fun d_h85_ d_h86_ => ⟨(fun d_h87_ d_h88_ => ⟨(fun d_h89_ d_j92_ d_h93_ d_M90_ d_hM91_ d_h96_ d_j99_ d_h100_ d_M97_ d_hM98_ d_v4_93 d_hv0_93 d_hv1_93 d_M_93 d_hL_93 _ d_hF_93 d_h104_ d_hr_ d_hM_ => ?_), (fun d_h89_ d_M118_ _ d_hF122_ d_r117_ d_hs124_ d_h120_ d_hr_ d_hM_ => ?_)⟩), (fun d_h87_ d_M126_ _ d_hF130_ d_r125_ d_hs132_ d_h128_ d_hr_ d_hM_ => ?_)⟩), (fun d_h85_ => ⟨(fun d_h133_ d_h134_ => ⟨(fun d_h135_ d_h136_ => ⟨(fun d_h137_ d_j140_ d_h141_ d_M138_ d_hM139_ d_h144_ d_j147_ d_h148_ d_M145_ d_hM146_ d_v4_93 d_hv0_93 d_hv1_93 d_M_93 d_hL_93 _ d_hF_93 d_h152_ d_hr_ d_hM_ => ?_), (fun d_h137_ d_M166_ _ d_hF170_ d_r165_ d_hs172_ d_h168_ d_hr_ d_hM_ => ?_)⟩), (fun d_h135_ d_M174_ _ d_hF178_ d_r173_ d_hs180_ d_h176_ d_hr_ d_hM_ => ?_)⟩), (fun d_h133_ d_M182_ _ d_hF186_ d_r181_ d_hs188_ d_h184_ d_hr_ d_hM_ => ?_)⟩)⟩)⟩)⟩), (fun d_hs5_ d_h4_ d_M191_ _ d_hF195_ d_r190_ d_hs197_ d_h193_ d_hr_ d_hM_ => ?_)⟩
    · skip
      obtain rfl : d_j12_ = v.toInt.toNat := by omega
      obtain rfl : d_j19_ = v.toInt.toNat := by omega
      omega
    · skip
      obtain rfl : d_j44_ = v.toInt.toNat := by omega
      obtain rfl : d_j51_ = v.toInt.toNat := by omega
      omega
    · skip
      exact shE hS c_hF106_ c_hM_ d_hF74_ d_hM_
    · skip
      exact shE hS c_hF106_ c_hM_ d_hF82_ d_hM_
    · skip
      obtain rfl : d_j92_ = v.toInt.toNat := by omega
      obtain rfl : d_j99_ = v.toInt.toNat := by omega
      omega
    · skip
      exact shE hS c_hF106_ c_hM_ d_hF122_ d_hM_
    · skip
      exact shE hS c_hF106_ c_hM_ d_hF130_ d_hM_
    · skip
      obtain rfl : d_j140_ = v.toInt.toNat := by omega
      obtain rfl : d_j147_ = v.toInt.toNat := by omega
      omega
    · skip
      exact shE hS c_hF106_ c_hM_ d_hF170_ d_hM_
    · skip
      exact shE hS c_hF106_ c_hM_ d_hF178_ d_hM_
    · skip
      exact shE hS c_hF106_ c_hM_ d_hF186_ d_hM_
    · skip
      exact shE hS c_hF106_ c_hM_ d_hF195_ d_hM_
  ·
    refine xE_SP_X12_sheet h2 ⟨(fun d_hs5_ d_h4_ => ⟨(fun d_h7_ d_h8_ d_h9_ d_j12_ d_h13_ d_M10_ d_hM11_ d_h16_ d_j19_ d_h20_ d_M17_ d_hM18_ d_v4_93 d_hv0_93 d_hv1_93 d_M_93 d_hL_93 _ d_hF_93 d_h24_ d_hr_ d_hM_ => ?_), (fun d_h7_ => ⟨(fun d_h37_ d_h38_ => ⟨(fun d_h39_ d_h40_ => ⟨(fun d_h41_ d_j44_ d_h45_ d_M42_ d_hM43_ d_h48_ d_j51_ d_h52_ d_M49_ d_hM50_ d_v4_93 d_hv0_93 d_hv1_93 d_M_93 d_hL_93 _ d_hF_93 d_h56_ d_hr_ d_hM_ => ?_), (fun d_h41_ d_M70_ _ d_hF74_ d_r69_ d_hs76_ d_h72_ d_hr_ d_hM_ => ?_)⟩), (fun d_h39_ d_M78_ _ d_hF82_ d_r77_ d_hs84_ d_h80_ d_hr_ d_hM_ => ?_)⟩), (fun d_h37_ => ⟨(fun d_h85_ d_h86_ => ⟨(fun d_h87_ d_h88_ => ⟨(fun d_h89_ d_j92_ d_h93_ d_M90_ d_hM91_ d_h96_ d_j99_ d_h100_ d_M97_ d_hM98_ d_v4_93 d_hv0_93 d_hv1_93 d_M_93 d_hL_93 _ d_hF_93 d_h104_ d_hr_ d_hM_ => ?_), (fun d_h89_ d_M118_ _ d_hF122_ d_r117_ d_hs124_ d_h120_ d_hr_ d_hM_ => ?_)⟩), (fun d_h87_ d_M126_ _ d_hF130_ d_r125_ d_hs132_ d_h128_ d_hr_ d_hM_ => ?_)⟩), (fun d_h85_ => ⟨(fun d_h133_ d_h134_ => ⟨(fun d_h135_ d_h136_ => ⟨(fun d_h137_ d_j140_ d_h141_ d_M138_ d_hM139_ d_h144_ d_j147_ d_h148_ d_M145_ d_hM146_ d_v4_93 d_hv0_93 d_hv1_93 d_M_93 d_hL_93 _ d_hF_93 d_h152_ d_hr_ d_hM_ => ?_), (fun d_h137_ d_M166_ _ d_hF170_ d_r165_ d_hs172_ d_h168_ d_hr_ d_hM_ => ?_)⟩), (fun d_h135_ d_M174_ _ d_hF178_ d_r173_ d_hs180_ d_h176_ d_hr_ d_hM_ => ?_)⟩), (fun d_h133_ d_M182_ _ d_hF186_ d_r181_ d_hs188_ d_h184_ d_hr_ d_hM_ => ?_)⟩)⟩)⟩)⟩), (fun d_hs5_ d_h4_ d_M191_ _ d_hF195_ d_r190_ d_hs197_ d_h193_ d_hr_ d_hM_ => ?_)⟩
    · skip
      obtain rfl : d_j12_ = v.toInt.toNat := by omega
      obtain rfl : d_j19_ = v.toInt.toNat := by omega
      omega
    · skip
      obtain rfl : d_j44_ = v.toInt.toNat := by omega
      obtain rfl : d_j51_ = v.toInt.toNat := by omega
      omega
    · skip
      exact shE hS c_hF114_ c_hM_ d_hF74_ d_hM_
    · skip
      exact shE hS c_hF114_ c_hM_ d_hF82_ d_hM_
    · skip
      obtain rfl : d_j92_ = v.toInt.toNat := by omega
      obtain rfl : d_j99_ = v.toInt.toNat := by omega
      omega
    · skip
      exact shE hS c_hF114_ c_hM_ d_hF122_ d_hM_
    · skip
      exact shE hS c_hF114_ c_hM_ d_hF130_ d_hM_
    · skip
      obtain rfl : d_j140_ = v.toInt.toNat := by omega
      obtain rfl : d_j147_ = v.toInt.toNat := by omega
      omega
    · skip
      exact shE hS c_hF114_ c_hM_ d_hF170_ d_hM_
    · skip
      exact shE hS c_hF114_ c_hM_ d_hF178_ d_hM_
    · skip
      exact shE hS c_hF114_ c_hM_ d_hF186_ d_hM_
    · skip
      exact shE hS c_hF114_ c_hM_ d_hF195_ d_hM_
  ·
    refine xE_SP_X12_sheet h2 ⟨(fun d_hs5_ d_h4_ => ⟨(fun d_h7_ d_h8_ d_h9_ d_j12_ d_h13_ d_M10_ d_hM11_ d_h16_ d_j19_ d_h20_ d_M17_ d_hM18_ d_v4_93 d_hv0_93 d_hv1_93 d_M_93 d_hL_93 _ d_hF_93 d_h24_ d_hr_ d_hM_ => ?_), (fun d_h7_ => ⟨(fun d_h37_ d_h38_ => ⟨(fun d_h39_ d_h40_ => ⟨(fun d_h41_ d_j44_ d_h45_ d_M42_ d_hM43_ d_h48_ d_j51_ d_h52_ d_M49_ d_hM50_ d_v4_93 d_hv0_93 d_hv1_93 d_M_93 d_hL_93 _ d_hF_93 d_h56_ d_hr_ d_hM_ => ?_), (fun d_h41_ d_M70_ _ d_hF74_ d_r69_ d_hs76_ d_h72_ d_hr_ d_hM_ => ?_)⟩), (fun d_h39_ d_M78_ _ d_hF82_ d_r77_ d_hs84_ d_h80_ d_hr_ d_hM_ => ?_)⟩), (fun d_h37_ => ⟨(fun d_h85_ d_h86_ => ⟨(fun d_h87_ d_h88_ => ⟨(fun d_h89_ d_j92_ d_h93_ d_M90_ d_hM91_ d_h96_ d_j99_ d_h100_ d_M97_ d_hM98_ d_v4_93 d_hv0_93 d_hv1_93 d_M_93 d_hL_93 _ d_hF_93 d_h104_ d_hr_ d_hM_ => ?_), (fun d_h89_ d_M118_ _ d_hF122_ d_r117_ d_hs124_ d_h120_ d_hr_ d_hM_ => ?_)⟩), (fun d_h87_ d_M126_ _ d_hF130_ d_r125_ d_hs132_ d_h128_ d_hr_ d_hM_ => ?_)⟩), (fun d_h85_ => ⟨(fun d_h133_ d_h134_ => ⟨(fun d_h135_ d_h136_ => ⟨(fun d_h137_ d_j140_ d_h141_ d_M138_ d_hM139_ d_h144_ d_j147_ d_h148_ d_M145_ d_hM146_ d_v4_93 d_hv0_93 d_hv1_93 d_M_93 d_hL_93 _ d_hF_93 d_h152_ d_hr_ d_hM_ => ?_), (fun d_h137_ d_M166_ _ d_hF170_ d_r165_ d_hs172_ d_h168_ d_hr_ d_hM_ => ?_)⟩), (fun d_h135_ d_M174_ _ d_hF178_ d_r173_ d_hs180_ d_h176_ d_hr_ d_hM_ => ?_)⟩), (fun d_h133_ d_M182_ _ d_hF186_ d_r181_ d_hs188_ d_h184_ d_hr_ d_hM_ => ?_)⟩)⟩)⟩)⟩), (fun d_hs5_ d_h4_ d_M191_ _ d_hF195_ d_r190_ d_hs197_ d_h193_ d_hr_ d_hM_ => ?_)⟩
    · skip
      obtain rfl : d_j12_ = v.toInt.toNat := by omega
      obtain rfl : d_j19_ = v.toInt.toNat := by omega
      omega
    · skip
      obtain rfl : d_j44_ = v.toInt.toNat := by omega
      obtain rfl : d_j51_ = v.toInt.toNat := by omega
      omega
    · skip
      exact shE hS c_hF123_ c_hM_ d_hF74_ d_hM_
    · skip
      exact shE hS c_hF123_ c_hM_ d_hF82_ d_hM_
    · skip
      obtain rfl : d_j92_ = v.toInt.toNat := by omega
      obtain rfl : d_j99_ = v.toInt.toNat := by omega
      omega
    · skip
      exact shE hS c_hF123_ c_hM_ d_hF122_ d_hM_
    · skip
      exact shE hS c_hF123_ c_hM_ d_hF130_ d_hM_
    · skip
      obtain rfl : d_j140_ = v.toInt.toNat := by omega
      obtain rfl : d_j147_ = v.toInt.toNat := by omega
      omega
    · skip
      exact shE hS c_hF123_ c_hM_ d_hF170_ d_hM_
    · skip
      exact shE hS c_hF123_ c_hM_ d_hF178_ d_hM_
    · skip
      exact shE hS c_hF123_ c_hM_ d_hF186_ d_hM_
    · skip
      exact shE hS c_hF123_ c_hM_ d_hF195_ d_hM_
