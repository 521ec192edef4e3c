section
/-! voice(): bodies on both sides -/
def vcI (j : Int) : Int := if j = 0 then 10 else if j = 1 then 11 else if j = 2 then 12 else if j = 3 then 13 else if j = 4 then 20 else if j = 7 then 21 else if j = 9 then 30 else if j = 12 then 40 else if j = 14 then 41 else if j = 18 then 50 else if j = 21 then 60 else if j = 25 then 70 else if j = 26 then 71 else if j = 31 then 80 else 0
theorem vcI_tab : ∀ j : Nat, j < 32 → (([10, 11, 12, 13, 20, 0, 0, 21, 0, 30, 0, 0, 40, 0, 41, 0, 0, 0, 50, 0, 0, 60, 0, 0, 0, 70, 71, 0, 0, 0, 0, 80] : List Int32).getD j 0).toInt = vcI (j : Int) := by decide +kernel
theorem vcI_ne {j : Int} : ¬ vcI j = 0 ↔ (j = 0 ∨ j = 1 ∨ j = 2 ∨ j = 3 ∨ j = 4 ∨ j = 7 ∨ j = 9 ∨ j = 12 ∨ j = 14 ∨ j = 18 ∨ j = 21 ∨ j = 25 ∨ j = 26 ∨ j = 31) := by
  unfold vcI
  constructor
  · intro h
    apply Classical.byContradiction
    intro n
    apply h
    rw [if_neg (show ¬ j = 0 from fun q => n (by omega)), if_neg (show ¬ j = 1 from fun q => n (by omega)), if_neg (show ¬ j = 2 from fun q => n (by omega)), if_neg (show ¬ j = 3 from fun q => n (by omega)), if_neg (show ¬ j = 4 from fun q => n (by omega)), if_neg (show ¬ j = 7 from fun q => n (by omega)), if_neg (show ¬ j = 9 from fun q => n (by omega)), if_neg (show ¬ j = 12 from fun q => n (by omega)), if_neg (show ¬ j = 14 from fun q => n (by omega)), if_neg (show ¬ j = 18 from fun q => n (by omega)), if_neg (show ¬ j = 21 from fun q => n (by omega)), if_neg (show ¬ j = 25 from fun q => n (by omega)), if_neg (show ¬ j = 26 from fun q => n (by omega)), if_neg (show ¬ j = 31 from fun q => n (by omega))]
  · rintro (rfl | rfl | rfl | rfl | rfl | rfl | rfl | rfl | rfl | rfl | rfl | rfl | rfl | rfl) <;> decide
theorem x9abv {v r : Int32} {M : mM} {k : Nat} (h : SP_X9_kindAbove v M r) (hk : k < 8) (hv : v.toInt = (k : Int)) : r = ([-1, 0, 0, 0, 0, 1, 3, 1] : List Int32).getD k 0 := by
  refine xE_SP_X9_kindAbove h ⟨(fun h1_ hr_ => ?_), (fun h1_ => ⟨(fun h2_ hr_ => ?_), (fun h2_ j5_ h6_ z3_ e4_ hr_ => ?_)⟩)⟩
  · omega
  · omega
  · obtain rfl : j5_ = k := by omega
    rw [hr_, e4_]
theorem above_tab : ∀ k : Nat, k < 8 → (([-1, 0, 0, 0, 0, 1, 3, 1] : List Int32).getD k 0).toInt = if k = 0 then -1 else if k = 5 then 1 else if k = 6 then 3 else if k = 7 then 1 else 0 := by decide +kernel
theorem x9abvI {v r : Int32} {M : mM} (h : SP_X9_kindAbove v M r) (hv : 0 ≤ v.toInt ∧ v.toInt ≤ 7) : (v.toInt = 0 ∧ r.toInt = -1) ∨ (v.toInt = 5 ∧ r.toInt = 1) ∨ (v.toInt = 6 ∧ r.toInt = 3) ∨ (v.toInt = 7 ∧ r.toInt = 1) ∨ ((v.toInt = 1 ∨ v.toInt = 2 ∨ v.toInt = 3 ∨ v.toInt = 4) ∧ r.toInt = 0) := by
  have a := eT (x9abv h (k := v.toInt.toNat) (by omega) (by omega))
  rw [above_tab _ (by omega)] at a
  by_cases q0 : v.toInt.toNat = 0
  · rw [if_pos q0] at a; omega
  · rw [if_neg q0] at a
    by_cases q5 : v.toInt.toNat = 5
    · rw [if_pos q5] at a; omega
    · rw [if_neg q5] at a
      by_cases q6 : v.toInt.toNat = 6
      · rw [if_pos q6] at a; omega
      · rw [if_neg q6] at a
        by_cases q7 : v.toInt.toNat = 7
        · rw [if_pos q7] at a; omega
        · rw [if_neg q7] at a; omega
theorem above2I {v r : Int32} {M : mM} (h : SP_above2 v M r) (hv : 0 ≤ v.toInt ∧ v.toInt ≤ 7) : (v.toInt = 0 ∧ r.toInt = -1) ∨ (v.toInt = 5 ∧ r.toInt = 1) ∨ (v.toInt = 6 ∧ r.toInt = 3) ∨ (v.toInt = 7 ∧ r.toInt = 1) ∨ ((v.toInt = 1 ∨ v.toInt = 2 ∨ v.toInt = 3 ∨ v.toInt = 4) ∧ r.toInt = 0) := by
  have q0 := il_0
  have q1 := il_1
  have qm := il_m1
  have q3 : (3 : Int32).toInt = 3 := by decide
  refine xE_SP_above2 h ⟨(fun h1_ => ⟨(fun h2_ hr_ => ?_), (fun h2_ => ⟨(fun h3_ => ⟨(fun h4_ hr_ => ?_), (fun h4_ hr_ => ?_)⟩), (fun h3_ hr_ => ?_)⟩)⟩), (fun h1_ hr_ => ?_)⟩
  all_goals (have a := eT hr_; omega)
theorem hasOwnI {v u r : Int32} {M : mM} (h : SP_X12_hasOwn v u M r) (hv : 0 ≤ v.toInt ∧ v.toInt ≤ 7) (hu : 0 ≤ u.toInt ∧ u.toInt ≤ 3) : ¬ r.toInt = 0 ↔ ¬ vcI (4 * v.toInt + u.toInt) = 0 := by
  have q0 := il_0
  have q1 := il_1
  rw [vcI_ne]
  refine xE_SP_X12_hasOwn h ⟨(fun e1_ hr_ => ?_), (fun e1_ => ⟨(fun h2_ hr_ => ?_), (fun h2_ => ⟨(fun h3_ hr_ => ?_), (fun h3_ hr_ => ?_)⟩)⟩), (fun e1_ => ⟨(fun h4_ hr_ => ?_), (fun h4_ hr_ => ?_)⟩), (fun e1_ => ⟨(fun h5_ hr_ => ?_), (fun h5_ => ⟨(fun h6_ hr_ => ?_), (fun h6_ hr_ => ?_)⟩)⟩), (fun e1_ => ⟨(fun h7_ hr_ => ?_), (fun h7_ hr_ => ?_)⟩), (fun e1_ => ⟨(fun h8_ hr_ => ?_), (fun h8_ hr_ => ?_)⟩), (fun e1_ => ⟨(fun h9_ hr_ => ?_), (fun h9_ => ⟨(fun h10_ hr_ => ?_), (fun h10_ hr_ => ?_)⟩)⟩), (fun e1_ => ⟨(fun h11_ hr_ => ?_), (fun h11_ hr_ => ?_)⟩)⟩
  all_goals (have a := eT hr_; omega)
theorem mul4 {v u z4 z6 : Int32} (h4 : z4 = (4 : Int32) * v) (h6 : z6 = z4 + u) (hv : 0 ≤ v.toInt ∧ v.toInt ≤ 7) (hu : 0 ≤ u.toInt ∧ u.toInt ≤ 3) : z6.toInt = 4 * v.toInt + u.toInt := by
  have a : z4.toInt = 4 * v.toInt := by rw [h4]; exact mulI (show (4 : Int32).toInt = 4 by decide) rfl (by omega) (by omega)
  rw [h6]
  exact addI a rfl (by omega) (by omega)
/-- what both read; the flag -/
def VR (C D : mM) : Prop := C.1 (8, 0, 0) 3 = D.1 (12, 0, 0) 27 ∧ (0 ≤ (D.1 (12, 0, 0) 27).toInt ∧ (D.1 (12, 0, 0) 27).toInt ≤ 7) ∧ C.1 (8, 0, 0) 2 = D.1 (50, 0, 0) (180 + 9 * (D.1 (12, 0, 0) 27).toInt.toNat) ∧ C.1 (8, 0, 0) 4 = D.1 (50, 0, 0) (183 + 9 * (D.1 (12, 0, 0) 27).toInt.toNat)
theorem VR_fr {C C2 D D2 : mM} (h : VR C D) (hc : ∀ k, k = 2 ∨ k = 3 ∨ k = 4 → C2.1 (8, 0, 0) k = C.1 (8, 0, 0) k) (hd : D2.1 (12, 0, 0) 27 = D.1 (12, 0, 0) 27) (hn : ∀ k, D2.1 (50, 0, 0) k = D.1 (50, 0, 0) k) : VR C2 D2 := by
  unfold VR at h ⊢
  rw [hc 3 (by omega), hc 2 (by omega), hc 4 (by omega), hd, hn, hn]
  exact h
theorem VR_c {C C2 D : mM} (h : VR C D) (hc : FR S_voice C C2) : VR C2 D := VR_fr h (fun k q => hc _ _ (fun z => by simp only [S_voice, or_false] at z; omega)) rfl (fun _ => rfl)
theorem VR_d {C D D2 : mM} (h : VR C D) (hd : FR S_voD D D2) : VR C D2 := VR_fr h (fun _ _ => rfl) (hd _ _ (by simp [S_voD])) (fun _ => hd _ _ (by simp [S_voD]))
theorem VR_b {C D D2 : mM} (h : VR C D) (hd : FR S_c_X12_began D D2) : VR C D2 := VR_fr h (fun _ _ => rfl) (hd _ _ (by simp [S_c_X12_began])) (fun _ => hd _ _ (by simp [S_c_X12_began]))
theorem VR_a {C C2 D : mM} (h : VR C D) (hc : FR (S_c_X5_add 3 4) C C2) : VR C2 D := VR_fr h (fun _ _ => hc _ _ (by simp [S_c_X5_add])) rfl (fun _ => rfl)
def VF (C D : mM) : Prop := ((C.1 (8, 0, 0) 5).toInt = 0 ∧ (D.1 (12, 0, 0) 28).toInt = 0) ∨ (¬ (C.1 (8, 0, 0) 5).toInt = 0 ∧ ¬ (D.1 (12, 0, 0) 28).toInt = 0)
def VO (r r2 : Int32) (C D : mM) : Prop := ((C.1 (8, 0, 0) 5).toInt = 0 ∧ (D.1 (12, 0, 0) 28).toInt = 0 ∧ r = r2) ∨ (¬ (C.1 (8, 0, 0) 5).toInt = 0 ∧ ¬ (D.1 (12, 0, 0) 28).toInt = 0)
theorem VO_f {r r2 : Int32} {C D : mM} (h : VO r r2 C D) : VF C D := Or.elim h (fun q => Or.inl ⟨q.1, q.2.1⟩) Or.inr
theorem VO_m {r r2 x x2 : Int32} {C D : mM} (h : VO r r2 C D) (f : r = r2 → x = x2) : VO x x2 C D := Or.elim h (fun q => Or.inl ⟨q.1, q.2.1, f q.2.2⟩) Or.inr
theorem VO_2 {r r2 s s2 x x2 : Int32} {C C2 D D2 : mM} (h : VO r r2 C D) (g : VO s s2 C2 D2) (hm : ¬ (C.1 (8, 0, 0) 5).toInt = 0 → ¬ (C2.1 (8, 0, 0) 5).toInt = 0) (f : r = r2 → s = s2 → x = x2) : VO x x2 C2 D2 := by
  rcases h with ⟨a, b, c⟩ | ⟨a, b⟩
  · exact VO_m g (f c)
  · rcases g with ⟨a2, b2, c2⟩ | q
    · exact absurd a2 (hm a)
    · exact Or.inr q
def VQ (n m : Nat) (QS : Int32 → Int32 → Int32 → Int32 → mM → Int32 → mM → Prop) (QB : Int32 → Int32 → Int32 → mM → Int32 → mM → Prop) : Prop := ∀ (k a t s : Int32) (C : mM) (r : Int32) (C2 D : mM) (r2 : Int32) (D2 : mM), QS k a t s C r C2 → QB k a t D r2 D2 → s.toInt + (m : Int) = 30 → RK k.toInt a.toInt n → (0 ≤ k.toInt ∧ k.toInt ≤ 7) → (0 ≤ a.toInt ∧ a.toInt ≤ 3) → VR C D → VF C D → VO r r2 C2 D2
def VM (QS : Int32 → Int32 → Int32 → Int32 → mM → Int32 → mM → Prop) : Prop := ∀ (k a t s : Int32) (C : mM) (r : Int32) (C2 : mM), QS k a t s C r C2 → ¬ (C.1 (8, 0, 0) 5).toInt = 0 → ¬ (C2.1 (8, 0, 0) 5).toInt = 0
theorem own_mono {N m : Nat} {QS : Int32 → Int32 → Int32 → Int32 → mM → Int32 → mM → Prop} {v u t r : Int32} {C C2 : mM} (hM : VM QS) (h : SP_X8_own N m QS v u t C r C2) (hf : ¬ (C.1 (8, 0, 0) 5).toInt = 0) : ¬ (C2.1 (8, 0, 0) 5).toInt = 0 := by
  refine xE_SP_X8_own h (fun z1_ e2_ M4_ _ hF8_ r3_ hs10_ hr_ hM_ => ?_)
  rw [hM_]
  exact hM _ _ _ _ _ _ _ hs10_ hf
theorem own_both {N m N2 n : Nat} {QS : Int32 → Int32 → Int32 → Int32 → mM → Int32 → mM → Prop} {QB : Int32 → Int32 → Int32 → mM → Int32 → mM → Prop} {a u t r r2 : Int32} {C C2 D D2 : mM} (hQ : VQ n m QS QB) (h1 : SP_X8_own N m QS a u t C r C2) (h2 : SP_X12_voiced N2 n QB a u D r2 D2) (hs : t.toInt + (m : Int) = 30) (hK : 3 * a.toInt + 2 ≤ (n : Int)) (ha : 0 ≤ a.toInt ∧ a.toInt ≤ 3) (hR : VR C D) (hF : VF C D) : VO r r2 C2 D2 := by
  refine xE_SP_X8_own h1 (fun z1_ e2_ M4_ _ hF8_ r3_ hs10_ hr_ hM_ => ?_)
  refine xE_SP_X12_voiced h2 (fun b_z1_ b_e2_ b_h3_ b_r4_ b_hs8_ b_h7_ b_M10_ _ b_hF14_ b_r9_ b_hs16_ b_hr_ b_hM_ => ?_)
  refine xE_SP_X12_kindOf b_hs8_ (fun c_r1_ c_hs5_ c_h4_ c_z6_ c_h7_ c_j10_ c_h11_ c_z8_ c_e9_ c_h12_ c_hr_ => ?_)
  have R := hR
  obtain ⟨q1, q2, q3, q4⟩ := hR
  have ew := eT b_e2_
  have ek : z1_ = b_r4_ := by rw [e2_, q3, c_hr_, c_e9_, show c_j10_ = 180 + 9 * (D.1 (12, 0, 0) 27).toInt.toNat by omega]
  rw [ek] at hs10_
  rw [hr_, hM_, b_hr_, b_hM_]
  exact hQ _ _ _ _ _ _ _ _ _ _ hs10_ b_hs16_ hs (by unfold RK; omega) (by omega) ha R hF
theorem neg0 (x : Int32) : (0 : Int32) - x = -x := by
  first
    | (refine i32e ?_; rw [Int32.toInt_sub, Int32.toInt_neg, il_0, Int.zero_sub]; done)
    | (simp; done)
    | (apply Int32.toBitVec_inj.mp; simp; done)
theorem run_mono {N m : Nat} {QS : Int32 → Int32 → Int32 → Int32 → mM → Int32 → mM → Prop} {v u t r : Int32} {C C2 : mM} (hM : VM QS) (h : SP_X8_run N m QS v u t C r C2) (hf : ¬ (C.1 (8, 0, 0) 5).toInt = 0) : ¬ (C2.1 (8, 0, 0) 5).toInt = 0 := by
  have q1 := il_1
  refine xE_SP_X8_run h (fun M1_ _ hF5_ hs7_ z8_ h9_ z10_ h11_ r12_ hs16_ => ⟨(fun e17_ z18_ e19_ z20_ h21_ hr_ hM_ => ?_), (fun e17_ M23_ _ hF27_ r22_ hs29_ z30_ h31_ hr_ hM_ => ?_), (fun e17_ M33_ _ hF37_ r32_ hs39_ z40_ e41_ z42_ h43_ hr_ hM_ => ?_), (fun e17_ M45_ _ hF49_ r44_ hs51_ hr_ hM_ => ?_), (fun e17_ M53_ _ hF57_ r52_ hs59_ z60_ h61_ hr_ hM_ => ?_), (fun e17_ M63_ _ hF67_ r62_ hs69_ M71_ _ hF75_ r70_ hs77_ z78_ h79_ hr_ hM_ => ?_), (fun e17_ M81_ _ hF85_ r80_ hs87_ z88_ e89_ z90_ h91_ hr_ hM_ => ?_), (fun e17_ M93_ _ hF97_ r92_ hs99_ z100_ h101_ hr_ hM_ => ?_), (fun e17_ M103_ _ hF107_ r102_ hs109_ z110_ h111_ hr_ hM_ => ?_), (fun e17_ z112_ h113_ M115_ _ hF119_ r114_ hs121_ hr_ hM_ => ?_), (fun e17_ z122_ h123_ M125_ _ hF129_ r124_ hs131_ hr_ hM_ => ?_), (fun e17_ M133_ _ hF137_ r132_ hs139_ z140_ h141_ hr_ hM_ => ?_), (fun e17_ M143_ _ hF147_ r142_ hs149_ M151_ _ hF155_ r150_ hs157_ z158_ h159_ hr_ hM_ => ?_), (fun e17_ M161_ _ hF165_ r160_ hs167_ M169_ _ hF173_ r168_ hs175_ z176_ h177_ hr_ hM_ => ?_)⟩)
  all_goals (have g1 : ¬ (M1_.1 (8, 0, 0) 5).toInt = 0 := by rw [hF5_ _ _ (by simp [S_c_X5_add])]; exact hf)
  · rw [hM_]; exact g1
  · rw [hM_]; exact own_mono hM hs29_ g1
  · rw [hM_]; exact own_mono hM hs39_ g1
  · rw [hM_]
    refine xE_SP_X8_parted hs51_ (fun p_z1_ p_e2_ => ⟨(fun p_h3_ p_z6_ p_h7_ p_h8_ p_z9_ p_h10_ p_hr_ p_hM_ => ?_), (fun p_h3_ p_M11_ p_hM12_ p_hr_ p_hM_ => ?_)⟩)
    · rw [p_hM_]; exact g1
    · rw [p_hM_, zupE p_hM12_ rfl rfl]; omega
  · rw [hM_]; exact hM _ _ _ _ _ _ _ hs59_ g1
  · rw [hM_]; exact own_mono hM hs77_ (hM _ _ _ _ _ _ _ hs69_ g1)
  · rw [hM_]; exact hM _ _ _ _ _ _ _ hs87_ g1
  · rw [hM_]; exact hM _ _ _ _ _ _ _ hs99_ g1
  · rw [hM_]; exact hM _ _ _ _ _ _ _ hs109_ g1
  · rw [hM_]; exact hM _ _ _ _ _ _ _ hs121_ g1
  · rw [hM_]; exact hM _ _ _ _ _ _ _ hs131_ g1
  · rw [hM_]; exact hM _ _ _ _ _ _ _ hs139_ g1
  · rw [hM_]; exact own_mono hM hs157_ (hM _ _ _ _ _ _ _ hs149_ g1)
  · rw [hM_]; exact own_mono hM hs175_ (hM _ _ _ _ _ _ _ hs167_ g1)
theorem body_both {N m N2 n : Nat} {QS : Int32 → Int32 → Int32 → Int32 → mM → Int32 → mM → Prop} {QB : Int32 → Int32 → Int32 → mM → Int32 → mM → Prop} {v u t k a r r2 : Int32} {C C2 D D2 : mM} (hQ : 1 ≤ n → VQ (n - 1) m QS QB) (hM : VM QS) (h1 : SP_X8_run N m QS v u t C r C2) (h2 : SP_X12_body N2 n QB k a u D r2 D2) (hs : t.toInt + (m : Int) = 30) (hK : RK k.toInt a.toInt n) (hk : 0 ≤ k.toInt ∧ k.toInt ≤ 7) (ha : 0 ≤ a.toInt ∧ a.toInt ≤ 3) (hc : v.toInt = vcI (4 * k.toInt + a.toInt)) (hR : VR C D) (hC : (C.1 (8, 0, 0) 5).toInt = 0) (hD : (D.1 (12, 0, 0) 28).toInt = 0) : VO r r2 C2 D2 := by
  have q0 := il_0
  have q1 := il_1
  have q2 : (2 : Int32).toInt = 2 := by decide
  have q3 : (3 : Int32).toInt = 3 := by decide
  have hK2 := hK
  unfold RK at hK2
  refine xE_SP_X12_body h2 (fun b_z1_ b_e2_ b_h3_ b_r5_ b_hs9_ b_h8_ b_z10_ b_h11_ b_j14_ b_h15_ b_z12_ b_e13_ b_z16_ b_h17_ b_z18_ b_h19_ => ⟨(fun b_e20_ b_M21_ _ b_hF25_ b_hs27_ b_z29_ b_h30_ b_hr_ b_hM_ => ?_), (fun b_e20_ b_M31_ _ b_hF35_ b_hs37_ b_M40_ _ b_hF44_ b_r39_ b_hs46_ b_z48_ b_h49_ b_hr_ b_hM_ => ?_), (fun b_e20_ b_M50_ _ b_hF54_ b_hs56_ b_M59_ _ b_hF63_ b_r58_ b_hs65_ b_z67_ b_e68_ b_h69_ b_h70_ b_z71_ b_h72_ b_hr_ b_hM_ => ?_), (fun b_e20_ b_M73_ _ b_hF77_ b_hs79_ b_z81_ b_e82_ b_h83_ b_h84_ => ⟨(fun b_h85_ b_M86_ b_hM87_ b_z92_ b_e93_ b_h94_ b_h95_ b_h96_ b_z97_ b_e98_ b_h99_ b_h100_ b_z101_ b_h102_ b_z103_ b_h104_ b_hr_ b_hM_ => ?_), (fun b_h85_ b_M105_ b_hM106_ b_z111_ b_e112_ b_h113_ b_h114_ b_h115_ b_hr_ b_hM_ => ?_)⟩), (fun b_e20_ b_M116_ _ b_hF120_ b_hs122_ b_M125_ _ b_hF129_ b_r124_ b_hs131_ b_z133_ b_h134_ b_hr_ b_hM_ => ?_), (fun b_e20_ b_M135_ _ b_hF139_ b_hs141_ b_M144_ _ b_hF148_ b_r143_ b_hs150_ b_M153_ _ b_hF157_ b_r152_ b_hs159_ b_z161_ b_h162_ b_hr_ b_hM_ => ?_), (fun b_e20_ b_M163_ _ b_hF167_ b_hs169_ b_M172_ _ b_hF176_ b_r171_ b_hs178_ b_z180_ b_h181_ b_hr_ b_hM_ => ?_), (fun b_e20_ b_M182_ _ b_hF186_ b_hs188_ b_M191_ _ b_hF195_ b_r190_ b_hs197_ b_z199_ b_h200_ b_hr_ b_hM_ => ?_), (fun b_e20_ b_M201_ _ b_hF205_ b_hs207_ b_M210_ _ b_hF214_ b_r209_ b_hs216_ b_z218_ b_h219_ b_hr_ b_hM_ => ?_), (fun b_e20_ b_M220_ _ b_hF224_ b_hs226_ b_z228_ b_h229_ b_M231_ _ b_hF235_ b_r230_ b_hs237_ b_hr_ b_hM_ => ?_), (fun b_e20_ b_M239_ _ b_hF243_ b_hs245_ b_z247_ b_h248_ b_M250_ _ b_hF254_ b_r249_ b_hs256_ b_hr_ b_hM_ => ?_), (fun b_e20_ b_M258_ _ b_hF262_ b_hs264_ b_M267_ _ b_hF271_ b_r266_ b_hs273_ b_z275_ b_h276_ b_hr_ b_hM_ => ?_), (fun b_e20_ b_M277_ _ b_hF281_ b_hs283_ b_M286_ _ b_hF290_ b_r285_ b_hs292_ b_M295_ _ b_hF299_ b_r294_ b_hs301_ b_z303_ b_h304_ b_hr_ b_hM_ => ?_), (fun b_e20_ b_M305_ _ b_hF309_ b_hs311_ b_M314_ _ b_hF318_ b_r313_ b_hs320_ b_M323_ _ b_hF327_ b_r322_ b_hs329_ b_z331_ b_h332_ b_hr_ b_hM_ => ?_)⟩)
  · have hv : v.toInt = 10 := by rw [hc, show 4 * k.toInt + a.toInt = 0 by omega]; decide
    clear hc
    refine xE_SP_X8_run h1 (fun a_M1_ _ a_hF5_ a_hs7_ a_z8_ a_h9_ a_z10_ a_h11_ a_r12_ a_hs16_ => ⟨(fun a_e17_ a_z18_ a_e19_ a_z20_ a_h21_ a_hr_ a_hM_ => ?_), (fun a_e17_ a_M23_ _ a_hF27_ a_r22_ a_hs29_ a_z30_ a_h31_ a_hr_ a_hM_ => ?_), (fun a_e17_ a_M33_ _ a_hF37_ a_r32_ a_hs39_ a_z40_ a_e41_ a_z42_ a_h43_ a_hr_ a_hM_ => ?_), (fun a_e17_ a_M45_ _ a_hF49_ a_r44_ a_hs51_ a_hr_ a_hM_ => ?_), (fun a_e17_ a_M53_ _ a_hF57_ a_r52_ a_hs59_ a_z60_ a_h61_ a_hr_ a_hM_ => ?_), (fun a_e17_ a_M63_ _ a_hF67_ a_r62_ a_hs69_ a_M71_ _ a_hF75_ a_r70_ a_hs77_ a_z78_ a_h79_ a_hr_ a_hM_ => ?_), (fun a_e17_ a_M81_ _ a_hF85_ a_r80_ a_hs87_ a_z88_ a_e89_ a_z90_ a_h91_ a_hr_ a_hM_ => ?_), (fun a_e17_ a_M93_ _ a_hF97_ a_r92_ a_hs99_ a_z100_ a_h101_ a_hr_ a_hM_ => ?_), (fun a_e17_ a_M103_ _ a_hF107_ a_r102_ a_hs109_ a_z110_ a_h111_ a_hr_ a_hM_ => ?_), (fun a_e17_ a_z112_ a_h113_ a_M115_ _ a_hF119_ a_r114_ a_hs121_ a_hr_ a_hM_ => ?_), (fun a_e17_ a_z122_ a_h123_ a_M125_ _ a_hF129_ a_r124_ a_hs131_ a_hr_ a_hM_ => ?_), (fun a_e17_ a_M133_ _ a_hF137_ a_r132_ a_hs139_ a_z140_ a_h141_ a_hr_ a_hM_ => ?_), (fun a_e17_ a_M143_ _ a_hF147_ a_r142_ a_hs149_ a_M151_ _ a_hF155_ a_r150_ a_hs157_ a_z158_ a_h159_ a_hr_ a_hM_ => ?_), (fun a_e17_ a_M161_ _ a_hF165_ a_r160_ a_hs167_ a_M169_ _ a_hF173_ a_r168_ a_hs175_ a_z176_ a_h177_ a_hr_ a_hM_ => ?_)⟩)
    all_goals first | (exfalso; omega) | skip
    have R1 := VR_a hR a_hF5_
    have f1 : (a_M1_.1 (8, 0, 0) 5).toInt = 0 := by rw [a_hF5_ _ _ (by simp [S_c_X5_add])]; exact hC
    have R2 := VR_b R1 b_hF25_
    have f2 : (b_M21_.1 (12, 0, 0) 28).toInt = 0 := by rw [b_hF25_ _ _ (by simp [S_c_X12_began])]; exact hD
    have F2 : VF a_M1_ b_M21_ := Or.inl ⟨f1, f2⟩
    rw [a_hr_, a_hM_, b_hr_, b_hM_]
    have ez : b_z12_ = D.1 (50, 0, 0) (183 + 9 * (D.1 (12, 0, 0) 27).toInt.toNat) := by have := eT b_e2_; rw [b_e13_, show b_j14_ = 183 + 9 * (D.1 (12, 0, 0) 27).toInt.toNat by omega]
    refine Or.inl ⟨f1, f2, ?_⟩
    rw [a_h21_, b_h30_, a_e19_, R1.2.2.2, ez]
  · have hv : v.toInt = 11 := by rw [hc, show 4 * k.toInt + a.toInt = 1 by omega]; decide
    clear hc
    refine xE_SP_X8_run h1 (fun a_M1_ _ a_hF5_ a_hs7_ a_z8_ a_h9_ a_z10_ a_h11_ a_r12_ a_hs16_ => ⟨(fun a_e17_ a_z18_ a_e19_ a_z20_ a_h21_ a_hr_ a_hM_ => ?_), (fun a_e17_ a_M23_ _ a_hF27_ a_r22_ a_hs29_ a_z30_ a_h31_ a_hr_ a_hM_ => ?_), (fun a_e17_ a_M33_ _ a_hF37_ a_r32_ a_hs39_ a_z40_ a_e41_ a_z42_ a_h43_ a_hr_ a_hM_ => ?_), (fun a_e17_ a_M45_ _ a_hF49_ a_r44_ a_hs51_ a_hr_ a_hM_ => ?_), (fun a_e17_ a_M53_ _ a_hF57_ a_r52_ a_hs59_ a_z60_ a_h61_ a_hr_ a_hM_ => ?_), (fun a_e17_ a_M63_ _ a_hF67_ a_r62_ a_hs69_ a_M71_ _ a_hF75_ a_r70_ a_hs77_ a_z78_ a_h79_ a_hr_ a_hM_ => ?_), (fun a_e17_ a_M81_ _ a_hF85_ a_r80_ a_hs87_ a_z88_ a_e89_ a_z90_ a_h91_ a_hr_ a_hM_ => ?_), (fun a_e17_ a_M93_ _ a_hF97_ a_r92_ a_hs99_ a_z100_ a_h101_ a_hr_ a_hM_ => ?_), (fun a_e17_ a_M103_ _ a_hF107_ a_r102_ a_hs109_ a_z110_ a_h111_ a_hr_ a_hM_ => ?_), (fun a_e17_ a_z112_ a_h113_ a_M115_ _ a_hF119_ a_r114_ a_hs121_ a_hr_ a_hM_ => ?_), (fun a_e17_ a_z122_ a_h123_ a_M125_ _ a_hF129_ a_r124_ a_hs131_ a_hr_ a_hM_ => ?_), (fun a_e17_ a_M133_ _ a_hF137_ a_r132_ a_hs139_ a_z140_ a_h141_ a_hr_ a_hM_ => ?_), (fun a_e17_ a_M143_ _ a_hF147_ a_r142_ a_hs149_ a_M151_ _ a_hF155_ a_r150_ a_hs157_ a_z158_ a_h159_ a_hr_ a_hM_ => ?_), (fun a_e17_ a_M161_ _ a_hF165_ a_r160_ a_hs167_ a_M169_ _ a_hF173_ a_r168_ a_hs175_ a_z176_ a_h177_ a_hr_ a_hM_ => ?_)⟩)
    all_goals first | (exfalso; omega) | skip
    have R1 := VR_a hR a_hF5_
    have f1 : (a_M1_.1 (8, 0, 0) 5).toInt = 0 := by rw [a_hF5_ _ _ (by simp [S_c_X5_add])]; exact hC
    have R2 := VR_b R1 b_hF35_
    have f2 : (b_M31_.1 (12, 0, 0) 28).toInt = 0 := by rw [b_hF35_ _ _ (by simp [S_c_X12_began])]; exact hD
    have F2 : VF a_M1_ b_M31_ := Or.inl ⟨f1, f2⟩
    rw [a_hr_, a_hM_, b_hr_, b_hM_]
    have A := own_both (hQ (by omega)) a_hs29_ b_hs46_ hs (by omega) (by omega) R2 F2
    exact VO_m A (fun x => by rw [a_h31_, b_h49_, x])
  · have hv : v.toInt = 12 := by rw [hc, show 4 * k.toInt + a.toInt = 2 by omega]; decide
    clear hc
    refine xE_SP_X8_run h1 (fun a_M1_ _ a_hF5_ a_hs7_ a_z8_ a_h9_ a_z10_ a_h11_ a_r12_ a_hs16_ => ⟨(fun a_e17_ a_z18_ a_e19_ a_z20_ a_h21_ a_hr_ a_hM_ => ?_), (fun a_e17_ a_M23_ _ a_hF27_ a_r22_ a_hs29_ a_z30_ a_h31_ a_hr_ a_hM_ => ?_), (fun a_e17_ a_M33_ _ a_hF37_ a_r32_ a_hs39_ a_z40_ a_e41_ a_z42_ a_h43_ a_hr_ a_hM_ => ?_), (fun a_e17_ a_M45_ _ a_hF49_ a_r44_ a_hs51_ a_hr_ a_hM_ => ?_), (fun a_e17_ a_M53_ _ a_hF57_ a_r52_ a_hs59_ a_z60_ a_h61_ a_hr_ a_hM_ => ?_), (fun a_e17_ a_M63_ _ a_hF67_ a_r62_ a_hs69_ a_M71_ _ a_hF75_ a_r70_ a_hs77_ a_z78_ a_h79_ a_hr_ a_hM_ => ?_), (fun a_e17_ a_M81_ _ a_hF85_ a_r80_ a_hs87_ a_z88_ a_e89_ a_z90_ a_h91_ a_hr_ a_hM_ => ?_), (fun a_e17_ a_M93_ _ a_hF97_ a_r92_ a_hs99_ a_z100_ a_h101_ a_hr_ a_hM_ => ?_), (fun a_e17_ a_M103_ _ a_hF107_ a_r102_ a_hs109_ a_z110_ a_h111_ a_hr_ a_hM_ => ?_), (fun a_e17_ a_z112_ a_h113_ a_M115_ _ a_hF119_ a_r114_ a_hs121_ a_hr_ a_hM_ => ?_), (fun a_e17_ a_z122_ a_h123_ a_M125_ _ a_hF129_ a_r124_ a_hs131_ a_hr_ a_hM_ => ?_), (fun a_e17_ a_M133_ _ a_hF137_ a_r132_ a_hs139_ a_z140_ a_h141_ a_hr_ a_hM_ => ?_), (fun a_e17_ a_M143_ _ a_hF147_ a_r142_ a_hs149_ a_M151_ _ a_hF155_ a_r150_ a_hs157_ a_z158_ a_h159_ a_hr_ a_hM_ => ?_), (fun a_e17_ a_M161_ _ a_hF165_ a_r160_ a_hs167_ a_M169_ _ a_hF173_ a_r168_ a_hs175_ a_z176_ a_h177_ a_hr_ a_hM_ => ?_)⟩)
    all_goals first | (exfalso; omega) | skip
    have R1 := VR_a hR a_hF5_
    have f1 : (a_M1_.1 (8, 0, 0) 5).toInt = 0 := by rw [a_hF5_ _ _ (by simp [S_c_X5_add])]; exact hC
    have R2 := VR_b R1 b_hF54_
    have f2 : (b_M50_.1 (12, 0, 0) 28).toInt = 0 := by rw [b_hF54_ _ _ (by simp [S_c_X12_began])]; exact hD
    have F2 : VF a_M1_ b_M50_ := Or.inl ⟨f1, f2⟩
    rw [a_hr_, a_hM_, b_hr_, b_hM_]
    have A := own_both (hQ (by omega)) a_hs39_ b_hs65_ hs (by omega) (by omega) R2 F2
    have R3 := VR_d (VR_c R2 a_hF37_) b_hF63_
    exact VO_m A (fun x => by rw [a_h43_, b_h72_, a_e41_, R3.1, ← b_e68_, x])
  · have hv : v.toInt = 13 := by rw [hc, show 4 * k.toInt + a.toInt = 3 by omega]; decide
    clear hc
    refine xE_SP_X8_run h1 (fun a_M1_ _ a_hF5_ a_hs7_ a_z8_ a_h9_ a_z10_ a_h11_ a_r12_ a_hs16_ => ⟨(fun a_e17_ a_z18_ a_e19_ a_z20_ a_h21_ a_hr_ a_hM_ => ?_), (fun a_e17_ a_M23_ _ a_hF27_ a_r22_ a_hs29_ a_z30_ a_h31_ a_hr_ a_hM_ => ?_), (fun a_e17_ a_M33_ _ a_hF37_ a_r32_ a_hs39_ a_z40_ a_e41_ a_z42_ a_h43_ a_hr_ a_hM_ => ?_), (fun a_e17_ a_M45_ _ a_hF49_ a_r44_ a_hs51_ a_hr_ a_hM_ => ?_), (fun a_e17_ a_M53_ _ a_hF57_ a_r52_ a_hs59_ a_z60_ a_h61_ a_hr_ a_hM_ => ?_), (fun a_e17_ a_M63_ _ a_hF67_ a_r62_ a_hs69_ a_M71_ _ a_hF75_ a_r70_ a_hs77_ a_z78_ a_h79_ a_hr_ a_hM_ => ?_), (fun a_e17_ a_M81_ _ a_hF85_ a_r80_ a_hs87_ a_z88_ a_e89_ a_z90_ a_h91_ a_hr_ a_hM_ => ?_), (fun a_e17_ a_M93_ _ a_hF97_ a_r92_ a_hs99_ a_z100_ a_h101_ a_hr_ a_hM_ => ?_), (fun a_e17_ a_M103_ _ a_hF107_ a_r102_ a_hs109_ a_z110_ a_h111_ a_hr_ a_hM_ => ?_), (fun a_e17_ a_z112_ a_h113_ a_M115_ _ a_hF119_ a_r114_ a_hs121_ a_hr_ a_hM_ => ?_), (fun a_e17_ a_z122_ a_h123_ a_M125_ _ a_hF129_ a_r124_ a_hs131_ a_hr_ a_hM_ => ?_), (fun a_e17_ a_M133_ _ a_hF137_ a_r132_ a_hs139_ a_z140_ a_h141_ a_hr_ a_hM_ => ?_), (fun a_e17_ a_M143_ _ a_hF147_ a_r142_ a_hs149_ a_M151_ _ a_hF155_ a_r150_ a_hs157_ a_z158_ a_h159_ a_hr_ a_hM_ => ?_), (fun a_e17_ a_M161_ _ a_hF165_ a_r160_ a_hs167_ a_M169_ _ a_hF173_ a_r168_ a_hs175_ a_z176_ a_h177_ a_hr_ a_hM_ => ?_)⟩)
    all_goals first | (exfalso; omega) | skip
    have R1 := VR_a hR a_hF5_
    have f1 : (a_M1_.1 (8, 0, 0) 5).toInt = 0 := by rw [a_hF5_ _ _ (by simp [S_c_X5_add])]; exact hC
    have R2 := VR_b R1 b_hF77_
    have f2 : (b_M73_.1 (12, 0, 0) 28).toInt = 0 := by rw [b_hF77_ _ _ (by simp [S_c_X12_began])]; exact hD
    have F2 : VF a_M1_ b_M73_ := Or.inl ⟨f1, f2⟩
    rw [a_hr_, a_hM_, b_hr_, b_hM_]
    have w1 := eT R2.1
    refine xE_SP_X8_parted a_hs51_ (fun p_z1_ p_e2_ => ⟨(fun p_h3_ p_z6_ p_h7_ p_h8_ p_z9_ p_h10_ p_hr_ p_hM_ => ?_), (fun p_h3_ p_M11_ p_hM12_ p_hr_ p_hM_ => ?_)⟩)
    · rw [p_hM_, p_hr_]
      have y1 := eT p_e2_
      have y2 := eT b_e98_
      rw [zupN b_hM87_ (fun z => absurd z.2 (by omega))] at y2
      have i6 : p_z6_.toInt = p_z1_.toInt - 3 := by rw [p_h7_]; exact subI rfl q3 (by omega) (by omega)
      refine Or.inl ⟨f1, by rw [zupE b_hM87_ rfl rfl]; exact q0, ?_⟩
      rw [p_h10_, b_h104_, show p_z6_ = b_z101_ from i32e (by omega)]
    · have y1 := eT p_e2_
      have y2 := eT b_e82_
      exfalso; omega
  · have hv : v.toInt = 13 := by rw [hc, show 4 * k.toInt + a.toInt = 3 by omega]; decide
    clear hc
    refine xE_SP_X8_run h1 (fun a_M1_ _ a_hF5_ a_hs7_ a_z8_ a_h9_ a_z10_ a_h11_ a_r12_ a_hs16_ => ⟨(fun a_e17_ a_z18_ a_e19_ a_z20_ a_h21_ a_hr_ a_hM_ => ?_), (fun a_e17_ a_M23_ _ a_hF27_ a_r22_ a_hs29_ a_z30_ a_h31_ a_hr_ a_hM_ => ?_), (fun a_e17_ a_M33_ _ a_hF37_ a_r32_ a_hs39_ a_z40_ a_e41_ a_z42_ a_h43_ a_hr_ a_hM_ => ?_), (fun a_e17_ a_M45_ _ a_hF49_ a_r44_ a_hs51_ a_hr_ a_hM_ => ?_), (fun a_e17_ a_M53_ _ a_hF57_ a_r52_ a_hs59_ a_z60_ a_h61_ a_hr_ a_hM_ => ?_), (fun a_e17_ a_M63_ _ a_hF67_ a_r62_ a_hs69_ a_M71_ _ a_hF75_ a_r70_ a_hs77_ a_z78_ a_h79_ a_hr_ a_hM_ => ?_), (fun a_e17_ a_M81_ _ a_hF85_ a_r80_ a_hs87_ a_z88_ a_e89_ a_z90_ a_h91_ a_hr_ a_hM_ => ?_), (fun a_e17_ a_M93_ _ a_hF97_ a_r92_ a_hs99_ a_z100_ a_h101_ a_hr_ a_hM_ => ?_), (fun a_e17_ a_M103_ _ a_hF107_ a_r102_ a_hs109_ a_z110_ a_h111_ a_hr_ a_hM_ => ?_), (fun a_e17_ a_z112_ a_h113_ a_M115_ _ a_hF119_ a_r114_ a_hs121_ a_hr_ a_hM_ => ?_), (fun a_e17_ a_z122_ a_h123_ a_M125_ _ a_hF129_ a_r124_ a_hs131_ a_hr_ a_hM_ => ?_), (fun a_e17_ a_M133_ _ a_hF137_ a_r132_ a_hs139_ a_z140_ a_h141_ a_hr_ a_hM_ => ?_), (fun a_e17_ a_M143_ _ a_hF147_ a_r142_ a_hs149_ a_M151_ _ a_hF155_ a_r150_ a_hs157_ a_z158_ a_h159_ a_hr_ a_hM_ => ?_), (fun a_e17_ a_M161_ _ a_hF165_ a_r160_ a_hs167_ a_M169_ _ a_hF173_ a_r168_ a_hs175_ a_z176_ a_h177_ a_hr_ a_hM_ => ?_)⟩)
    all_goals first | (exfalso; omega) | skip
    have R1 := VR_a hR a_hF5_
    have f1 : (a_M1_.1 (8, 0, 0) 5).toInt = 0 := by rw [a_hF5_ _ _ (by simp [S_c_X5_add])]; exact hC
    have R2 := VR_b R1 b_hF77_
    have f2 : (b_M73_.1 (12, 0, 0) 28).toInt = 0 := by rw [b_hF77_ _ _ (by simp [S_c_X12_began])]; exact hD
    have F2 : VF a_M1_ b_M73_ := Or.inl ⟨f1, f2⟩
    rw [a_hr_, a_hM_, b_hr_, b_hM_]
    have w1 := eT R2.1
    refine xE_SP_X8_parted a_hs51_ (fun p_z1_ p_e2_ => ⟨(fun p_h3_ p_z6_ p_h7_ p_h8_ p_z9_ p_h10_ p_hr_ p_hM_ => ?_), (fun p_h3_ p_M11_ p_hM12_ p_hr_ p_hM_ => ?_)⟩)
    · have y1 := eT p_e2_
      have y2 := eT b_e82_
      exfalso; omega
    · rw [p_hM_]
      exact Or.inr ⟨by rw [zupE p_hM12_ rfl rfl]; omega, by rw [zupE b_hM106_ rfl rfl]; omega⟩
  · have hv : v.toInt = 20 := by rw [hc, show 4 * k.toInt + a.toInt = 4 by omega]; decide
    clear hc
    refine xE_SP_X8_run h1 (fun a_M1_ _ a_hF5_ a_hs7_ a_z8_ a_h9_ a_z10_ a_h11_ a_r12_ a_hs16_ => ⟨(fun a_e17_ a_z18_ a_e19_ a_z20_ a_h21_ a_hr_ a_hM_ => ?_), (fun a_e17_ a_M23_ _ a_hF27_ a_r22_ a_hs29_ a_z30_ a_h31_ a_hr_ a_hM_ => ?_), (fun a_e17_ a_M33_ _ a_hF37_ a_r32_ a_hs39_ a_z40_ a_e41_ a_z42_ a_h43_ a_hr_ a_hM_ => ?_), (fun a_e17_ a_M45_ _ a_hF49_ a_r44_ a_hs51_ a_hr_ a_hM_ => ?_), (fun a_e17_ a_M53_ _ a_hF57_ a_r52_ a_hs59_ a_z60_ a_h61_ a_hr_ a_hM_ => ?_), (fun a_e17_ a_M63_ _ a_hF67_ a_r62_ a_hs69_ a_M71_ _ a_hF75_ a_r70_ a_hs77_ a_z78_ a_h79_ a_hr_ a_hM_ => ?_), (fun a_e17_ a_M81_ _ a_hF85_ a_r80_ a_hs87_ a_z88_ a_e89_ a_z90_ a_h91_ a_hr_ a_hM_ => ?_), (fun a_e17_ a_M93_ _ a_hF97_ a_r92_ a_hs99_ a_z100_ a_h101_ a_hr_ a_hM_ => ?_), (fun a_e17_ a_M103_ _ a_hF107_ a_r102_ a_hs109_ a_z110_ a_h111_ a_hr_ a_hM_ => ?_), (fun a_e17_ a_z112_ a_h113_ a_M115_ _ a_hF119_ a_r114_ a_hs121_ a_hr_ a_hM_ => ?_), (fun a_e17_ a_z122_ a_h123_ a_M125_ _ a_hF129_ a_r124_ a_hs131_ a_hr_ a_hM_ => ?_), (fun a_e17_ a_M133_ _ a_hF137_ a_r132_ a_hs139_ a_z140_ a_h141_ a_hr_ a_hM_ => ?_), (fun a_e17_ a_M143_ _ a_hF147_ a_r142_ a_hs149_ a_M151_ _ a_hF155_ a_r150_ a_hs157_ a_z158_ a_h159_ a_hr_ a_hM_ => ?_), (fun a_e17_ a_M161_ _ a_hF165_ a_r160_ a_hs167_ a_M169_ _ a_hF173_ a_r168_ a_hs175_ a_z176_ a_h177_ a_hr_ a_hM_ => ?_)⟩)
    all_goals first | (exfalso; omega) | skip
    have R1 := VR_a hR a_hF5_
    have f1 : (a_M1_.1 (8, 0, 0) 5).toInt = 0 := by rw [a_hF5_ _ _ (by simp [S_c_X5_add])]; exact hC
    have R2 := VR_b R1 b_hF120_
    have f2 : (b_M116_.1 (12, 0, 0) 28).toInt = 0 := by rw [b_hF120_ _ _ (by simp [S_c_X12_began])]; exact hD
    have F2 : VF a_M1_ b_M116_ := Or.inl ⟨f1, f2⟩
    rw [a_hr_, a_hM_, b_hr_, b_hM_]
    have ev : v = 20 := i32e (by rw [hv]; decide)
    rw [a_h9_, ev] at a_h11_
    have e12 : a_r12_ = 0 := (x9abv a_hs16_ (k := 1) (by omega) (by rw [a_h11_]; decide +kernel)).trans (by decide +kernel)
    rw [e12] at a_hs59_
    have A := hQ (by omega) _ _ _ _ _ _ _ _ _ _ a_hs59_ b_hs131_ hs (by unfold RK; omega) (by omega) (by omega) R2 F2
    exact VO_m A (fun x => by rw [a_h61_, b_h134_, x])
  · have hv : v.toInt = 21 := by rw [hc, show 4 * k.toInt + a.toInt = 7 by omega]; decide
    clear hc
    refine xE_SP_X8_run h1 (fun a_M1_ _ a_hF5_ a_hs7_ a_z8_ a_h9_ a_z10_ a_h11_ a_r12_ a_hs16_ => ⟨(fun a_e17_ a_z18_ a_e19_ a_z20_ a_h21_ a_hr_ a_hM_ => ?_), (fun a_e17_ a_M23_ _ a_hF27_ a_r22_ a_hs29_ a_z30_ a_h31_ a_hr_ a_hM_ => ?_), (fun a_e17_ a_M33_ _ a_hF37_ a_r32_ a_hs39_ a_z40_ a_e41_ a_z42_ a_h43_ a_hr_ a_hM_ => ?_), (fun a_e17_ a_M45_ _ a_hF49_ a_r44_ a_hs51_ a_hr_ a_hM_ => ?_), (fun a_e17_ a_M53_ _ a_hF57_ a_r52_ a_hs59_ a_z60_ a_h61_ a_hr_ a_hM_ => ?_), (fun a_e17_ a_M63_ _ a_hF67_ a_r62_ a_hs69_ a_M71_ _ a_hF75_ a_r70_ a_hs77_ a_z78_ a_h79_ a_hr_ a_hM_ => ?_), (fun a_e17_ a_M81_ _ a_hF85_ a_r80_ a_hs87_ a_z88_ a_e89_ a_z90_ a_h91_ a_hr_ a_hM_ => ?_), (fun a_e17_ a_M93_ _ a_hF97_ a_r92_ a_hs99_ a_z100_ a_h101_ a_hr_ a_hM_ => ?_), (fun a_e17_ a_M103_ _ a_hF107_ a_r102_ a_hs109_ a_z110_ a_h111_ a_hr_ a_hM_ => ?_), (fun a_e17_ a_z112_ a_h113_ a_M115_ _ a_hF119_ a_r114_ a_hs121_ a_hr_ a_hM_ => ?_), (fun a_e17_ a_z122_ a_h123_ a_M125_ _ a_hF129_ a_r124_ a_hs131_ a_hr_ a_hM_ => ?_), (fun a_e17_ a_M133_ _ a_hF137_ a_r132_ a_hs139_ a_z140_ a_h141_ a_hr_ a_hM_ => ?_), (fun a_e17_ a_M143_ _ a_hF147_ a_r142_ a_hs149_ a_M151_ _ a_hF155_ a_r150_ a_hs157_ a_z158_ a_h159_ a_hr_ a_hM_ => ?_), (fun a_e17_ a_M161_ _ a_hF165_ a_r160_ a_hs167_ a_M169_ _ a_hF173_ a_r168_ a_hs175_ a_z176_ a_h177_ a_hr_ a_hM_ => ?_)⟩)
    all_goals first | (exfalso; omega) | skip
    have R1 := VR_a hR a_hF5_
    have f1 : (a_M1_.1 (8, 0, 0) 5).toInt = 0 := by rw [a_hF5_ _ _ (by simp [S_c_X5_add])]; exact hC
    have R2 := VR_b R1 b_hF139_
    have f2 : (b_M135_.1 (12, 0, 0) 28).toInt = 0 := by rw [b_hF139_ _ _ (by simp [S_c_X12_began])]; exact hD
    have F2 : VF a_M1_ b_M135_ := Or.inl ⟨f1, f2⟩
    rw [a_hr_, a_hM_, b_hr_, b_hM_]
    have ev : v = 21 := i32e (by rw [hv]; decide)
    rw [a_h9_, ev] at a_h11_
    have e12 : a_r12_ = 0 := (x9abv a_hs16_ (k := 1) (by omega) (by rw [a_h11_]; decide +kernel)).trans (by decide +kernel)
    rw [e12] at a_hs69_
    have A := hQ (by omega) _ _ _ _ _ _ _ _ _ _ a_hs69_ b_hs150_ hs (by unfold RK; omega) (by omega) (by omega) R2 F2
    have R3 := VR_d (VR_c R2 a_hF67_) b_hF148_
    have B := own_both (hQ (by omega)) a_hs77_ b_hs159_ hs (by omega) (by omega) R3 (VO_f A)
    exact VO_2 A B (own_mono hM a_hs77_) (fun x y => by rw [a_h79_, b_h162_, x, y])
  · have hv : v.toInt = 30 := by rw [hc, show 4 * k.toInt + a.toInt = 9 by omega]; decide
    clear hc
    refine xE_SP_X8_run h1 (fun a_M1_ _ a_hF5_ a_hs7_ a_z8_ a_h9_ a_z10_ a_h11_ a_r12_ a_hs16_ => ⟨(fun a_e17_ a_z18_ a_e19_ a_z20_ a_h21_ a_hr_ a_hM_ => ?_), (fun a_e17_ a_M23_ _ a_hF27_ a_r22_ a_hs29_ a_z30_ a_h31_ a_hr_ a_hM_ => ?_), (fun a_e17_ a_M33_ _ a_hF37_ a_r32_ a_hs39_ a_z40_ a_e41_ a_z42_ a_h43_ a_hr_ a_hM_ => ?_), (fun a_e17_ a_M45_ _ a_hF49_ a_r44_ a_hs51_ a_hr_ a_hM_ => ?_), (fun a_e17_ a_M53_ _ a_hF57_ a_r52_ a_hs59_ a_z60_ a_h61_ a_hr_ a_hM_ => ?_), (fun a_e17_ a_M63_ _ a_hF67_ a_r62_ a_hs69_ a_M71_ _ a_hF75_ a_r70_ a_hs77_ a_z78_ a_h79_ a_hr_ a_hM_ => ?_), (fun a_e17_ a_M81_ _ a_hF85_ a_r80_ a_hs87_ a_z88_ a_e89_ a_z90_ a_h91_ a_hr_ a_hM_ => ?_), (fun a_e17_ a_M93_ _ a_hF97_ a_r92_ a_hs99_ a_z100_ a_h101_ a_hr_ a_hM_ => ?_), (fun a_e17_ a_M103_ _ a_hF107_ a_r102_ a_hs109_ a_z110_ a_h111_ a_hr_ a_hM_ => ?_), (fun a_e17_ a_z112_ a_h113_ a_M115_ _ a_hF119_ a_r114_ a_hs121_ a_hr_ a_hM_ => ?_), (fun a_e17_ a_z122_ a_h123_ a_M125_ _ a_hF129_ a_r124_ a_hs131_ a_hr_ a_hM_ => ?_), (fun a_e17_ a_M133_ _ a_hF137_ a_r132_ a_hs139_ a_z140_ a_h141_ a_hr_ a_hM_ => ?_), (fun a_e17_ a_M143_ _ a_hF147_ a_r142_ a_hs149_ a_M151_ _ a_hF155_ a_r150_ a_hs157_ a_z158_ a_h159_ a_hr_ a_hM_ => ?_), (fun a_e17_ a_M161_ _ a_hF165_ a_r160_ a_hs167_ a_M169_ _ a_hF173_ a_r168_ a_hs175_ a_z176_ a_h177_ a_hr_ a_hM_ => ?_)⟩)
    all_goals first | (exfalso; omega) | skip
    have R1 := VR_a hR a_hF5_
    have f1 : (a_M1_.1 (8, 0, 0) 5).toInt = 0 := by rw [a_hF5_ _ _ (by simp [S_c_X5_add])]; exact hC
    have R2 := VR_b R1 b_hF167_
    have f2 : (b_M163_.1 (12, 0, 0) 28).toInt = 0 := by rw [b_hF167_ _ _ (by simp [S_c_X12_began])]; exact hD
    have F2 : VF a_M1_ b_M163_ := Or.inl ⟨f1, f2⟩
    rw [a_hr_, a_hM_, b_hr_, b_hM_]
    have ev : v = 30 := i32e (by rw [hv]; decide)
    rw [a_h9_, ev] at a_h11_
    have e12 : a_r12_ = 0 := (x9abv a_hs16_ (k := 2) (by omega) (by rw [a_h11_]; decide +kernel)).trans (by decide +kernel)
    rw [e12] at a_hs87_
    have A := hQ (by omega) _ _ _ _ _ _ _ _ _ _ a_hs87_ b_hs178_ hs (by unfold RK; omega) (by omega) (by omega) R2 F2
    have ez : b_z12_ = D.1 (50, 0, 0) (183 + 9 * (D.1 (12, 0, 0) 27).toInt.toNat) := by have := eT b_e2_; rw [b_e13_, show b_j14_ = 183 + 9 * (D.1 (12, 0, 0) 27).toInt.toNat by omega]
    have R3 := VR_c R1 a_hF85_
    exact VO_m A (fun x => by rw [a_h91_, b_h181_, a_e89_, R3.2.2.2, ez, x])
  · have hv : v.toInt = 40 := by rw [hc, show 4 * k.toInt + a.toInt = 12 by omega]; decide
    clear hc
    refine xE_SP_X8_run h1 (fun a_M1_ _ a_hF5_ a_hs7_ a_z8_ a_h9_ a_z10_ a_h11_ a_r12_ a_hs16_ => ⟨(fun a_e17_ a_z18_ a_e19_ a_z20_ a_h21_ a_hr_ a_hM_ => ?_), (fun a_e17_ a_M23_ _ a_hF27_ a_r22_ a_hs29_ a_z30_ a_h31_ a_hr_ a_hM_ => ?_), (fun a_e17_ a_M33_ _ a_hF37_ a_r32_ a_hs39_ a_z40_ a_e41_ a_z42_ a_h43_ a_hr_ a_hM_ => ?_), (fun a_e17_ a_M45_ _ a_hF49_ a_r44_ a_hs51_ a_hr_ a_hM_ => ?_), (fun a_e17_ a_M53_ _ a_hF57_ a_r52_ a_hs59_ a_z60_ a_h61_ a_hr_ a_hM_ => ?_), (fun a_e17_ a_M63_ _ a_hF67_ a_r62_ a_hs69_ a_M71_ _ a_hF75_ a_r70_ a_hs77_ a_z78_ a_h79_ a_hr_ a_hM_ => ?_), (fun a_e17_ a_M81_ _ a_hF85_ a_r80_ a_hs87_ a_z88_ a_e89_ a_z90_ a_h91_ a_hr_ a_hM_ => ?_), (fun a_e17_ a_M93_ _ a_hF97_ a_r92_ a_hs99_ a_z100_ a_h101_ a_hr_ a_hM_ => ?_), (fun a_e17_ a_M103_ _ a_hF107_ a_r102_ a_hs109_ a_z110_ a_h111_ a_hr_ a_hM_ => ?_), (fun a_e17_ a_z112_ a_h113_ a_M115_ _ a_hF119_ a_r114_ a_hs121_ a_hr_ a_hM_ => ?_), (fun a_e17_ a_z122_ a_h123_ a_M125_ _ a_hF129_ a_r124_ a_hs131_ a_hr_ a_hM_ => ?_), (fun a_e17_ a_M133_ _ a_hF137_ a_r132_ a_hs139_ a_z140_ a_h141_ a_hr_ a_hM_ => ?_), (fun a_e17_ a_M143_ _ a_hF147_ a_r142_ a_hs149_ a_M151_ _ a_hF155_ a_r150_ a_hs157_ a_z158_ a_h159_ a_hr_ a_hM_ => ?_), (fun a_e17_ a_M161_ _ a_hF165_ a_r160_ a_hs167_ a_M169_ _ a_hF173_ a_r168_ a_hs175_ a_z176_ a_h177_ a_hr_ a_hM_ => ?_)⟩)
    all_goals first | (exfalso; omega) | skip
    have R1 := VR_a hR a_hF5_
    have f1 : (a_M1_.1 (8, 0, 0) 5).toInt = 0 := by rw [a_hF5_ _ _ (by simp [S_c_X5_add])]; exact hC
    have R2 := VR_b R1 b_hF186_
    have f2 : (b_M182_.1 (12, 0, 0) 28).toInt = 0 := by rw [b_hF186_ _ _ (by simp [S_c_X12_began])]; exact hD
    have F2 : VF a_M1_ b_M182_ := Or.inl ⟨f1, f2⟩
    rw [a_hr_, a_hM_, b_hr_, b_hM_]
    have ev : v = 40 := i32e (by rw [hv]; decide)
    rw [a_h9_, ev] at a_h11_
    have e12 : a_r12_ = 0 := (x9abv a_hs16_ (k := 3) (by omega) (by rw [a_h11_]; decide +kernel)).trans (by decide +kernel)
    rw [e12] at a_hs99_
    have A := hQ (by omega) _ _ _ _ _ _ _ _ _ _ a_hs99_ b_hs197_ hs (by unfold RK; omega) (by omega) (by omega) R2 F2
    exact VO_m A (fun x => by rw [a_h101_, b_h200_, x]; exact neg0 _)
  · have hv : v.toInt = 41 := by rw [hc, show 4 * k.toInt + a.toInt = 14 by omega]; decide
    clear hc
    refine xE_SP_X8_run h1 (fun a_M1_ _ a_hF5_ a_hs7_ a_z8_ a_h9_ a_z10_ a_h11_ a_r12_ a_hs16_ => ⟨(fun a_e17_ a_z18_ a_e19_ a_z20_ a_h21_ a_hr_ a_hM_ => ?_), (fun a_e17_ a_M23_ _ a_hF27_ a_r22_ a_hs29_ a_z30_ a_h31_ a_hr_ a_hM_ => ?_), (fun a_e17_ a_M33_ _ a_hF37_ a_r32_ a_hs39_ a_z40_ a_e41_ a_z42_ a_h43_ a_hr_ a_hM_ => ?_), (fun a_e17_ a_M45_ _ a_hF49_ a_r44_ a_hs51_ a_hr_ a_hM_ => ?_), (fun a_e17_ a_M53_ _ a_hF57_ a_r52_ a_hs59_ a_z60_ a_h61_ a_hr_ a_hM_ => ?_), (fun a_e17_ a_M63_ _ a_hF67_ a_r62_ a_hs69_ a_M71_ _ a_hF75_ a_r70_ a_hs77_ a_z78_ a_h79_ a_hr_ a_hM_ => ?_), (fun a_e17_ a_M81_ _ a_hF85_ a_r80_ a_hs87_ a_z88_ a_e89_ a_z90_ a_h91_ a_hr_ a_hM_ => ?_), (fun a_e17_ a_M93_ _ a_hF97_ a_r92_ a_hs99_ a_z100_ a_h101_ a_hr_ a_hM_ => ?_), (fun a_e17_ a_M103_ _ a_hF107_ a_r102_ a_hs109_ a_z110_ a_h111_ a_hr_ a_hM_ => ?_), (fun a_e17_ a_z112_ a_h113_ a_M115_ _ a_hF119_ a_r114_ a_hs121_ a_hr_ a_hM_ => ?_), (fun a_e17_ a_z122_ a_h123_ a_M125_ _ a_hF129_ a_r124_ a_hs131_ a_hr_ a_hM_ => ?_), (fun a_e17_ a_M133_ _ a_hF137_ a_r132_ a_hs139_ a_z140_ a_h141_ a_hr_ a_hM_ => ?_), (fun a_e17_ a_M143_ _ a_hF147_ a_r142_ a_hs149_ a_M151_ _ a_hF155_ a_r150_ a_hs157_ a_z158_ a_h159_ a_hr_ a_hM_ => ?_), (fun a_e17_ a_M161_ _ a_hF165_ a_r160_ a_hs167_ a_M169_ _ a_hF173_ a_r168_ a_hs175_ a_z176_ a_h177_ a_hr_ a_hM_ => ?_)⟩)
    all_goals first | (exfalso; omega) | skip
    have R1 := VR_a hR a_hF5_
    have f1 : (a_M1_.1 (8, 0, 0) 5).toInt = 0 := by rw [a_hF5_ _ _ (by simp [S_c_X5_add])]; exact hC
    have R2 := VR_b R1 b_hF205_
    have f2 : (b_M201_.1 (12, 0, 0) 28).toInt = 0 := by rw [b_hF205_ _ _ (by simp [S_c_X12_began])]; exact hD
    have F2 : VF a_M1_ b_M201_ := Or.inl ⟨f1, f2⟩
    rw [a_hr_, a_hM_, b_hr_, b_hM_]
    have ev : v = 41 := i32e (by rw [hv]; decide)
    rw [a_h9_, ev] at a_h11_
    have e12 : a_r12_ = 0 := (x9abv a_hs16_ (k := 3) (by omega) (by rw [a_h11_]; decide +kernel)).trans (by decide +kernel)
    rw [e12] at a_hs109_
    have A := hQ (by omega) _ _ _ _ _ _ _ _ _ _ a_hs109_ b_hs216_ hs (by unfold RK; omega) (by omega) (by omega) R2 F2
    exact VO_m A (fun x => by rw [a_h111_, b_h219_, x])
  · have hv : v.toInt = 50 := by rw [hc, show 4 * k.toInt + a.toInt = 18 by omega]; decide
    clear hc
    refine xE_SP_X8_run h1 (fun a_M1_ _ a_hF5_ a_hs7_ a_z8_ a_h9_ a_z10_ a_h11_ a_r12_ a_hs16_ => ⟨(fun a_e17_ a_z18_ a_e19_ a_z20_ a_h21_ a_hr_ a_hM_ => ?_), (fun a_e17_ a_M23_ _ a_hF27_ a_r22_ a_hs29_ a_z30_ a_h31_ a_hr_ a_hM_ => ?_), (fun a_e17_ a_M33_ _ a_hF37_ a_r32_ a_hs39_ a_z40_ a_e41_ a_z42_ a_h43_ a_hr_ a_hM_ => ?_), (fun a_e17_ a_M45_ _ a_hF49_ a_r44_ a_hs51_ a_hr_ a_hM_ => ?_), (fun a_e17_ a_M53_ _ a_hF57_ a_r52_ a_hs59_ a_z60_ a_h61_ a_hr_ a_hM_ => ?_), (fun a_e17_ a_M63_ _ a_hF67_ a_r62_ a_hs69_ a_M71_ _ a_hF75_ a_r70_ a_hs77_ a_z78_ a_h79_ a_hr_ a_hM_ => ?_), (fun a_e17_ a_M81_ _ a_hF85_ a_r80_ a_hs87_ a_z88_ a_e89_ a_z90_ a_h91_ a_hr_ a_hM_ => ?_), (fun a_e17_ a_M93_ _ a_hF97_ a_r92_ a_hs99_ a_z100_ a_h101_ a_hr_ a_hM_ => ?_), (fun a_e17_ a_M103_ _ a_hF107_ a_r102_ a_hs109_ a_z110_ a_h111_ a_hr_ a_hM_ => ?_), (fun a_e17_ a_z112_ a_h113_ a_M115_ _ a_hF119_ a_r114_ a_hs121_ a_hr_ a_hM_ => ?_), (fun a_e17_ a_z122_ a_h123_ a_M125_ _ a_hF129_ a_r124_ a_hs131_ a_hr_ a_hM_ => ?_), (fun a_e17_ a_M133_ _ a_hF137_ a_r132_ a_hs139_ a_z140_ a_h141_ a_hr_ a_hM_ => ?_), (fun a_e17_ a_M143_ _ a_hF147_ a_r142_ a_hs149_ a_M151_ _ a_hF155_ a_r150_ a_hs157_ a_z158_ a_h159_ a_hr_ a_hM_ => ?_), (fun a_e17_ a_M161_ _ a_hF165_ a_r160_ a_hs167_ a_M169_ _ a_hF173_ a_r168_ a_hs175_ a_z176_ a_h177_ a_hr_ a_hM_ => ?_)⟩)
    all_goals first | (exfalso; omega) | skip
    have R1 := VR_a hR a_hF5_
    have f1 : (a_M1_.1 (8, 0, 0) 5).toInt = 0 := by rw [a_hF5_ _ _ (by simp [S_c_X5_add])]; exact hC
    have R2 := VR_b R1 b_hF224_
    have f2 : (b_M220_.1 (12, 0, 0) 28).toInt = 0 := by rw [b_hF224_ _ _ (by simp [S_c_X12_began])]; exact hD
    have F2 : VF a_M1_ b_M220_ := Or.inl ⟨f1, f2⟩
    rw [a_hr_, a_hM_, b_hr_, b_hM_]
    have ev : v = 50 := i32e (by rw [hv]; decide)
    rw [a_h9_, ev] at a_h11_
    have e12 : a_r12_ = 0 := (x9abv a_hs16_ (k := 4) (by omega) (by rw [a_h11_]; decide +kernel)).trans (by decide +kernel)
    rw [a_h113_] at a_hs121_
    rw [b_h229_] at b_hs237_
    rw [e12] at a_hs121_
    have A := hQ (by omega) _ _ _ _ _ _ _ _ _ _ a_hs121_ b_hs237_ hs (by unfold RK; omega) (by omega) (by omega) R2 F2
    exact A
  · have hv : v.toInt = 60 := by rw [hc, show 4 * k.toInt + a.toInt = 21 by omega]; decide
    clear hc
    refine xE_SP_X8_run h1 (fun a_M1_ _ a_hF5_ a_hs7_ a_z8_ a_h9_ a_z10_ a_h11_ a_r12_ a_hs16_ => ⟨(fun a_e17_ a_z18_ a_e19_ a_z20_ a_h21_ a_hr_ a_hM_ => ?_), (fun a_e17_ a_M23_ _ a_hF27_ a_r22_ a_hs29_ a_z30_ a_h31_ a_hr_ a_hM_ => ?_), (fun a_e17_ a_M33_ _ a_hF37_ a_r32_ a_hs39_ a_z40_ a_e41_ a_z42_ a_h43_ a_hr_ a_hM_ => ?_), (fun a_e17_ a_M45_ _ a_hF49_ a_r44_ a_hs51_ a_hr_ a_hM_ => ?_), (fun a_e17_ a_M53_ _ a_hF57_ a_r52_ a_hs59_ a_z60_ a_h61_ a_hr_ a_hM_ => ?_), (fun a_e17_ a_M63_ _ a_hF67_ a_r62_ a_hs69_ a_M71_ _ a_hF75_ a_r70_ a_hs77_ a_z78_ a_h79_ a_hr_ a_hM_ => ?_), (fun a_e17_ a_M81_ _ a_hF85_ a_r80_ a_hs87_ a_z88_ a_e89_ a_z90_ a_h91_ a_hr_ a_hM_ => ?_), (fun a_e17_ a_M93_ _ a_hF97_ a_r92_ a_hs99_ a_z100_ a_h101_ a_hr_ a_hM_ => ?_), (fun a_e17_ a_M103_ _ a_hF107_ a_r102_ a_hs109_ a_z110_ a_h111_ a_hr_ a_hM_ => ?_), (fun a_e17_ a_z112_ a_h113_ a_M115_ _ a_hF119_ a_r114_ a_hs121_ a_hr_ a_hM_ => ?_), (fun a_e17_ a_z122_ a_h123_ a_M125_ _ a_hF129_ a_r124_ a_hs131_ a_hr_ a_hM_ => ?_), (fun a_e17_ a_M133_ _ a_hF137_ a_r132_ a_hs139_ a_z140_ a_h141_ a_hr_ a_hM_ => ?_), (fun a_e17_ a_M143_ _ a_hF147_ a_r142_ a_hs149_ a_M151_ _ a_hF155_ a_r150_ a_hs157_ a_z158_ a_h159_ a_hr_ a_hM_ => ?_), (fun a_e17_ a_M161_ _ a_hF165_ a_r160_ a_hs167_ a_M169_ _ a_hF173_ a_r168_ a_hs175_ a_z176_ a_h177_ a_hr_ a_hM_ => ?_)⟩)
    all_goals first | (exfalso; omega) | skip
    have R1 := VR_a hR a_hF5_
    have f1 : (a_M1_.1 (8, 0, 0) 5).toInt = 0 := by rw [a_hF5_ _ _ (by simp [S_c_X5_add])]; exact hC
    have R2 := VR_b R1 b_hF243_
    have f2 : (b_M239_.1 (12, 0, 0) 28).toInt = 0 := by rw [b_hF243_ _ _ (by simp [S_c_X12_began])]; exact hD
    have F2 : VF a_M1_ b_M239_ := Or.inl ⟨f1, f2⟩
    rw [a_hr_, a_hM_, b_hr_, b_hM_]
    have ev : v = 60 := i32e (by rw [hv]; decide)
    rw [a_h9_, ev] at a_h11_
    have e12 : a_r12_ = 1 := (x9abv a_hs16_ (k := 5) (by omega) (by rw [a_h11_]; decide +kernel)).trans (by decide +kernel)
    rw [a_h123_] at a_hs131_
    rw [b_h248_] at b_hs256_
    rw [e12] at a_hs131_
    have A := hQ (by omega) _ _ _ _ _ _ _ _ _ _ a_hs131_ b_hs256_ hs (by unfold RK; omega) (by omega) (by omega) R2 F2
    exact A
  · have hv : v.toInt = 70 := by rw [hc, show 4 * k.toInt + a.toInt = 25 by omega]; decide
    clear hc
    refine xE_SP_X8_run h1 (fun a_M1_ _ a_hF5_ a_hs7_ a_z8_ a_h9_ a_z10_ a_h11_ a_r12_ a_hs16_ => ⟨(fun a_e17_ a_z18_ a_e19_ a_z20_ a_h21_ a_hr_ a_hM_ => ?_), (fun a_e17_ a_M23_ _ a_hF27_ a_r22_ a_hs29_ a_z30_ a_h31_ a_hr_ a_hM_ => ?_), (fun a_e17_ a_M33_ _ a_hF37_ a_r32_ a_hs39_ a_z40_ a_e41_ a_z42_ a_h43_ a_hr_ a_hM_ => ?_), (fun a_e17_ a_M45_ _ a_hF49_ a_r44_ a_hs51_ a_hr_ a_hM_ => ?_), (fun a_e17_ a_M53_ _ a_hF57_ a_r52_ a_hs59_ a_z60_ a_h61_ a_hr_ a_hM_ => ?_), (fun a_e17_ a_M63_ _ a_hF67_ a_r62_ a_hs69_ a_M71_ _ a_hF75_ a_r70_ a_hs77_ a_z78_ a_h79_ a_hr_ a_hM_ => ?_), (fun a_e17_ a_M81_ _ a_hF85_ a_r80_ a_hs87_ a_z88_ a_e89_ a_z90_ a_h91_ a_hr_ a_hM_ => ?_), (fun a_e17_ a_M93_ _ a_hF97_ a_r92_ a_hs99_ a_z100_ a_h101_ a_hr_ a_hM_ => ?_), (fun a_e17_ a_M103_ _ a_hF107_ a_r102_ a_hs109_ a_z110_ a_h111_ a_hr_ a_hM_ => ?_), (fun a_e17_ a_z112_ a_h113_ a_M115_ _ a_hF119_ a_r114_ a_hs121_ a_hr_ a_hM_ => ?_), (fun a_e17_ a_z122_ a_h123_ a_M125_ _ a_hF129_ a_r124_ a_hs131_ a_hr_ a_hM_ => ?_), (fun a_e17_ a_M133_ _ a_hF137_ a_r132_ a_hs139_ a_z140_ a_h141_ a_hr_ a_hM_ => ?_), (fun a_e17_ a_M143_ _ a_hF147_ a_r142_ a_hs149_ a_M151_ _ a_hF155_ a_r150_ a_hs157_ a_z158_ a_h159_ a_hr_ a_hM_ => ?_), (fun a_e17_ a_M161_ _ a_hF165_ a_r160_ a_hs167_ a_M169_ _ a_hF173_ a_r168_ a_hs175_ a_z176_ a_h177_ a_hr_ a_hM_ => ?_)⟩)
    all_goals first | (exfalso; omega) | skip
    have R1 := VR_a hR a_hF5_
    have f1 : (a_M1_.1 (8, 0, 0) 5).toInt = 0 := by rw [a_hF5_ _ _ (by simp [S_c_X5_add])]; exact hC
    have R2 := VR_b R1 b_hF262_
    have f2 : (b_M258_.1 (12, 0, 0) 28).toInt = 0 := by rw [b_hF262_ _ _ (by simp [S_c_X12_began])]; exact hD
    have F2 : VF a_M1_ b_M258_ := Or.inl ⟨f1, f2⟩
    rw [a_hr_, a_hM_, b_hr_, b_hM_]
    have ev : v = 70 := i32e (by rw [hv]; decide)
    rw [a_h9_, ev] at a_h11_
    have e12 : a_r12_ = 3 := (x9abv a_hs16_ (k := 6) (by omega) (by rw [a_h11_]; decide +kernel)).trans (by decide +kernel)
    rw [e12] at a_hs139_
    have A := hQ (by omega) _ _ _ _ _ _ _ _ _ _ a_hs139_ b_hs273_ hs (by unfold RK; omega) (by omega) (by omega) R2 F2
    exact VO_m A (fun x => by rw [a_h141_, b_h276_, x])
  · have hv : v.toInt = 71 := by rw [hc, show 4 * k.toInt + a.toInt = 26 by omega]; decide
    clear hc
    refine xE_SP_X8_run h1 (fun a_M1_ _ a_hF5_ a_hs7_ a_z8_ a_h9_ a_z10_ a_h11_ a_r12_ a_hs16_ => ⟨(fun a_e17_ a_z18_ a_e19_ a_z20_ a_h21_ a_hr_ a_hM_ => ?_), (fun a_e17_ a_M23_ _ a_hF27_ a_r22_ a_hs29_ a_z30_ a_h31_ a_hr_ a_hM_ => ?_), (fun a_e17_ a_M33_ _ a_hF37_ a_r32_ a_hs39_ a_z40_ a_e41_ a_z42_ a_h43_ a_hr_ a_hM_ => ?_), (fun a_e17_ a_M45_ _ a_hF49_ a_r44_ a_hs51_ a_hr_ a_hM_ => ?_), (fun a_e17_ a_M53_ _ a_hF57_ a_r52_ a_hs59_ a_z60_ a_h61_ a_hr_ a_hM_ => ?_), (fun a_e17_ a_M63_ _ a_hF67_ a_r62_ a_hs69_ a_M71_ _ a_hF75_ a_r70_ a_hs77_ a_z78_ a_h79_ a_hr_ a_hM_ => ?_), (fun a_e17_ a_M81_ _ a_hF85_ a_r80_ a_hs87_ a_z88_ a_e89_ a_z90_ a_h91_ a_hr_ a_hM_ => ?_), (fun a_e17_ a_M93_ _ a_hF97_ a_r92_ a_hs99_ a_z100_ a_h101_ a_hr_ a_hM_ => ?_), (fun a_e17_ a_M103_ _ a_hF107_ a_r102_ a_hs109_ a_z110_ a_h111_ a_hr_ a_hM_ => ?_), (fun a_e17_ a_z112_ a_h113_ a_M115_ _ a_hF119_ a_r114_ a_hs121_ a_hr_ a_hM_ => ?_), (fun a_e17_ a_z122_ a_h123_ a_M125_ _ a_hF129_ a_r124_ a_hs131_ a_hr_ a_hM_ => ?_), (fun a_e17_ a_M133_ _ a_hF137_ a_r132_ a_hs139_ a_z140_ a_h141_ a_hr_ a_hM_ => ?_), (fun a_e17_ a_M143_ _ a_hF147_ a_r142_ a_hs149_ a_M151_ _ a_hF155_ a_r150_ a_hs157_ a_z158_ a_h159_ a_hr_ a_hM_ => ?_), (fun a_e17_ a_M161_ _ a_hF165_ a_r160_ a_hs167_ a_M169_ _ a_hF173_ a_r168_ a_hs175_ a_z176_ a_h177_ a_hr_ a_hM_ => ?_)⟩)
    all_goals first | (exfalso; omega) | skip
    have R1 := VR_a hR a_hF5_
    have f1 : (a_M1_.1 (8, 0, 0) 5).toInt = 0 := by rw [a_hF5_ _ _ (by simp [S_c_X5_add])]; exact hC
    have R2 := VR_b R1 b_hF281_
    have f2 : (b_M277_.1 (12, 0, 0) 28).toInt = 0 := by rw [b_hF281_ _ _ (by simp [S_c_X12_began])]; exact hD
    have F2 : VF a_M1_ b_M277_ := Or.inl ⟨f1, f2⟩
    rw [a_hr_, a_hM_, b_hr_, b_hM_]
    have ev : v = 71 := i32e (by rw [hv]; decide)
    rw [a_h9_, ev] at a_h11_
    have e12 : a_r12_ = 3 := (x9abv a_hs16_ (k := 6) (by omega) (by rw [a_h11_]; decide +kernel)).trans (by decide +kernel)
    rw [e12] at a_hs149_
    have A := hQ (by omega) _ _ _ _ _ _ _ _ _ _ a_hs149_ b_hs292_ hs (by unfold RK; omega) (by omega) (by omega) R2 F2
    have R3 := VR_d (VR_c R2 a_hF147_) b_hF290_
    have B := own_both (hQ (by omega)) a_hs157_ b_hs301_ hs (by omega) (by omega) R3 (VO_f A)
    exact VO_2 A B (own_mono hM a_hs157_) (fun x y => by rw [a_h159_, b_h304_, x, y])
  · have hv : v.toInt = 80 := by rw [hc, show 4 * k.toInt + a.toInt = 31 by omega]; decide
    clear hc
    refine xE_SP_X8_run h1 (fun a_M1_ _ a_hF5_ a_hs7_ a_z8_ a_h9_ a_z10_ a_h11_ a_r12_ a_hs16_ => ⟨(fun a_e17_ a_z18_ a_e19_ a_z20_ a_h21_ a_hr_ a_hM_ => ?_), (fun a_e17_ a_M23_ _ a_hF27_ a_r22_ a_hs29_ a_z30_ a_h31_ a_hr_ a_hM_ => ?_), (fun a_e17_ a_M33_ _ a_hF37_ a_r32_ a_hs39_ a_z40_ a_e41_ a_z42_ a_h43_ a_hr_ a_hM_ => ?_), (fun a_e17_ a_M45_ _ a_hF49_ a_r44_ a_hs51_ a_hr_ a_hM_ => ?_), (fun a_e17_ a_M53_ _ a_hF57_ a_r52_ a_hs59_ a_z60_ a_h61_ a_hr_ a_hM_ => ?_), (fun a_e17_ a_M63_ _ a_hF67_ a_r62_ a_hs69_ a_M71_ _ a_hF75_ a_r70_ a_hs77_ a_z78_ a_h79_ a_hr_ a_hM_ => ?_), (fun a_e17_ a_M81_ _ a_hF85_ a_r80_ a_hs87_ a_z88_ a_e89_ a_z90_ a_h91_ a_hr_ a_hM_ => ?_), (fun a_e17_ a_M93_ _ a_hF97_ a_r92_ a_hs99_ a_z100_ a_h101_ a_hr_ a_hM_ => ?_), (fun a_e17_ a_M103_ _ a_hF107_ a_r102_ a_hs109_ a_z110_ a_h111_ a_hr_ a_hM_ => ?_), (fun a_e17_ a_z112_ a_h113_ a_M115_ _ a_hF119_ a_r114_ a_hs121_ a_hr_ a_hM_ => ?_), (fun a_e17_ a_z122_ a_h123_ a_M125_ _ a_hF129_ a_r124_ a_hs131_ a_hr_ a_hM_ => ?_), (fun a_e17_ a_M133_ _ a_hF137_ a_r132_ a_hs139_ a_z140_ a_h141_ a_hr_ a_hM_ => ?_), (fun a_e17_ a_M143_ _ a_hF147_ a_r142_ a_hs149_ a_M151_ _ a_hF155_ a_r150_ a_hs157_ a_z158_ a_h159_ a_hr_ a_hM_ => ?_), (fun a_e17_ a_M161_ _ a_hF165_ a_r160_ a_hs167_ a_M169_ _ a_hF173_ a_r168_ a_hs175_ a_z176_ a_h177_ a_hr_ a_hM_ => ?_)⟩)
    all_goals first | (exfalso; omega) | skip
    have R1 := VR_a hR a_hF5_
    have f1 : (a_M1_.1 (8, 0, 0) 5).toInt = 0 := by rw [a_hF5_ _ _ (by simp [S_c_X5_add])]; exact hC
    have R2 := VR_b R1 b_hF309_
    have f2 : (b_M305_.1 (12, 0, 0) 28).toInt = 0 := by rw [b_hF309_ _ _ (by simp [S_c_X12_began])]; exact hD
    have F2 : VF a_M1_ b_M305_ := Or.inl ⟨f1, f2⟩
    rw [a_hr_, a_hM_, b_hr_, b_hM_]
    have ev : v = 80 := i32e (by rw [hv]; decide)
    rw [a_h9_, ev] at a_h11_
    have e12 : a_r12_ = 1 := (x9abv a_hs16_ (k := 7) (by omega) (by rw [a_h11_]; decide +kernel)).trans (by decide +kernel)
    rw [e12] at a_hs167_
    have A := hQ (by omega) _ _ _ _ _ _ _ _ _ _ a_hs167_ b_hs320_ hs (by unfold RK; omega) (by omega) (by omega) R2 F2
    have R3 := VR_d (VR_c R2 a_hF165_) b_hF318_
    have B := own_both (hQ (by omega)) a_hs175_ b_hs329_ hs (by omega) (by omega) R3 (VO_f A)
    exact VO_2 A B (own_mono hM a_hs175_) (fun x y => by rw [a_h177_, b_h332_, x, y])
theorem say_kind {u v : Int32} {Mz : mM} {z : Int32 × Int32 × mM} (h : RCH (fun x_ y_ => ST_X8_say_6 u Mz x_.1 x_.2.1 x_.2.2 y_.1 y_.2.1 y_.2.2) ((0 : Int32), v, Mz) z) : z.2.2 = Mz := rind h (fun z => z.2.2 = Mz) rfl (fun x z p st => by
    (try dsimp only at p st ⊢)
    refine xE_ST_X8_say_6 st (fun k_hv0_6 k_hv1_6 _ k_hF_6 k_h2_ k_h3_ k_z4_ k_h5_ k_z6_ k_h7_ => ⟨(fun k_h8_ k_r10_ k_hs14_ k_z15_ k_h16_ k_hq_v6_6y k_hq_v5_6y k_hM_ => ?_), (fun k_h8_ => ⟨(fun k_h17_ k_r19_ k_hs23_ k_z24_ k_h25_ k_hq_v6_6y k_hq_v5_6y k_hM_ => ?_), (fun k_h17_ k_j28_ k_h29_ k_z26_ k_e27_ k_h30_ k_h31_ k_r32_ k_hs36_ k_z37_ k_h38_ k_hq_v6_6y k_hq_v5_6y k_hM_ => ?_)⟩)⟩)
    all_goals (rw [k_hM_]; exact p))
theorem say_mono {N m : Nat} {QR : Int32 → Int32 → Int32 → mM → Int32 → mM → Prop} {v u t s r : Int32} {C C2 : mM} (hM : ∀ (v u t : Int32) (C : mM) (r : Int32) (C2 : mM), QR v u t C r C2 → ¬ (C.1 (8, 0, 0) 5).toInt = 0 → ¬ (C2.1 (8, 0, 0) 5).toInt = 0) (h : SP_X8_say N m QR v u t s C r C2) (hf : ¬ (C.1 (8, 0, 0) 5).toInt = 0) : ¬ (C2.1 (8, 0, 0) 5).toInt = 0 := by
  refine xE_SP_X8_say h (fun v6_6 hv0_6 hv1_6 v5_6 M_6 hL_6 _ hF_6 => ⟨(fun h2_ hr_ hM_ => ?_), (fun h2_ => ⟨(fun h3_ hr_ hM_ => ?_), (fun h3_ z4_ h5_ z6_ h7_ h8_ h17_ j28_ h29_ z26_ e27_ h30_ h31_ => ⟨(fun h39_ hr_ hM_ => ?_), (fun h39_ z40_ h41_ M43_ _ hF47_ r42_ hs49_ hr_ hM_ => ?_)⟩)⟩)⟩)
  · have q := say_kind hL_6
    (try dsimp only at q)
    rw [hM_, q]; exact hf
  · have q := say_kind hL_6
    (try dsimp only at q)
    rw [hM_, q]; exact hf
  · have q := say_kind hL_6
    (try dsimp only at q)
    rw [hM_, q]; exact hf
  · have q := say_kind hL_6
    (try dsimp only at q)
    rw [hM_]
    exact hM _ _ _ _ _ _ hs49_ (by rw [q]; exact hf)
theorem vo_mono : ∀ m : Nat, VM (SPVs m)
  | 0 => fun _ _ _ _ _ _ _ h hf => say_mono (fun _ _ _ _ _ _ q => q.elim) h hf
  | m + 1 => fun _ _ _ _ _ _ _ h hf => say_mono (fun _ _ _ _ _ _ q => run_mono (vo_mono m) q) h hf
theorem say_both {N m N2 n : Nat} {QS : Int32 → Int32 → Int32 → Int32 → mM → Int32 → mM → Prop} {QB : Int32 → Int32 → Int32 → mM → Int32 → mM → Prop} {N3 N4 : Nat} (hQ : 1 ≤ n → VQ (n - 1) m QS QB) (hM : VM QS) : VQ n (m + 1) (SP_X8_say N (m + 1) (SP_X8_run N3 m QS)) (SP_X12_bodyFrom N2 n (SP_X12_body N4 n QB)) := by
  intro k a t s C r C2 D r2 D2 h1 h2 hs hK hk ha hR hF
  have q0 := il_0
  have G : ∃ w : Int32, RCH (fun x_ y_ => ST_X12_bodyFrom_3 n a D x_ y_) k w ∧ (0 ≤ w.toInt ∧ w.toInt ≤ 7) ∧ RK w.toInt a.toInt n ∧ ¬ vcI (4 * w.toInt + a.toInt) = 0 ∧ (((D.1 (12, 0, 0) 28).toInt = 0 ∧ SP_X12_body N4 n QB w a t D r2 D2) ∨ (¬ (D.1 (12, 0, 0) 28).toInt = 0 ∧ D2 = D)) := by
    refine xE_SP_X12_bodyFrom h2 (fun b_v4_3 b_hv0_3 b_hv1_3 b_hL_3 b_r2_ b_hs6_ b_h5_ b_h7_ b_z8_ b_e9_ b_h10_ => ⟨(fun b_h11_ b_M13_ _ b_hF17_ b_r12_ b_hs19_ b_hr_ b_hM_ => ?_), (fun b_h11_ b_hr_ b_hM_ => ?_)⟩)
    · have x := eT b_e9_
      rw [← b_hr_, ← b_hM_] at b_hs19_
      exact ⟨_, b_hL_3, b_hv0_3, b_hv1_3, (hasOwnI b_hs6_ b_hv0_3 ha).mp b_h7_, Or.inl ⟨by omega, b_hs19_⟩⟩
    · have x := eT b_e9_
      exact ⟨_, b_hL_3, b_hv0_3, b_hv1_3, (hasOwnI b_hs6_ b_hv0_3 ha).mp b_h7_, Or.inr ⟨by omega, b_hM_⟩⟩
  obtain ⟨w, g1, g2, g3, g4, g5⟩ := G
  rcases g5 with ⟨g5, g6⟩ | ⟨g5, g6⟩
  · have g := fun (z : Int32 × Int32 × mM) (hz : RCH (fun x_ y_ => ST_X8_say_6 a C x_.1 x_.2.1 x_.2.2 y_.1 y_.2.1 y_.2.2) ((0 : Int32), k, C) z) (he : ∀ x' : Int32 × Int32 × mM, ST_X8_say_6 a C z.1 z.2.1 z.2.2 x'.1 x'.2.1 x'.2.2 → vcI (4 * z.2.1.toInt + a.toInt) = 0) (hf : vcI (4 * z.2.1.toInt + a.toInt) = 0 → ¬ (0 ≤ z.2.1.toInt ∧ z.2.1.toInt ≤ 7 ∧ z.1.toInt ≤ 2)) =>
      lockE (fun (x : Int32 × Int32 × mM) (y : Int32) => x.2.1 = y ∧ ((y.toInt = 0 ∧ x.1.toInt ≤ 2) ∨ ((1 ≤ y.toInt ∧ y.toInt ≤ 4) ∧ x.1.toInt ≤ 1) ∨ ((5 ≤ y.toInt ∧ y.toInt ≤ 7) ∧ x.1.toInt ≤ 0))) hz g1 ⟨rfl, by dsimp only; omega⟩ (fun x z y w2 p st tt => by
        (try dsimp only at p st tt ⊢)
        obtain ⟨p1, p2⟩ := p
        refine xE_ST_X12_bodyFrom_3 tt (fun c_hv0_3 c_hv1_3 c_r2_ c_hs6_ c_h5_ c_h7_ c_r20_ c_hs24_ c_h23_ c_hq_v4_3y => ?_)
        have ca := above2I c_hs24_ c_hv0_3
        have ct := eT c_hq_v4_3y
        have px := eT p1
        refine xE_ST_X8_say_6 st (fun k_hv0_6 k_hv1_6 _ k_hF_6 k_h2_ k_h3_ k_z4_ k_h5_ k_z6_ k_h7_ => ⟨(fun k_h8_ k_r10_ k_hs14_ k_z15_ k_h16_ k_hq_v6_6y k_hq_v5_6y k_hM_ => ?_), (fun k_h8_ => ⟨(fun k_h17_ k_r19_ k_hs23_ k_z24_ k_h25_ k_hq_v6_6y k_hq_v5_6y k_hM_ => ?_), (fun k_h17_ k_j28_ k_h29_ k_z26_ k_e27_ k_h30_ k_h31_ k_r32_ k_hs36_ k_z37_ k_h38_ k_hq_v6_6y k_hq_v5_6y k_hM_ => ?_)⟩)⟩)
        · have e6 := mul4 k_h5_ k_h7_ (by omega) ha
          exfalso; omega
        · have e6 := mul4 k_h5_ k_h7_ (by omega) ha
          exfalso; omega
        · have ka := x9abvI k_hs36_ (by omega)
          have k1 := eT k_hq_v6_6y
          have k2 := eT k_hq_v5_6y
          exact ⟨i32e (by omega), by omega⟩) (fun y y' p tt => by
        (try dsimp only at p tt)
        obtain ⟨p1, p2⟩ := p
        refine xE_ST_X12_bodyFrom_3 tt (fun c_hv0_3 c_hv1_3 c_r2_ c_hs6_ c_h5_ c_h7_ c_r20_ c_hs24_ c_h23_ c_hq_v4_3y => ?_)
        have o := hasOwnI c_hs6_ c_hv0_3 ha
        have px := eT p1
        have o2 : vcI (4 * y.toInt + a.toInt) = 0 := Classical.byContradiction (fun q => o.mpr q c_h7_)
        rw [← px] at o2
        exact hf o2 ⟨by omega, by omega, by omega⟩) (fun x x' p st => by
        (try dsimp only at p st)
        obtain ⟨p1, p2⟩ := p
        have px := eT p1
        apply g4
        rw [← px]
        refine xE_ST_X8_say_6 st (fun k_hv0_6 k_hv1_6 _ k_hF_6 k_h2_ k_h3_ k_z4_ k_h5_ k_z6_ k_h7_ => ⟨(fun k_h8_ k_r10_ k_hs14_ k_z15_ k_h16_ k_hq_v6_6y k_hq_v5_6y k_hM_ => ?_), (fun k_h8_ => ⟨(fun k_h17_ k_r19_ k_hs23_ k_z24_ k_h25_ k_hq_v6_6y k_hq_v5_6y k_hM_ => ?_), (fun k_h17_ k_j28_ k_h29_ k_z26_ k_e27_ k_h30_ k_h31_ k_r32_ k_hs36_ k_z37_ k_h38_ k_hq_v6_6y k_hq_v5_6y k_hM_ => ?_)⟩)⟩)
        · have e6 := mul4 k_h5_ k_h7_ (by omega) ha
          exfalso; omega
        · have e6 := mul4 k_h5_ k_h7_ (by omega) ha
          exfalso; omega
        · have e6 := mul4 k_h5_ k_h7_ (by omega) ha
          have e7 := eT k_e27_
          rw [vcI_tab _ (by omega), show ((k_j28_ : Nat) : Int) = 4 * x.2.1.toInt + a.toInt by omega] at e7
          omega)
    have hC : (C.1 (8, 0, 0) 5).toInt = 0 := Or.elim hF (fun q => q.1) (fun q => absurd g5 q.2)
    refine xE_SP_X8_say h1 (fun a_v6_6 a_hv0_6 a_hv1_6 a_v5_6 a_M_6 a_hL_6 _ a_hF_6 => ⟨(fun a_h2_ a_hr_ a_hM_ => ?_), (fun a_h2_ => ⟨(fun a_h3_ a_hr_ a_hM_ => ?_), (fun a_h3_ a_z4_ a_h5_ a_z6_ a_h7_ a_h8_ a_h17_ a_j28_ a_h29_ a_z26_ a_e27_ a_h30_ a_h31_ => ⟨(fun a_h39_ a_hr_ a_hM_ => ?_), (fun a_h39_ a_z40_ a_h41_ a_M43_ _ a_hF47_ a_r42_ a_hs49_ a_hr_ a_hM_ => ?_)⟩)⟩)⟩)
    · have L := g _ a_hL_6 (fun x' st => by
        (try dsimp only at st)
        refine xE_ST_X8_say_6 st (fun k_hv0_6 k_hv1_6 _ k_hF_6 k_h2_ k_h3_ k_z4_ k_h5_ k_z6_ k_h7_ => ⟨(fun k_h8_ k_r10_ k_hs14_ k_z15_ k_h16_ k_hq_v6_6y k_hq_v5_6y k_hM_ => ?_), (fun k_h8_ => ⟨(fun k_h17_ k_r19_ k_hs23_ k_z24_ k_h25_ k_hq_v6_6y k_hq_v5_6y k_hM_ => ?_), (fun k_h17_ k_j28_ k_h29_ k_z26_ k_e27_ k_h30_ k_h31_ k_r32_ k_hs36_ k_z37_ k_h38_ k_hq_v6_6y k_hq_v5_6y k_hM_ => ?_)⟩)⟩)
        all_goals (exfalso; omega)) (fun _ q => by dsimp only at q; omega)
      (try dsimp only at L)
      exfalso; omega
    · have L := g _ a_hL_6 (fun x' st => by
        (try dsimp only at st)
        refine xE_ST_X8_say_6 st (fun k_hv0_6 k_hv1_6 _ k_hF_6 k_h2_ k_h3_ k_z4_ k_h5_ k_z6_ k_h7_ => ⟨(fun k_h8_ k_r10_ k_hs14_ k_z15_ k_h16_ k_hq_v6_6y k_hq_v5_6y k_hM_ => ?_), (fun k_h8_ => ⟨(fun k_h17_ k_r19_ k_hs23_ k_z24_ k_h25_ k_hq_v6_6y k_hq_v5_6y k_hM_ => ?_), (fun k_h17_ k_j28_ k_h29_ k_z26_ k_e27_ k_h30_ k_h31_ k_r32_ k_hs36_ k_z37_ k_h38_ k_hq_v6_6y k_hq_v5_6y k_hM_ => ?_)⟩)⟩)
        all_goals (exfalso; omega)) (fun _ q => by dsimp only at q; omega)
      (try dsimp only at L)
      have px := eT L.1
      exfalso; omega
    · exfalso; omega
    · have e := say_kind a_hL_6
      (try dsimp only at e)
      have L := g _ a_hL_6 (fun x' st => Classical.byContradiction (fun _ => by
        (try dsimp only at st)
        refine xE_ST_X8_say_6 st (fun k_hv0_6 k_hv1_6 _ k_hF_6 k_h2_ k_h3_ k_z4_ k_h5_ k_z6_ k_h7_ => ⟨(fun k_h8_ k_r10_ k_hs14_ k_z15_ k_h16_ k_hq_v6_6y k_hq_v5_6y k_hM_ => ?_), (fun k_h8_ => ⟨(fun k_h17_ k_r19_ k_hs23_ k_z24_ k_h25_ k_hq_v6_6y k_hq_v5_6y k_hM_ => ?_), (fun k_h17_ k_j28_ k_h29_ k_z26_ k_e27_ k_h30_ k_h31_ k_r32_ k_hs36_ k_z37_ k_h38_ k_hq_v6_6y k_hq_v5_6y k_hM_ => ?_)⟩)⟩)
        · have k7 : a_z6_ = k_z6_ := by rw [a_h7_, k_h7_, a_h5_, k_h5_]
          have k8 := eT k7
          omega
        · have k7 : a_z6_ = k_z6_ := by rw [a_h7_, k_h7_, a_h5_, k_h5_]
          have k8 := eT k7
          omega
        · have k7 : a_z6_ = k_z6_ := by rw [a_h7_, k_h7_, a_h5_, k_h5_]
          have k8 := eT k7
          have k9 : a_z26_ = k_z26_ := by rw [a_e27_, k_e27_, show a_j28_ = k_j28_ by omega]
          have k10 := eT k9
          omega)) (fun q p => by
        (try dsimp only at q p)
        have e6 := mul4 a_h5_ a_h7_ (by omega) ha
        have e7 := eT a_e27_
        rw [vcI_tab _ (by omega), show ((a_j28_ : Nat) : Int) = 4 * a_v5_6.toInt + a.toInt by omega, q] at e7
        omega)
      (try dsimp only at L)
      obtain ⟨l1, l2⟩ := L
      have px := eT l1
      have e6 := mul4 a_h5_ a_h7_ (by omega) ha
      have e7 := eT a_e27_
      rw [vcI_tab _ (by omega), show ((a_j28_ : Nat) : Int) = 4 * a_v5_6.toInt + a.toInt by omega, l1] at e7
      rw [e] at a_hs49_
      rw [← a_hr_, ← a_hM_] at a_hs49_
      exact body_both hQ hM a_hs49_ g6 (by omega) g3 g2 ha e7 hR hC g5
  · rw [g6]
    have nC : ¬ (C.1 (8, 0, 0) 5).toInt = 0 := Or.elim hF (fun q => absurd q.2 g5) (fun q => q.1)
    exact Or.inr ⟨say_mono (fun _ _ _ _ _ _ q => run_mono hM q) h1 nC, g5⟩
theorem vo_both : ∀ n m : Nat, n < m → VQ n m (SPVs m) (SPVd n)
  | _, 0, h => absurd h (Nat.not_lt_zero _)
  | 0, m + 1, _ => say_both (fun q => absurd q (by omega)) (vo_mono m)
  | n + 1, m + 1, h => say_both (fun _ => vo_both n m (by omega)) (vo_mono m)
theorem speak_both {w : Nat} {v u t r r2 : Int32} {M C2 D A B E D2 : mM} (h1 : SP_X8_speak 0 w v u t M r C2) (hw : (w : Int) = v.toInt) (hA : A = up D (12, 0, 0) 26 0) (hB : B = up A (12, 0, 0) 27 v) (hE : E = up B (12, 0, 0) 28 0) (h2 : SP_X12_voicedA u t E r2 D2) (hR : RW 0 M.1 (D.1 (50, 0, 0))) (hv : v.toInt < nWa (D.1 (50, 0, 0)) ∧ nWa (D.1 (50, 0, 0)) ≤ 8) (ha : 0 ≤ u.toInt ∧ u.toInt ≤ 3) : VO r r2 C2 D2 := by
  have q0 := il_0
  have g := (hR.1.2.2.1.2 w (by omega)).1
  refine xE_SP_X8_speak h1 (fun M1_ _ hF5_ hs7_ z8_ e9_ M10_ hM11_ M14_ hM15_ z18_ e19_ M20_ hM21_ M24_ hM25_ z28_ e29_ _ M31_ _ hF35_ r30_ hs37_ hr_ hM_ => ?_)
  have cl : ∀ (c : rf) (k : Nat), ¬ c.1 = 5 → M1_.1 c k = M.1 c k := by
    intro c k hc
    refine xE_SP_X5_clear hs7_ (fun c_M1_ c_hM2_ c_hM_ => ?_)
    rw [c_hM_, zupR c_hM2_ hc]
  have d27 : E.1 (12, 0, 0) 27 = v := by rw [zupN hE (fun z => absurd z.2 (by omega)), zupE hB rfl rfl]
  have d50 : ∀ k, E.1 (50, 0, 0) k = D.1 (50, 0, 0) k := fun k => by rw [zupN hE (fun z => cne (by omega) z.1), zupN hB (fun z => cne (by omega) z.1), zupN hA (fun z => cne (by omega) z.1)]
  have t27 := eT d27
  have e8 : z8_ = D.1 (50, 0, 0) (180 + 9 * w) := by rw [e9_, cl _ _ (by simp), g 0 (by omega), Nat.add_zero]
  have e18 : z18_ = D.1 (50, 0, 0) (183 + 9 * w) := by rw [e19_, zupR hM15_ (by simp), zupR hM11_ (by simp), cl _ _ (by simp), g 3 (by omega), show 180 + 9 * w + 3 = 183 + 9 * w by omega]
  have c2 : M24_.1 (8, 0, 0) 2 = z8_ := by rw [zupN hM25_ (fun z => absurd z.2 (by omega)), zupN hM21_ (fun z => absurd z.2 (by omega)), zupN hM15_ (fun z => absurd z.2 (by omega)), zupE hM11_ rfl rfl]
  have c3 : M24_.1 (8, 0, 0) 3 = v := by rw [zupN hM25_ (fun z => absurd z.2 (by omega)), zupN hM21_ (fun z => absurd z.2 (by omega)), zupE hM15_ rfl rfl]
  have c4 : M24_.1 (8, 0, 0) 4 = z18_ := by rw [zupN hM25_ (fun z => absurd z.2 (by omega)), zupE hM21_ rfl rfl]
  have ww : v.toInt.toNat = w := by omega
  have R : VR M24_ E := by
    unfold VR
    rw [c2, c3, c4, d27, d50, d50, ww]
    exact ⟨rfl, by omega, e8, e18⟩
  have F : VF M24_ E := Or.inl ⟨by rw [zupE hM25_ rfl rfl]; exact q0, by rw [zupE hE rfl rfl]; exact q0⟩
  unfold SP_X12_voicedA at h2
  refine xE_SP_X12_voiced h2 (fun b_z1_ b_e2_ b_h3_ b_r4_ b_hs8_ b_h7_ b_M10_ _ b_hF14_ b_r9_ b_hs16_ b_hr_ b_hM_ => ?_)
  refine xE_SP_X12_kindOf b_hs8_ (fun c_r1_ c_hs5_ c_h4_ c_z6_ c_h7_ c_j10_ c_h11_ c_z8_ c_e9_ c_h12_ c_hr_ => ?_)
  have ew := eT b_e2_
  have ek : z28_ = b_r4_ := by rw [e29_, c2, c_hr_, c_e9_, d50, e8, show c_j10_ = 180 + 9 * w by omega]
  unfold SP_X8_say0 at hs37_
  rw [ek] at hs37_
  rw [hr_, hM_, b_hr_, b_hM_]
  exact vo_both 11 30 (by omega) _ _ _ _ _ _ _ _ _ _ hs37_ b_hs16_ (by omega) (by unfold RK; omega) (by omega) ha R F
theorem an_30 {v : Int32} {u : Int32} {t : Int32} {M M1 D D2 : mM} {r1 r2 : Int32} (h1 : SP_X11_voice v u t M r1 M1) (h2 : SP_X12_voice v u t D r2 D2) (hR : RW 0 M.1 (D.1 (50, 0, 0))) (hD : InvD D) (hu : (D.1 (12, 0, 0) 7).toInt = -1) : r1 = r2 := by
  have q0 := il_0
  have q1 := il_1
  have bW := eT hR.1.2.2.1.1
  have nW := nWa_b hD.2.1
  have i6 : ((-1000006) : Int32).toInt = -1000006 := by decide
  refine xE_SP_X11_voice h1 ⟨(fun a_hs5_ a_h4_ => ⟨(fun a_hs11_ a_h10_ a_j13_ a_h14_ a_h15_ a_M17_ _ a_hF21_ a_r16_ a_hs23_ a_z24_ a_e25_ a_h26_ => ⟨(fun a_h27_ a_M28_ _ a_hF32_ a_hs34_ a_hr_ a_hM_ => ?_), (fun a_h27_ a_M36_ _ a_hF40_ a_r35_ a_hs42_ a_hr_ a_hM_ => ?_)⟩), (fun a_hs11_ a_h10_ a_M45_ _ a_hF49_ a_r44_ a_hs51_ a_hr_ a_hM_ => ?_)⟩), (fun a_hs5_ a_M54_ _ a_hF58_ a_r53_ a_hs60_ a_hr_ a_hM_ => ?_)⟩
  · have a1 := x10has a_hs5_
    refine xE_SP_X12_voice h2 ⟨(fun b_hs5_ b_h4_ => ⟨(fun b_hs11_ b_h10_ b_M13_ b_hM14_ b_M17_ b_hM18_ b_M21_ b_hM22_ _ b_M26_ _ b_hF30_ b_r25_ b_hs32_ b_z33_ b_e34_ b_h35_ => ⟨(fun b_h36_ b_hr_ b_hM_ => ?_), (fun b_h36_ b_M38_ _ b_hF42_ b_r37_ b_hs44_ b_h40_ b_hr_ b_hM_ => ?_)⟩), (fun b_hs11_ b_h10_ b_M47_ _ b_hF51_ b_r46_ b_hs53_ b_h49_ b_hr_ b_hM_ => ?_)⟩), (fun b_hs5_ b_M56_ _ b_hF60_ b_r55_ b_hs62_ b_h58_ b_hr_ b_hM_ => ?_)⟩
    · have G := speak_both a_hs23_ a_h14_ b_hM14_ b_hM18_ b_hM22_ b_hs32_ hR (by unfold nWa at nW ⊢; omega) a_h10_
      rw [a_hr_, b_hr_]
      rcases G with ⟨-, -, g⟩ | ⟨g, -⟩
      · exact g
      · have x := eT a_e25_
        exfalso; omega
    · have G := speak_both a_hs23_ a_h14_ b_hM14_ b_hM18_ b_hM22_ b_hs32_ hR (by unfold nWa at nW ⊢; omega) a_h10_
      have x := eT a_e25_
      have y := eT b_e34_
      rcases G with ⟨g1, g2, -⟩ | ⟨g, -⟩
      · exfalso; omega
      · exfalso; omega
    · exact absurd a_h10_ b_h10_
    · have b1 := is2x b_hs5_
      unfold nWa at nW
      exfalso; omega
  · have a1 := x10has a_hs5_
    refine xE_SP_X12_voice h2 ⟨(fun b_hs5_ b_h4_ => ⟨(fun b_hs11_ b_h10_ b_M13_ b_hM14_ b_M17_ b_hM18_ b_M21_ b_hM22_ _ b_M26_ _ b_hF30_ b_r25_ b_hs32_ b_z33_ b_e34_ b_h35_ => ⟨(fun b_h36_ b_hr_ b_hM_ => ?_), (fun b_h36_ b_M38_ _ b_hF42_ b_r37_ b_hs44_ b_h40_ b_hr_ b_hM_ => ?_)⟩), (fun b_hs11_ b_h10_ b_M47_ _ b_hF51_ b_r46_ b_hs53_ b_h49_ b_hr_ b_hM_ => ?_)⟩), (fun b_hs5_ b_M56_ _ b_hF60_ b_r55_ b_hs62_ b_h58_ b_hr_ b_hM_ => ?_)⟩
    · have G := speak_both a_hs23_ a_h14_ b_hM14_ b_hM18_ b_hM22_ b_hs32_ hR (by unfold nWa at nW ⊢; omega) a_h10_
      have x := eT a_e25_
      have y := eT b_e34_
      rcases G with ⟨g1, g2, -⟩ | ⟨g, g2⟩
      · exfalso; omega
      · exfalso; omega
    · have E := err6 a_hs42_
      exact i32e (by rw [a_hr_, b_hr_]; omega)
    · exact absurd a_h10_ b_h10_
    · have b1 := is2x b_hs5_
      unfold nWa at nW
      exfalso; omega
  · have a1 := x10has a_hs5_
    have E := err1 a_hs51_
    refine xE_SP_X12_voice h2 ⟨(fun b_hs5_ b_h4_ => ⟨(fun b_hs11_ b_h10_ b_M13_ b_hM14_ b_M17_ b_hM18_ b_M21_ b_hM22_ _ b_M26_ _ b_hF30_ b_r25_ b_hs32_ b_z33_ b_e34_ b_h35_ => ⟨(fun b_h36_ b_hr_ b_hM_ => ?_), (fun b_h36_ b_M38_ _ b_hF42_ b_r37_ b_hs44_ b_h40_ b_hr_ b_hM_ => ?_)⟩), (fun b_hs11_ b_h10_ b_M47_ _ b_hF51_ b_r46_ b_hs53_ b_h49_ b_hr_ b_hM_ => ?_)⟩), (fun b_hs5_ b_M56_ _ b_hF60_ b_r55_ b_hs62_ b_h58_ b_hr_ b_hM_ => ?_)⟩
    · exact absurd b_h10_ a_h10_
    · exact absurd b_h10_ a_h10_
    · exact i32e (by rw [a_hr_, b_hr_]; omega)
    · exact i32e (by rw [a_hr_, b_hr_]; omega)
  · have a1 := x10has a_hs5_
    have E := err1 a_hs60_
    refine xE_SP_X12_voice h2 ⟨(fun b_hs5_ b_h4_ => ⟨(fun b_hs11_ b_h10_ b_M13_ b_hM14_ b_M17_ b_hM18_ b_M21_ b_hM22_ _ b_M26_ _ b_hF30_ b_r25_ b_hs32_ b_z33_ b_e34_ b_h35_ => ⟨(fun b_h36_ b_hr_ b_hM_ => ?_), (fun b_h36_ b_M38_ _ b_hF42_ b_r37_ b_hs44_ b_h40_ b_hr_ b_hM_ => ?_)⟩), (fun b_hs11_ b_h10_ b_M47_ _ b_hF51_ b_r46_ b_hs53_ b_h49_ b_hr_ b_hM_ => ?_)⟩), (fun b_hs5_ b_M56_ _ b_hF60_ b_r55_ b_hs62_ b_h58_ b_hr_ b_hM_ => ?_)⟩
    · have b1 := is2x b_hs5_
      unfold nWa at nW
      exfalso; omega
    · have b1 := is2x b_hs5_
      unfold nWa at nW
      exfalso; omega
    · exact i32e (by rw [a_hr_, b_hr_]; omega)
    · exact i32e (by rw [a_hr_, b_hr_]; omega)
end
section
/-! the calls step by step, the full relation -/
theorem sy_0 {v : Int32} {u : Int32} {M M1 M2 : mM} {r1 r2 : Int32} (h : RY M.1) (hD0 : InvD M) (hD : InvD M1) (hD2 : InvD M2) (hF1 : FR S_c_X11_thing M M1) (hs1 : SP_X11_thing v u M r1 M1) (hF2 : FR S_c_X12_thing_ M1 M2) (hs2 : SP_X12_thing_ v u M1 r2 M2) : RY M2.1 ∧ r1 = r2 := by
  have hx := (st_0 h.1 hD0 hF1 hs1 hF2 hs2).1
  have s1 : cC S_c_X11_thing := fun c k q => by simp only [S_c_X11_thing, or_false] at q; omega
  have s2 : cD S_c_X12_thing_ := fun c k q => by simp only [S_c_X12_thing_, or_false] at q; omega
  have c1 : ∀ (c : rf) (k : Nat), c.1 = 12 ∨ 50 ≤ c.1 → M1.1 c k = M.1 c k := fun c k a => hF1 c k (fun q => s1 c k q a)
  have c2 : ∀ (c : rf) (k : Nat), ¬ (c.1 = 12 ∨ 50 ≤ c.1) → M2.1 c k = M1.1 c k := fun c k a => hF2 c k (fun q => a (s2 c k q))
  have e50 : M1.1 (50, 0, 0) = M.1 (50, 0, 0) := funext fun k => c1 _ _ (by simp)
  have hR : RW 0 M.1 (M1.1 (50, 0, 0)) := by rw [e50]; exact h.2.2.1
  have hu : (M1.1 (12, 0, 0) 7).toInt = -1 := by rw [c1 _ _ (by simp)]; exact h.2.1
  have h7 : (M2.1 (12, 0, 0) 7).toInt = -1 := by rw [hF2 (12, 0, 0) 7 (fun q => by simp only [S_c_X12_thing_, or_false] at q; omega)]; exact hu
  have B := cb_0 hs1 hs2 hR hD hu
  exact ⟨RY_of h hF1 hF2 s1 s2 hx hD2.2.1 hD2.2.2.1 h7 B.1 (Or.inl ⟨hF2 _ _ (fun q => by simp only [S_c_X12_thing_, or_false] at q; omega), fun c k a b q => by unfold wR at a; simp only [S_c_X11_thing, or_false] at q; omega, fun k q => by simp only [S_c_X12_thing_, or_false] at q; omega⟩) (SHR_keep h.2.2.2.2 (fun c k a => hF1 c k (fun q => by simp only [S_c_X11_thing, or_false] at q; omega)) (fun c k a => by rw [hF2 c k (fun q => by simp only [S_c_X12_thing_, or_false] at q; omega), c1 c k (by omega)])), B.2⟩
theorem sy_1 {v : Int32} {u : Int32} {M M1 M2 : mM} {r1 r2 : Int32} (h : RY M.1) (hD0 : InvD M) (hD : InvD M1) (hD2 : InvD M2) (hF1 : FR S_c_X11_thingIs M M1) (hs1 : SP_X11_thingIs v u M r1 M1) (hF2 : FR S_c_X12_thingIs M1 M2) (hs2 : SP_X12_thingIs v u M1 r2 M2) : RY M2.1 ∧ True := by
  have hx := (st_1 h.1 hD0 hF1 hs1 hF2 hs2).1
  have s1 : cC S_c_X11_thingIs := fun c k q => by simp only [S_c_X11_thingIs, or_false] at q; omega
  have s2 : cD S_c_X12_thingIs := fun c k q => by simp only [S_c_X12_thingIs, or_false] at q; omega
  have c1 : ∀ (c : rf) (k : Nat), c.1 = 12 ∨ 50 ≤ c.1 → M1.1 c k = M.1 c k := fun c k a => hF1 c k (fun q => s1 c k q a)
  have c2 : ∀ (c : rf) (k : Nat), ¬ (c.1 = 12 ∨ 50 ≤ c.1) → M2.1 c k = M1.1 c k := fun c k a => hF2 c k (fun q => a (s2 c k q))
  have e50 : M1.1 (50, 0, 0) = M.1 (50, 0, 0) := funext fun k => c1 _ _ (by simp)
  have hR : RW 0 M.1 (M1.1 (50, 0, 0)) := by rw [e50]; exact h.2.2.1
  have hu : (M1.1 (12, 0, 0) 7).toInt = -1 := by rw [c1 _ _ (by simp)]; exact h.2.1
  have h7 : (M2.1 (12, 0, 0) 7).toInt = -1 := by rw [hF2 (12, 0, 0) 7 (fun q => by simp only [S_c_X12_thingIs, or_false] at q; omega)]; exact hu
  exact ⟨RY_fr h hF1 hF2 s1 s2 hx hD2.2.1 hD2.2.2.1 (fun c k a b q => by unfold wR at a; simp only [S_c_X11_thingIs, or_false] at q; omega) (fun c k a q => by rcases a with rfl | rfl | ⟨rfl, rfl⟩ | a | a | a <;> (simp only [S_c_X12_thingIs, or_false] at q <;> omega)) (fun c k a q => by simp only [S_c_X11_thingIs, or_false] at q; omega) h7, trivial⟩
theorem sy_2 {v : Int32} {u : Int32} {t : Int32} {M M1 M2 : mM} {r1 r2 : Int32} (h : RY M.1) (hD0 : InvD M) (hD : InvD M1) (hD2 : InvD M2) (hF1 : FR S_c_X11_moves M M1) (hs1 : SP_X11_moves v u t M r1 M1) (hF2 : FR S_c_X12_moves M1 M2) (hs2 : SP_X12_moves v u t M1 r2 M2) : RY M2.1 ∧ r1 = r2 := by
  have hx := (st_2 h.1 hD0 hF1 hs1 hF2 hs2).1
  have s1 : cC S_c_X11_moves := fun c k q => by simp only [S_c_X11_moves, or_false] at q; omega
  have s2 : cD S_c_X12_moves := fun c k q => by simp only [S_c_X12_moves, or_false] at q; omega
  have c1 : ∀ (c : rf) (k : Nat), c.1 = 12 ∨ 50 ≤ c.1 → M1.1 c k = M.1 c k := fun c k a => hF1 c k (fun q => s1 c k q a)
  have c2 : ∀ (c : rf) (k : Nat), ¬ (c.1 = 12 ∨ 50 ≤ c.1) → M2.1 c k = M1.1 c k := fun c k a => hF2 c k (fun q => a (s2 c k q))
  have e50 : M1.1 (50, 0, 0) = M.1 (50, 0, 0) := funext fun k => c1 _ _ (by simp)
  have hR : RW 0 M.1 (M1.1 (50, 0, 0)) := by rw [e50]; exact h.2.2.1
  have hu : (M1.1 (12, 0, 0) 7).toInt = -1 := by rw [c1 _ _ (by simp)]; exact h.2.1
  have h7 : (M2.1 (12, 0, 0) 7).toInt = -1 := by rw [hF2 (12, 0, 0) 7 (fun q => by simp only [S_c_X12_moves, or_false] at q; omega)]; exact hu
  have B := cb_2 hs1 hs2 hR hD hu
  exact ⟨RY_of h hF1 hF2 s1 s2 hx hD2.2.1 hD2.2.2.1 h7 B.1 (Or.inl ⟨hF2 _ _ (fun q => by simp only [S_c_X12_moves, or_false] at q; omega), fun c k a b q => by unfold wR at a; simp only [S_c_X11_moves, or_false] at q; omega, fun k q => by simp only [S_c_X12_moves, or_false] at q; omega⟩) (SHR_keep h.2.2.2.2 (fun c k a => hF1 c k (fun q => by simp only [S_c_X11_moves, or_false] at q; omega)) (fun c k a => by rw [hF2 c k (fun q => by simp only [S_c_X12_moves, or_false] at q; omega), c1 c k (by omega)])), B.2⟩
theorem sy_3 {v : Int32} {M M1 M2 : mM} {r1 r2 : Int32} (h : RY M.1) (hD0 : InvD M) (hD : InvD M1) (hD2 : InvD M2) (hF1 : FR S_c_X11_away M M1) (hs1 : SP_X11_away v M r1 M1) (hF2 : FR S_c_X12_away M1 M2) (hs2 : SP_X12_away v M1 r2 M2) : RY M2.1 ∧ r1 = r2 := by
  have hx := (st_3 h.1 hD0 hF1 hs1 hF2 hs2).1
  have s1 : cC S_c_X11_away := fun c k q => by simp only [S_c_X11_away, or_false] at q; omega
  have s2 : cD S_c_X12_away := fun c k q => by simp only [S_c_X12_away, or_false] at q; omega
  have c1 : ∀ (c : rf) (k : Nat), c.1 = 12 ∨ 50 ≤ c.1 → M1.1 c k = M.1 c k := fun c k a => hF1 c k (fun q => s1 c k q a)
  have c2 : ∀ (c : rf) (k : Nat), ¬ (c.1 = 12 ∨ 50 ≤ c.1) → M2.1 c k = M1.1 c k := fun c k a => hF2 c k (fun q => a (s2 c k q))
  have e50 : M1.1 (50, 0, 0) = M.1 (50, 0, 0) := funext fun k => c1 _ _ (by simp)
  have hR : RW 0 M.1 (M1.1 (50, 0, 0)) := by rw [e50]; exact h.2.2.1
  have hu : (M1.1 (12, 0, 0) 7).toInt = -1 := by rw [c1 _ _ (by simp)]; exact h.2.1
  have h7 : (M2.1 (12, 0, 0) 7).toInt = -1 := by rw [hF2 (12, 0, 0) 7 (fun q => by simp only [S_c_X12_away, or_false] at q; omega)]; exact hu
  have B := cb_3 hs1 hs2 hR hD hu
  exact ⟨RY_of h hF1 hF2 s1 s2 hx hD2.2.1 hD2.2.2.1 h7 B.1 (Or.inl ⟨hF2 _ _ (fun q => by simp only [S_c_X12_away, or_false] at q; omega), fun c k a b q => by unfold wR at a; simp only [S_c_X11_away, or_false] at q; omega, fun k q => by simp only [S_c_X12_away, or_false] at q; omega⟩) (SHR_keep h.2.2.2.2 (fun c k a => hF1 c k (fun q => by simp only [S_c_X11_away, or_false] at q; omega)) (fun c k a => by rw [hF2 c k (fun q => by simp only [S_c_X12_away, or_false] at q; omega), c1 c k (by omega)])), B.2⟩
theorem sy_4 {v : Int32} {u : Int32} {t : Int32} {M M1 M2 : mM} {r1 r2 : Int32} (h : RY M.1) (hD0 : InvD M) (hD : InvD M1) (hD2 : InvD M2) (hF1 : FR S_c_X11_kind M M1) (hs1 : SP_X11_kind v u t M r1 M1) (hF2 : FR S_c_X12_kind M1 M2) (hs2 : SP_X12_kind v u t M1 r2 M2) : RY M2.1 ∧ True := by
  have hx := (st_4 h.1 hD0 hF1 hs1 hF2 hs2).1
  have s1 : cC S_c_X11_kind := fun c k q => by simp only [S_c_X11_kind, or_false] at q; omega
  have s2 : cD S_c_X12_kind := fun c k q => by simp only [S_c_X12_kind, or_false] at q; omega
  have c1 : ∀ (c : rf) (k : Nat), c.1 = 12 ∨ 50 ≤ c.1 → M1.1 c k = M.1 c k := fun c k a => hF1 c k (fun q => s1 c k q a)
  have c2 : ∀ (c : rf) (k : Nat), ¬ (c.1 = 12 ∨ 50 ≤ c.1) → M2.1 c k = M1.1 c k := fun c k a => hF2 c k (fun q => a (s2 c k q))
  have e50 : M1.1 (50, 0, 0) = M.1 (50, 0, 0) := funext fun k => c1 _ _ (by simp)
  have hR : RW 0 M.1 (M1.1 (50, 0, 0)) := by rw [e50]; exact h.2.2.1
  have hu : (M1.1 (12, 0, 0) 7).toInt = -1 := by rw [c1 _ _ (by simp)]; exact h.2.1
  have h7 : (M2.1 (12, 0, 0) 7).toInt = -1 := by rw [hF2 (12, 0, 0) 7 (fun q => by simp only [S_c_X12_kind, or_false] at q; omega)]; exact hu
  have hL : LWR 0 M1.1 (M2.1 (50, 0, 0)) := LWR_keep (LWR_rx hx) (fun r k hr => (c2 _ _ (by dsimp only; omega)).symm) (fun _ _ => rfl)
  exact ⟨RY_of h hF1 hF2 s1 s2 hx hD2.2.1 hD2.2.2.1 h7 (cb_4 hF1 hs2 hR hD hL) (Or.inl ⟨hF2 _ _ (fun q => by simp only [S_c_X12_kind, or_false] at q; omega), fun c k a b q => by unfold wR at a; simp only [S_c_X11_kind, or_false] at q; omega, fun k q => by simp only [S_c_X12_kind, or_false] at q; omega⟩) (SHR_keep h.2.2.2.2 (fun c k a => hF1 c k (fun q => by simp only [S_c_X11_kind, or_false] at q; omega)) (fun c k a => by rw [hF2 c k (fun q => by simp only [S_c_X12_kind, or_false] at q; omega), c1 c k (by omega)])), trivial⟩
theorem sy_5 {v : Int32} {M M1 M2 : mM} {r1 r2 : Int32} (h : RY M.1) (hD0 : InvD M) (hD : InvD M1) (hD2 : InvD M2) (hF1 : FR S_c_X11_at M M1) (hs1 : SP_X11_at v M r1 M1) (hF2 : FR S_c_X12_at M1 M2) (hs2 : SP_X12_at v M1 r2 M2) : RY M2.1 ∧ True := by
  have hx := (st_5 h.1 hD0 hF1 hs1 hF2 hs2).1
  have s1 : cC S_c_X11_at := fun c k q => by simp only [S_c_X11_at, or_false] at q; omega
  have s2 : cD S_c_X12_at := fun c k q => by simp only [S_c_X12_at, or_false] at q; omega
  have c1 : ∀ (c : rf) (k : Nat), c.1 = 12 ∨ 50 ≤ c.1 → M1.1 c k = M.1 c k := fun c k a => hF1 c k (fun q => s1 c k q a)
  have c2 : ∀ (c : rf) (k : Nat), ¬ (c.1 = 12 ∨ 50 ≤ c.1) → M2.1 c k = M1.1 c k := fun c k a => hF2 c k (fun q => a (s2 c k q))
  have e50 : M1.1 (50, 0, 0) = M.1 (50, 0, 0) := funext fun k => c1 _ _ (by simp)
  have hR : RW 0 M.1 (M1.1 (50, 0, 0)) := by rw [e50]; exact h.2.2.1
  have hu : (M1.1 (12, 0, 0) 7).toInt = -1 := by rw [c1 _ _ (by simp)]; exact h.2.1
  have h7 : (M2.1 (12, 0, 0) 7).toInt = -1 := by rw [hF2 (12, 0, 0) 7 (fun q => by simp only [S_c_X12_at, or_false] at q; omega)]; exact hu
  exact ⟨RY_fr h hF1 hF2 s1 s2 hx hD2.2.1 hD2.2.2.1 (fun c k a b q => by unfold wR at a; simp only [S_c_X11_at, or_false] at q; omega) (fun c k a q => by rcases a with rfl | rfl | ⟨rfl, rfl⟩ | a | a | a <;> (simp only [S_c_X12_at, or_false] at q <;> omega)) (fun c k a q => by simp only [S_c_X11_at, or_false] at q; omega) h7, trivial⟩
theorem sy_6 {v : Int32} {u : Int32} {M M1 M2 : mM} {r1 r2 : Int32} (h : RY M.1) (hD0 : InvD M) (hD : InvD M1) (hD2 : InvD M2) (hF1 : FR S_c_X11_lays M M1) (hs1 : SP_X11_lays v u M r1 M1) (hF2 : FR S_c_X12_lays M1 M2) (hs2 : SP_X12_lays v u M1 r2 M2) : RY M2.1 ∧ r1 = r2 := by
  have hx := (st_6 h.1 hD0 hF1 hs1 hF2 hs2).1
  have s1 : cC S_c_X11_lays := fun c k q => by simp only [S_c_X11_lays, or_false] at q; omega
  have s2 : cD S_c_X12_lays := fun c k q => by simp only [S_c_X12_lays, or_false] at q; omega
  have c1 : ∀ (c : rf) (k : Nat), c.1 = 12 ∨ 50 ≤ c.1 → M1.1 c k = M.1 c k := fun c k a => hF1 c k (fun q => s1 c k q a)
  have c2 : ∀ (c : rf) (k : Nat), ¬ (c.1 = 12 ∨ 50 ≤ c.1) → M2.1 c k = M1.1 c k := fun c k a => hF2 c k (fun q => a (s2 c k q))
  have e50 : M1.1 (50, 0, 0) = M.1 (50, 0, 0) := funext fun k => c1 _ _ (by simp)
  have hR : RW 0 M.1 (M1.1 (50, 0, 0)) := by rw [e50]; exact h.2.2.1
  have hu : (M1.1 (12, 0, 0) 7).toInt = -1 := by rw [c1 _ _ (by simp)]; exact h.2.1
  have h7 : (M2.1 (12, 0, 0) 7).toInt = -1 := by rw [hF2 (12, 0, 0) 7 (fun q => by simp only [S_c_X12_lays, or_false] at q; omega)]; exact hu
  have B := cb_6 hs1 hs2 hR hD hu (SHR_keep h.2.2.2.2 (fun _ _ _ => rfl) (fun c k a => c1 c k (by omega)))
  exact ⟨RY_of h hF1 hF2 s1 s2 hx hD2.2.1 hD2.2.2.1 h7 B.1 (Or.inl ⟨hF2 _ _ (fun q => by simp only [S_c_X12_lays, or_false] at q; omega), fun c k a b q => by unfold wR at a; simp only [S_c_X11_lays, or_false] at q; omega, fun k q => by simp only [S_c_X12_lays, or_false] at q; omega⟩) (SHR_keep h.2.2.2.2 (fun c k a => hF1 c k (fun q => by simp only [S_c_X11_lays, or_false] at q; omega)) (fun c k a => by rw [hF2 c k (fun q => by simp only [S_c_X12_lays, or_false] at q; omega), c1 c k (by omega)])), B.2⟩
theorem sy_7 {v : Int32} {u : Int32} {M M1 M2 : mM} {r1 r2 : Int32} (h : RY M.1) (hD0 : InvD M) (hD : InvD M1) (hD2 : InvD M2) (hF1 : FR S_c_X11_air M M1) (hs1 : SP_X11_air v u M r1 M1) (hF2 : FR S_c_X12_air M1 M2) (hs2 : SP_X12_air v u M1 r2 M2) : RY M2.1 ∧ True := by
  have hx := (st_7 h.1 hD0 hF1 hs1 hF2 hs2).1
  have s1 : cC S_c_X11_air := fun c k q => by simp only [S_c_X11_air, or_false] at q; omega
  have s2 : cD S_c_X12_air := fun c k q => by simp only [S_c_X12_air, or_false] at q; omega
  have c1 : ∀ (c : rf) (k : Nat), c.1 = 12 ∨ 50 ≤ c.1 → M1.1 c k = M.1 c k := fun c k a => hF1 c k (fun q => s1 c k q a)
  have c2 : ∀ (c : rf) (k : Nat), ¬ (c.1 = 12 ∨ 50 ≤ c.1) → M2.1 c k = M1.1 c k := fun c k a => hF2 c k (fun q => a (s2 c k q))
  have e50 : M1.1 (50, 0, 0) = M.1 (50, 0, 0) := funext fun k => c1 _ _ (by simp)
  have hR : RW 0 M.1 (M1.1 (50, 0, 0)) := by rw [e50]; exact h.2.2.1
  have hu : (M1.1 (12, 0, 0) 7).toInt = -1 := by rw [c1 _ _ (by simp)]; exact h.2.1
  have h7 : (M2.1 (12, 0, 0) 7).toInt = -1 := by rw [hF2 (12, 0, 0) 7 (fun q => by simp only [S_c_X12_air, or_false] at q; omega)]; exact hu
  have hL : LWR 0 M1.1 (M2.1 (50, 0, 0)) := LWR_keep (LWR_rx hx) (fun r k hr => (c2 _ _ (by dsimp only; omega)).symm) (fun _ _ => rfl)
  exact ⟨RY_of h hF1 hF2 s1 s2 hx hD2.2.1 hD2.2.2.1 h7 (cb_7 hF1 hs2 hR hD hL) (Or.inl ⟨hF2 _ _ (fun q => by simp only [S_c_X12_air, or_false] at q; omega), fun c k a b q => by unfold wR at a; simp only [S_c_X11_air, or_false] at q; omega, fun k q => by simp only [S_c_X12_air, or_false] at q; omega⟩) (SHR_keep h.2.2.2.2 (fun c k a => hF1 c k (fun q => by simp only [S_c_X11_air, or_false] at q; omega)) (fun c k a => by rw [hF2 c k (fun q => by simp only [S_c_X12_air, or_false] at q; omega), c1 c k (by omega)])), trivial⟩
theorem sy_8 {v : Int32} {u : Int32} {t : Int32} {M M1 M2 : mM} {r1 r2 : Int32} (h : RY M.1) (hD0 : InvD M) (hD : InvD M1) (hD2 : InvD M2) (hF1 : FR S_c_X11_walker M M1) (hs1 : SP_X11_walker v u t M r1 M1) (hF2 : FR S_c_X12_walker M1 M2) (hs2 : SP_X12_walker v u t M1 r2 M2) : RY M2.1 ∧ r1 = r2 := by
  have hx := (st_8 h.1 hD0 hF1 hs1 hF2 hs2).1
  have s1 : cC S_c_X11_walker := fun c k q => by simp only [S_c_X11_walker, or_false] at q; omega
  have s2 : cD S_c_X12_walker := fun c k q => by simp only [S_c_X12_walker, or_false] at q; omega
  have c1 : ∀ (c : rf) (k : Nat), c.1 = 12 ∨ 50 ≤ c.1 → M1.1 c k = M.1 c k := fun c k a => hF1 c k (fun q => s1 c k q a)
  have c2 : ∀ (c : rf) (k : Nat), ¬ (c.1 = 12 ∨ 50 ≤ c.1) → M2.1 c k = M1.1 c k := fun c k a => hF2 c k (fun q => a (s2 c k q))
  have e50 : M1.1 (50, 0, 0) = M.1 (50, 0, 0) := funext fun k => c1 _ _ (by simp)
  have hR : RW 0 M.1 (M1.1 (50, 0, 0)) := by rw [e50]; exact h.2.2.1
  have hu : (M1.1 (12, 0, 0) 7).toInt = -1 := by rw [c1 _ _ (by simp)]; exact h.2.1
  have h7 : (M2.1 (12, 0, 0) 7).toInt = -1 := by rw [hF2 (12, 0, 0) 7 (fun q => by simp only [S_c_X12_walker, or_false] at q; omega)]; exact hu
  have B := cb_8 hs1 hs2 hR hD hu
  exact ⟨RY_of h hF1 hF2 s1 s2 hx hD2.2.1 hD2.2.2.1 h7 B.1 (Or.inl ⟨hF2 _ _ (fun q => by simp only [S_c_X12_walker, or_false] at q; omega), fun c k a b q => by unfold wR at a; simp only [S_c_X11_walker, or_false] at q; omega, fun k q => by simp only [S_c_X12_walker, or_false] at q; omega⟩) (SHR_keep h.2.2.2.2 (fun c k a => hF1 c k (fun q => by simp only [S_c_X11_walker, or_false] at q; omega)) (fun c k a => by rw [hF2 c k (fun q => by simp only [S_c_X12_walker, or_false] at q; omega), c1 c k (by omega)])), B.2⟩
theorem sy_9 {v : Int32} {u : Int32} {M M1 M2 : mM} {r1 r2 : Int32} (h : RY M.1) (hD0 : InvD M) (hD : InvD M1) (hD2 : InvD M2) (hF1 : FR S_c_X11_walkerIs M M1) (hs1 : SP_X11_walkerIs v u M r1 M1) (hF2 : FR S_c_X12_walkerIs M1 M2) (hs2 : SP_X12_walkerIs v u M1 r2 M2) : RY M2.1 ∧ True := by
  have hx := (st_9 h.1 hD0 hF1 hs1 hF2 hs2).1
  have s1 : cC S_c_X11_walkerIs := fun c k q => by simp only [S_c_X11_walkerIs, or_false] at q; omega
  have s2 : cD S_c_X12_walkerIs := fun c k q => by simp only [S_c_X12_walkerIs, or_false] at q; omega
  have c1 : ∀ (c : rf) (k : Nat), c.1 = 12 ∨ 50 ≤ c.1 → M1.1 c k = M.1 c k := fun c k a => hF1 c k (fun q => s1 c k q a)
  have c2 : ∀ (c : rf) (k : Nat), ¬ (c.1 = 12 ∨ 50 ≤ c.1) → M2.1 c k = M1.1 c k := fun c k a => hF2 c k (fun q => a (s2 c k q))
  have e50 : M1.1 (50, 0, 0) = M.1 (50, 0, 0) := funext fun k => c1 _ _ (by simp)
  have hR : RW 0 M.1 (M1.1 (50, 0, 0)) := by rw [e50]; exact h.2.2.1
  have hu : (M1.1 (12, 0, 0) 7).toInt = -1 := by rw [c1 _ _ (by simp)]; exact h.2.1
  have h7 : (M2.1 (12, 0, 0) 7).toInt = -1 := by rw [hF2 (12, 0, 0) 7 (fun q => by simp only [S_c_X12_walkerIs, or_false] at q; omega)]; exact hu
  exact ⟨RY_fr h hF1 hF2 s1 s2 hx hD2.2.1 hD2.2.2.1 (fun c k a b q => by unfold wR at a; simp only [S_c_X11_walkerIs, or_false] at q; omega) (fun c k a q => by rcases a with rfl | rfl | ⟨rfl, rfl⟩ | a | a | a <;> (simp only [S_c_X12_walkerIs, or_false] at q <;> omega)) (fun c k a q => by simp only [S_c_X11_walkerIs, or_false] at q; omega) h7, trivial⟩
theorem sy_10 {v : Int32} {u : Int32} {M M1 M2 : mM} {r1 r2 : Int32} (h : RY M.1) (hD0 : InvD M) (hD : InvD M1) (hD2 : InvD M2) (hF1 : FR S_c_X11_as M M1) (hs1 : SP_X11_as v u M r1 M1) (hF2 : FR S_c_X12_as M1 M2) (hs2 : SP_X12_as v u M1 r2 M2) : RY M2.1 ∧ True := by
  have hx := (st_10 h.1 hD0 hF1 hs1 hF2 hs2).1
  have s1 : cC S_c_X11_as := fun c k q => by simp only [S_c_X11_as, or_false] at q; omega
  have s2 : cD S_c_X12_as := fun c k q => by simp only [S_c_X12_as, or_false] at q; omega
  have c1 : ∀ (c : rf) (k : Nat), c.1 = 12 ∨ 50 ≤ c.1 → M1.1 c k = M.1 c k := fun c k a => hF1 c k (fun q => s1 c k q a)
  have c2 : ∀ (c : rf) (k : Nat), ¬ (c.1 = 12 ∨ 50 ≤ c.1) → M2.1 c k = M1.1 c k := fun c k a => hF2 c k (fun q => a (s2 c k q))
  have e50 : M1.1 (50, 0, 0) = M.1 (50, 0, 0) := funext fun k => c1 _ _ (by simp)
  have hR : RW 0 M.1 (M1.1 (50, 0, 0)) := by rw [e50]; exact h.2.2.1
  have hu : (M1.1 (12, 0, 0) 7).toInt = -1 := by rw [c1 _ _ (by simp)]; exact h.2.1
  have h7 : (M2.1 (12, 0, 0) 7).toInt = -1 := by rw [hF2 (12, 0, 0) 7 (fun q => by simp only [S_c_X12_as, or_false] at q; omega)]; exact hu
  exact ⟨RY_fr h hF1 hF2 s1 s2 hx hD2.2.1 hD2.2.2.1 (fun c k a b q => by unfold wR at a; simp only [S_c_X11_as, or_false] at q; omega) (fun c k a q => by rcases a with rfl | rfl | ⟨rfl, rfl⟩ | a | a | a <;> (simp only [S_c_X12_as, or_false] at q <;> omega)) (fun c k a q => by simp only [S_c_X11_as, or_false] at q; omega) h7, trivial⟩
theorem sy_11 {v : Int32} {u : Int32} {t : Int32} {s : Int32} {M M1 M2 : mM} {r1 r2 : Int32} (h : RY M.1) (hD0 : InvD M) (hD : InvD M1) (hD2 : InvD M2) (hF1 : FR S_c_X11_habit M M1) (hs1 : SP_X11_habit v u t s M r1 M1) (hF2 : FR S_c_X12_habit M1 M2) (hs2 : SP_X12_habit v u t s M1 r2 M2) : RY M2.1 ∧ r1 = r2 := by
  have hx := (st_11 h.1 hD0 hF1 hs1 hF2 hs2).1
  have s1 : cC S_c_X11_habit := fun c k q => by simp only [S_c_X11_habit, or_false] at q; omega
  have s2 : cD S_c_X12_habit := fun c k q => by simp only [S_c_X12_habit, or_false] at q; omega
  have c1 : ∀ (c : rf) (k : Nat), c.1 = 12 ∨ 50 ≤ c.1 → M1.1 c k = M.1 c k := fun c k a => hF1 c k (fun q => s1 c k q a)
  have c2 : ∀ (c : rf) (k : Nat), ¬ (c.1 = 12 ∨ 50 ≤ c.1) → M2.1 c k = M1.1 c k := fun c k a => hF2 c k (fun q => a (s2 c k q))
  have e50 : M1.1 (50, 0, 0) = M.1 (50, 0, 0) := funext fun k => c1 _ _ (by simp)
  have hR : RW 0 M.1 (M1.1 (50, 0, 0)) := by rw [e50]; exact h.2.2.1
  have hu : (M1.1 (12, 0, 0) 7).toInt = -1 := by rw [c1 _ _ (by simp)]; exact h.2.1
  have h7 : (M2.1 (12, 0, 0) 7).toInt = -1 := by rw [hF2 (12, 0, 0) 7 (fun q => by simp only [S_c_X12_habit, or_false] at q; omega)]; exact hu
  have B := cb_11 hs1 hs2 hR hD hu
  exact ⟨RY_of h hF1 hF2 s1 s2 hx hD2.2.1 hD2.2.2.1 h7 B.1 (Or.inl ⟨hF2 _ _ (fun q => by simp only [S_c_X12_habit, or_false] at q; omega), fun c k a b q => by unfold wR at a; simp only [S_c_X11_habit, or_false] at q; omega, fun k q => by simp only [S_c_X12_habit, or_false] at q; omega⟩) (SHR_keep h.2.2.2.2 (fun c k a => hF1 c k (fun q => by simp only [S_c_X11_habit, or_false] at q; omega)) (fun c k a => by rw [hF2 c k (fun q => by simp only [S_c_X12_habit, or_false] at q; omega), c1 c k (by omega)])), B.2⟩
theorem sy_12 {v : Int32} {u : Int32} {M M1 M2 : mM} {r1 r2 : Int32} (h : RY M.1) (hD0 : InvD M) (hD : InvD M1) (hD2 : InvD M2) (hF1 : FR S_c_X11_face M M1) (hs1 : SP_X11_face v u M r1 M1) (hF2 : FR S_c_X12_face M1 M2) (hs2 : SP_X12_face v u M1 r2 M2) : RY M2.1 ∧ r1 = r2 := by
  have hx := (st_12 h.1 hD0 hF1 hs1 hF2 hs2).1
  have s1 : cC S_c_X11_face := fun c k q => by simp only [S_c_X11_face, or_false] at q; omega
  have s2 : cD S_c_X12_face := fun c k q => by simp only [S_c_X12_face, or_false] at q; omega
  have c1 : ∀ (c : rf) (k : Nat), c.1 = 12 ∨ 50 ≤ c.1 → M1.1 c k = M.1 c k := fun c k a => hF1 c k (fun q => s1 c k q a)
  have c2 : ∀ (c : rf) (k : Nat), ¬ (c.1 = 12 ∨ 50 ≤ c.1) → M2.1 c k = M1.1 c k := fun c k a => hF2 c k (fun q => a (s2 c k q))
  have e50 : M1.1 (50, 0, 0) = M.1 (50, 0, 0) := funext fun k => c1 _ _ (by simp)
  have hR : RW 0 M.1 (M1.1 (50, 0, 0)) := by rw [e50]; exact h.2.2.1
  have hu : (M1.1 (12, 0, 0) 7).toInt = -1 := by rw [c1 _ _ (by simp)]; exact h.2.1
  have h7 : (M2.1 (12, 0, 0) 7).toInt = -1 := by rw [hF2 (12, 0, 0) 7 (fun q => by simp only [S_c_X12_face, or_false] at q; omega)]; exact hu
  have B := cb_12 hs1 hs2 hR hD hu
  exact ⟨RY_of h hF1 hF2 s1 s2 hx hD2.2.1 hD2.2.2.1 h7 B.1 (Or.inl ⟨hF2 _ _ (fun q => by simp only [S_c_X12_face, or_false] at q; omega), fun c k a b q => by unfold wR at a; simp only [S_c_X11_face, or_false] at q; omega, fun k q => by simp only [S_c_X12_face, or_false] at q; omega⟩) (SHR_keep h.2.2.2.2 (fun c k a => hF1 c k (fun q => by simp only [S_c_X11_face, or_false] at q; omega)) (fun c k a => by rw [hF2 c k (fun q => by simp only [S_c_X12_face, or_false] at q; omega), c1 c k (by omega)])), B.2⟩
theorem sy_13 {v : Int32} {u : Int32} {M M1 M2 : mM} {r1 r2 : Int32} (h : RY M.1) (hD0 : InvD M) (hD : InvD M1) (hD2 : InvD M2) (hF1 : FR S_c_X11_goes M M1) (hs1 : SP_X11_goes v u M r1 M1) (hF2 : FR S_c_X12_goes M1 M2) (hs2 : SP_X12_goes v u M1 r2 M2) (hub : 0 ≤ u.toInt ∧ u.toInt ≤ 1) : RY M2.1 ∧ r1 = r2 := by
  have hx := (st_13 h.1 hD0 hF1 hs1 hF2 hs2).1
  have s1 : cC S_c_X11_goes := fun c k q => by simp only [S_c_X11_goes, or_false] at q; omega
  have s2 : cD S_c_X12_goes := fun c k q => by simp only [S_c_X12_goes, or_false] at q; omega
  have c1 : ∀ (c : rf) (k : Nat), c.1 = 12 ∨ 50 ≤ c.1 → M1.1 c k = M.1 c k := fun c k a => hF1 c k (fun q => s1 c k q a)
  have c2 : ∀ (c : rf) (k : Nat), ¬ (c.1 = 12 ∨ 50 ≤ c.1) → M2.1 c k = M1.1 c k := fun c k a => hF2 c k (fun q => a (s2 c k q))
  have e50 : M1.1 (50, 0, 0) = M.1 (50, 0, 0) := funext fun k => c1 _ _ (by simp)
  have hR : RW 0 M.1 (M1.1 (50, 0, 0)) := by rw [e50]; exact h.2.2.1
  have hu : (M1.1 (12, 0, 0) 7).toInt = -1 := by rw [c1 _ _ (by simp)]; exact h.2.1
  have h7 : (M2.1 (12, 0, 0) 7).toInt = -1 := by rw [hF2 (12, 0, 0) 7 (fun q => by simp only [S_c_X12_goes, or_false] at q; omega)]; exact hu
  have B := cb_13 hs1 hs2 hR hD hu hub
  exact ⟨RY_of h hF1 hF2 s1 s2 hx hD2.2.1 hD2.2.2.1 h7 B.1 (Or.inl ⟨hF2 _ _ (fun q => by simp only [S_c_X12_goes, or_false] at q; omega), fun c k a b q => by unfold wR at a; simp only [S_c_X11_goes, or_false] at q; omega, fun k q => by simp only [S_c_X12_goes, or_false] at q; omega⟩) (SHR_keep h.2.2.2.2 (fun c k a => hF1 c k (fun q => by simp only [S_c_X11_goes, or_false] at q; omega)) (fun c k a => by rw [hF2 c k (fun q => by simp only [S_c_X12_goes, or_false] at q; omega), c1 c k (by omega)])), B.2⟩
theorem sy_14 {v : Int64} {u : Int32} {M M1 M2 : mM} {r1 r2 : Int32} (h : RY M.1) (hD0 : InvD M) (hD : InvD M1) (hD2 : InvD M2) (hF1 : FR S_c_X11_feed M M1) (hs1 : SP_X11_feed v u M r1 M1) (hF2 : FR S_c_X12_feed M1 M2) (hs2 : SP_X12_feed v u M1 r2 M2) : RY M2.1 ∧ r1 = r2 := by
  have hx := (st_14 h.1 hD0 hF1 hs1 hF2 hs2).1
  have s1 : cC S_c_X11_feed := fun c k q => by simp only [S_c_X11_feed, or_false] at q; omega
  have s2 : cD S_c_X12_feed := fun c k q => by simp only [S_c_X12_feed, or_false] at q; omega
  have c1 : ∀ (c : rf) (k : Nat), c.1 = 12 ∨ 50 ≤ c.1 → M1.1 c k = M.1 c k := fun c k a => hF1 c k (fun q => s1 c k q a)
  have c2 : ∀ (c : rf) (k : Nat), ¬ (c.1 = 12 ∨ 50 ≤ c.1) → M2.1 c k = M1.1 c k := fun c k a => hF2 c k (fun q => a (s2 c k q))
  have e50 : M1.1 (50, 0, 0) = M.1 (50, 0, 0) := funext fun k => c1 _ _ (by simp)
  have hR : RW 0 M.1 (M1.1 (50, 0, 0)) := by rw [e50]; exact h.2.2.1
  have hu : (M1.1 (12, 0, 0) 7).toInt = -1 := by rw [c1 _ _ (by simp)]; exact h.2.1
  have h7 : (M2.1 (12, 0, 0) 7).toInt = -1 := by rw [hF2 (12, 0, 0) 7 (fun q => by simp only [S_c_X12_feed, or_false] at q; omega)]; exact hu
  have B := cb_14 hs1 hs2 hR hD hu (show M.1 (5, 0, 0) 1 = M1.1 (50, 0, 0) 4 from ((RXzg h.1 (d := (50, 0, 0)) (j := 4) (by unfold PRz; simp) (by simp)).trans (c1 _ _ (by simp)).symm))
  exact ⟨RY_of h hF1 hF2 s1 s2 hx hD2.2.1 hD2.2.2.1 h7 B.1 (Or.inl ⟨hF2 _ _ (fun q => by simp only [S_c_X12_feed, or_false] at q; omega), fun c k a b q => by unfold wR at a; simp only [S_c_X11_feed, or_false] at q; omega, fun k q => by simp only [S_c_X12_feed, or_false] at q; omega⟩) (SHR_keep h.2.2.2.2 (fun c k a => hF1 c k (fun q => by simp only [S_c_X11_feed, or_false] at q; omega)) (fun c k a => by rw [hF2 c k (fun q => by simp only [S_c_X12_feed, or_false] at q; omega), c1 c k (by omega)])), B.2⟩
theorem sy_15 {v : Int32} {M M1 M2 : mM} {r1 r2 : Int32} (h : RY M.1) (hD0 : InvD M) (hD : InvD M1) (hD2 : InvD M2) (hF1 : FR S_c_X11_text M M1) (hs1 : SP_X11_text v M r1 M1) (hF2 : FR S_c_X12_text_ M1 M2) (hs2 : SP_X12_text_ v M1 r2 M2) : RY M2.1 ∧ r1 = r2 := by
  have hx := (st_15 h.1 hD0 hF1 hs1 hF2 hs2).1
  have s1 : cC S_c_X11_text := fun c k q => by simp only [S_c_X11_text, or_false] at q; omega
  have s2 : cD S_c_X12_text_ := fun c k q => by simp only [S_c_X12_text_, or_false] at q; omega
  have c1 : ∀ (c : rf) (k : Nat), c.1 = 12 ∨ 50 ≤ c.1 → M1.1 c k = M.1 c k := fun c k a => hF1 c k (fun q => s1 c k q a)
  have c2 : ∀ (c : rf) (k : Nat), ¬ (c.1 = 12 ∨ 50 ≤ c.1) → M2.1 c k = M1.1 c k := fun c k a => hF2 c k (fun q => a (s2 c k q))
  have e50 : M1.1 (50, 0, 0) = M.1 (50, 0, 0) := funext fun k => c1 _ _ (by simp)
  have hR : RW 0 M.1 (M1.1 (50, 0, 0)) := by rw [e50]; exact h.2.2.1
  have hu : (M1.1 (12, 0, 0) 7).toInt = -1 := by rw [c1 _ _ (by simp)]; exact h.2.1
  have h7 : (M2.1 (12, 0, 0) 7).toInt = -1 := by rw [hF2 (12, 0, 0) 7 (fun q => by simp only [S_c_X12_text_, or_false] at q; omega)]; exact hu
  have B := cb_text hs1 hs2 hR hD (show M.1 (5, 0, 0) 1 = M1.1 (50, 0, 0) 4 from ((RXzg h.1 (d := (50, 0, 0)) (j := 4) (by unfold PRz; simp) (by simp)).trans (c1 _ _ (by simp)).symm))
  exact ⟨RY_of h hF1 hF2 s1 s2 hx hD2.2.1 hD2.2.2.1 h7 B.1 (Or.inl ⟨hF2 _ _ (fun q => by simp only [S_c_X12_text_, or_false] at q; omega), fun c k a b q => by unfold wR at a; simp only [S_c_X11_text, or_false] at q; omega, fun k q => by simp only [S_c_X12_text_, or_false] at q; omega⟩) (SHR_keep h.2.2.2.2 (fun c k a => hF1 c k (fun q => by simp only [S_c_X11_text, or_false] at q; omega)) (fun c k a => by rw [hF2 c k (fun q => by simp only [S_c_X12_text_, or_false] at q; omega), c1 c k (by omega)])), B.2⟩
theorem sy_16 {v : Int32} {u : Int32} {t : Int32} {s : Int32} {M M1 M2 : mM} {r1 r2 : Int32} (h : RY M.1) (hD0 : InvD M) (hD : InvD M1) (hD2 : InvD M2) (hF1 : FR S_c_X11_echo M M1) (hs1 : SP_X11_echo v u t s M r1 M1) (hF2 : FR S_c_X12_echo M1 M2) (hs2 : SP_X12_echo v u t s M1 r2 M2) : RY M2.1 ∧ True := by
  have hx := (st_16 h.1 hD0 hF1 hs1 hF2 hs2).1
  have s1 : cC S_c_X11_echo := fun c k q => by simp only [S_c_X11_echo, or_false] at q; omega
  have s2 : cD S_c_X12_echo := fun c k q => by simp only [S_c_X12_echo, or_false] at q; omega
  have c1 : ∀ (c : rf) (k : Nat), c.1 = 12 ∨ 50 ≤ c.1 → M1.1 c k = M.1 c k := fun c k a => hF1 c k (fun q => s1 c k q a)
  have c2 : ∀ (c : rf) (k : Nat), ¬ (c.1 = 12 ∨ 50 ≤ c.1) → M2.1 c k = M1.1 c k := fun c k a => hF2 c k (fun q => a (s2 c k q))
  have e50 : M1.1 (50, 0, 0) = M.1 (50, 0, 0) := funext fun k => c1 _ _ (by simp)
  have hR : RW 0 M.1 (M1.1 (50, 0, 0)) := by rw [e50]; exact h.2.2.1
  have hu : (M1.1 (12, 0, 0) 7).toInt = -1 := by rw [c1 _ _ (by simp)]; exact h.2.1
  have h7 : (M2.1 (12, 0, 0) 7).toInt = -1 := by rw [hF2 (12, 0, 0) 7 (fun q => by simp only [S_c_X12_echo, or_false] at q; omega)]; exact hu
  exact ⟨RY_fr h hF1 hF2 s1 s2 hx hD2.2.1 hD2.2.2.1 (fun c k a b q => by unfold wR at a; simp only [S_c_X11_echo, or_false] at q; omega) (fun c k a q => by rcases a with rfl | rfl | ⟨rfl, rfl⟩ | a | a | a <;> (simp only [S_c_X12_echo, or_false] at q <;> omega)) (fun c k a q => by simp only [S_c_X11_echo, or_false] at q; omega) h7, trivial⟩
theorem sy_17 {v : Int32} {M M1 M2 : mM} {r1 r2 : Int32} (h : RY M.1) (hD0 : InvD M) (hD : InvD M1) (hD2 : InvD M2) (hF1 : FR S_c_X11_click M M1) (hs1 : SP_X11_click v M r1 M1) (hF2 : FR S_c_X12_click M1 M2) (hs2 : SP_X12_click v M1 r2 M2) : RY M2.1 ∧ r1 = r2 := by
  have hx := (st_17 h.1 hD0 hF1 hs1 hF2 hs2).1
  have s1 : cC S_c_X11_click := fun c k q => by simp only [S_c_X11_click, or_false] at q; omega
  have s2 : cD S_c_X12_click := fun c k q => by simp only [S_c_X12_click, or_false] at q; omega
  have c1 : ∀ (c : rf) (k : Nat), c.1 = 12 ∨ 50 ≤ c.1 → M1.1 c k = M.1 c k := fun c k a => hF1 c k (fun q => s1 c k q a)
  have c2 : ∀ (c : rf) (k : Nat), ¬ (c.1 = 12 ∨ 50 ≤ c.1) → M2.1 c k = M1.1 c k := fun c k a => hF2 c k (fun q => a (s2 c k q))
  have e50 : M1.1 (50, 0, 0) = M.1 (50, 0, 0) := funext fun k => c1 _ _ (by simp)
  have hR : RW 0 M.1 (M1.1 (50, 0, 0)) := by rw [e50]; exact h.2.2.1
  have hu : (M1.1 (12, 0, 0) 7).toInt = -1 := by rw [c1 _ _ (by simp)]; exact h.2.1
  have h7 : (M2.1 (12, 0, 0) 7).toInt = -1 := by rw [hF2 (12, 0, 0) 7 (fun q => by simp only [S_c_X12_click, or_false] at q; omega)]; exact hu
  have B := cb_17 hs1 hs2 hR hD hu
  exact ⟨RY_of h hF1 hF2 s1 s2 hx hD2.2.1 hD2.2.2.1 h7 B.1 (Or.inl ⟨hF2 _ _ (fun q => by simp only [S_c_X12_click, or_false] at q; omega), fun c k a b q => by unfold wR at a; simp only [S_c_X11_click, or_false] at q; omega, fun k q => by simp only [S_c_X12_click, or_false] at q; omega⟩) (SHR_keep h.2.2.2.2 (fun c k a => hF1 c k (fun q => by simp only [S_c_X11_click, or_false] at q; omega)) (fun c k a => by rw [hF2 c k (fun q => by simp only [S_c_X12_click, or_false] at q; omega), c1 c k (by omega)])), B.2⟩
theorem sy_18 {v : Int32} {u : Int32} {t : Int32} {M M1 M2 : mM} {r1 r2 : Int32} (h : RY M.1) (hD0 : InvD M) (hD : InvD M1) (hD2 : InvD M2) (hF1 : FR S_c_X11_head M M1) (hs1 : SP_X11_head v u t M r1 M1) (hF2 : FR S_c_X12_head M1 M2) (hs2 : SP_X12_head v u t M1 r2 M2) : RY M2.1 ∧ True := by
  have hx := (st_18 h.1 hD0 hF1 hs1 hF2 hs2).1
  have s1 : cC S_c_X11_head := fun c k q => by simp only [S_c_X11_head, or_false] at q; omega
  have s2 : cD S_c_X12_head := fun c k q => by simp only [S_c_X12_head, or_false] at q; omega
  have c1 : ∀ (c : rf) (k : Nat), c.1 = 12 ∨ 50 ≤ c.1 → M1.1 c k = M.1 c k := fun c k a => hF1 c k (fun q => s1 c k q a)
  have c2 : ∀ (c : rf) (k : Nat), ¬ (c.1 = 12 ∨ 50 ≤ c.1) → M2.1 c k = M1.1 c k := fun c k a => hF2 c k (fun q => a (s2 c k q))
  have e50 : M1.1 (50, 0, 0) = M.1 (50, 0, 0) := funext fun k => c1 _ _ (by simp)
  have hR : RW 0 M.1 (M1.1 (50, 0, 0)) := by rw [e50]; exact h.2.2.1
  have hu : (M1.1 (12, 0, 0) 7).toInt = -1 := by rw [c1 _ _ (by simp)]; exact h.2.1
  have h7 : (M2.1 (12, 0, 0) 7).toInt = -1 := by rw [hF2 (12, 0, 0) 7 (fun q => by simp only [S_c_X12_head, or_false] at q; omega)]; exact hu
  exact ⟨RY_fr h hF1 hF2 s1 s2 hx hD2.2.1 hD2.2.2.1 (fun c k a b q => by unfold wR at a; simp only [S_c_X11_head, or_false] at q; omega) (fun c k a q => by rcases a with rfl | rfl | ⟨rfl, rfl⟩ | a | a | a <;> (simp only [S_c_X12_head, or_false] at q <;> omega)) (fun c k a q => by simp only [S_c_X11_head, or_false] at q; omega) h7, trivial⟩
theorem sy_19 {v : Int32} {u : Int32} {M M1 M2 : mM} {r1 r2 : Int32} (h : RY M.1) (hD0 : InvD M) (hD : InvD M1) (hD2 : InvD M2) (hF1 : FR S_c_X11_heads M M1) (hs1 : SP_X11_heads v u M r1 M1) (hF2 : FR S_c_X12_heads M1 M2) (hs2 : SP_X12_heads v u M1 r2 M2) : RY M2.1 ∧ True := by
  have hx := (st_19 h.1 hD0 hF1 hs1 hF2 hs2).1
  have s1 : cC S_c_X11_heads := fun c k q => by simp only [S_c_X11_heads, or_false] at q; omega
  have s2 : cD S_c_X12_heads := fun c k q => by simp only [S_c_X12_heads, or_false] at q; omega
  have c1 : ∀ (c : rf) (k : Nat), c.1 = 12 ∨ 50 ≤ c.1 → M1.1 c k = M.1 c k := fun c k a => hF1 c k (fun q => s1 c k q a)
  have c2 : ∀ (c : rf) (k : Nat), ¬ (c.1 = 12 ∨ 50 ≤ c.1) → M2.1 c k = M1.1 c k := fun c k a => hF2 c k (fun q => a (s2 c k q))
  have e50 : M1.1 (50, 0, 0) = M.1 (50, 0, 0) := funext fun k => c1 _ _ (by simp)
  have hR : RW 0 M.1 (M1.1 (50, 0, 0)) := by rw [e50]; exact h.2.2.1
  have hu : (M1.1 (12, 0, 0) 7).toInt = -1 := by rw [c1 _ _ (by simp)]; exact h.2.1
  have h7 : (M2.1 (12, 0, 0) 7).toInt = -1 := by rw [hF2 (12, 0, 0) 7 (fun q => by simp only [S_c_X12_heads, or_false] at q; omega)]; exact hu
  exact ⟨RY_fr h hF1 hF2 s1 s2 hx hD2.2.1 hD2.2.2.1 (fun c k a b q => by unfold wR at a; simp only [S_c_X11_heads, or_false] at q; omega) (fun c k a q => by rcases a with rfl | rfl | ⟨rfl, rfl⟩ | a | a | a <;> (simp only [S_c_X12_heads, or_false] at q <;> omega)) (fun c k a q => by simp only [S_c_X11_heads, or_false] at q; omega) h7, trivial⟩
theorem sy_20 {v : Int32} {u : Int32} {t : Int32} {s : Int32} {q : Int32} {M M1 M2 : mM} {r1 r2 : Int32} (h : RY M.1) (hD0 : InvD M) (hD : InvD M1) (hD2 : InvD M2) (hF1 : FR S_c_X11_alike M M1) (hs1 : SP_X11_alike v u t s q M r1 M1) (hF2 : FR S_c_X12_alike M1 M2) (hs2 : SP_X12_alike v u t s q M1 r2 M2) : RY M2.1 ∧ True := by
  have hx := (st_20 h.1 hD0 hF1 hs1 hF2 hs2).1
  have s1 : cC S_c_X11_alike := fun c k q => by simp only [S_c_X11_alike, or_false] at q; omega
  have s2 : cD S_c_X12_alike := fun c k q => by simp only [S_c_X12_alike, or_false] at q; omega
  have c1 : ∀ (c : rf) (k : Nat), c.1 = 12 ∨ 50 ≤ c.1 → M1.1 c k = M.1 c k := fun c k a => hF1 c k (fun q => s1 c k q a)
  have c2 : ∀ (c : rf) (k : Nat), ¬ (c.1 = 12 ∨ 50 ≤ c.1) → M2.1 c k = M1.1 c k := fun c k a => hF2 c k (fun q => a (s2 c k q))
  have e50 : M1.1 (50, 0, 0) = M.1 (50, 0, 0) := funext fun k => c1 _ _ (by simp)
  have hR : RW 0 M.1 (M1.1 (50, 0, 0)) := by rw [e50]; exact h.2.2.1
  have hu : (M1.1 (12, 0, 0) 7).toInt = -1 := by rw [c1 _ _ (by simp)]; exact h.2.1
  have h7 : (M2.1 (12, 0, 0) 7).toInt = -1 := by rw [hF2 (12, 0, 0) 7 (fun q => by simp only [S_c_X12_alike, or_false] at q; omega)]; exact hu
  exact ⟨RY_fr h hF1 hF2 s1 s2 hx hD2.2.1 hD2.2.2.1 (fun c k a b q => by unfold wR at a; simp only [S_c_X11_alike, or_false] at q; omega) (fun c k a q => by rcases a with rfl | rfl | ⟨rfl, rfl⟩ | a | a | a <;> (simp only [S_c_X12_alike, or_false] at q <;> omega)) (fun c k a q => by simp only [S_c_X11_alike, or_false] at q; omega) h7, trivial⟩
theorem sy_21 {v : Int32} {u : Int32} {t : Int32} {s : Int32} {M M1 M2 : mM} {r1 r2 : Int32} (h : RY M.1) (hD0 : InvD M) (hD : InvD M1) (hD2 : InvD M2) (hF1 : FR S_c_X11_least M M1) (hs1 : SP_X11_least v u t s M r1 M1) (hF2 : FR S_c_X12_least M1 M2) (hs2 : SP_X12_least v u t s M1 r2 M2) : RY M2.1 ∧ True := by
  have hx := (st_21 h.1 hD0 hF1 hs1 hF2 hs2).1
  have s1 : cC S_c_X11_least := fun c k q => by simp only [S_c_X11_least, or_false] at q; omega
  have s2 : cD S_c_X12_least := fun c k q => by simp only [S_c_X12_least, or_false] at q; omega
  have c1 : ∀ (c : rf) (k : Nat), c.1 = 12 ∨ 50 ≤ c.1 → M1.1 c k = M.1 c k := fun c k a => hF1 c k (fun q => s1 c k q a)
  have c2 : ∀ (c : rf) (k : Nat), ¬ (c.1 = 12 ∨ 50 ≤ c.1) → M2.1 c k = M1.1 c k := fun c k a => hF2 c k (fun q => a (s2 c k q))
  have e50 : M1.1 (50, 0, 0) = M.1 (50, 0, 0) := funext fun k => c1 _ _ (by simp)
  have hR : RW 0 M.1 (M1.1 (50, 0, 0)) := by rw [e50]; exact h.2.2.1
  have hu : (M1.1 (12, 0, 0) 7).toInt = -1 := by rw [c1 _ _ (by simp)]; exact h.2.1
  have h7 : (M2.1 (12, 0, 0) 7).toInt = -1 := by rw [hF2 (12, 0, 0) 7 (fun q => by simp only [S_c_X12_least, or_false] at q; omega)]; exact hu
  exact ⟨RY_fr h hF1 hF2 s1 s2 hx hD2.2.1 hD2.2.2.1 (fun c k a b q => by unfold wR at a; simp only [S_c_X11_least, or_false] at q; omega) (fun c k a q => by rcases a with rfl | rfl | ⟨rfl, rfl⟩ | a | a | a <;> (simp only [S_c_X12_least, or_false] at q <;> omega)) (fun c k a q => by simp only [S_c_X11_least, or_false] at q; omega) h7, trivial⟩
theorem sy_22 {v : Int32} {u : Int32} {t : Int32} {M M1 M2 : mM} {r1 r2 : Int32} (h : RY M.1) (hD0 : InvD M) (hD : InvD M1) (hD2 : InvD M2) (hF1 : FR S_c_X11_farthest M M1) (hs1 : SP_X11_farthest v u t M r1 M1) (hF2 : FR S_c_X12_farthest M1 M2) (hs2 : SP_X12_farthest v u t M1 r2 M2) : RY M2.1 ∧ True := by
  have hx := (st_22 h.1 hD0 hF1 hs1 hF2 hs2).1
  have s1 : cC S_c_X11_farthest := fun c k q => by simp only [S_c_X11_farthest, or_false] at q; omega
  have s2 : cD S_c_X12_farthest := fun c k q => by simp only [S_c_X12_farthest, or_false] at q; omega
  have c1 : ∀ (c : rf) (k : Nat), c.1 = 12 ∨ 50 ≤ c.1 → M1.1 c k = M.1 c k := fun c k a => hF1 c k (fun q => s1 c k q a)
  have c2 : ∀ (c : rf) (k : Nat), ¬ (c.1 = 12 ∨ 50 ≤ c.1) → M2.1 c k = M1.1 c k := fun c k a => hF2 c k (fun q => a (s2 c k q))
  have e50 : M1.1 (50, 0, 0) = M.1 (50, 0, 0) := funext fun k => c1 _ _ (by simp)
  have hR : RW 0 M.1 (M1.1 (50, 0, 0)) := by rw [e50]; exact h.2.2.1
  have hu : (M1.1 (12, 0, 0) 7).toInt = -1 := by rw [c1 _ _ (by simp)]; exact h.2.1
  have h7 : (M2.1 (12, 0, 0) 7).toInt = -1 := by rw [hF2 (12, 0, 0) 7 (fun q => by simp only [S_c_X12_farthest, or_false] at q; omega)]; exact hu
  exact ⟨RY_fr h hF1 hF2 s1 s2 hx hD2.2.1 hD2.2.2.1 (fun c k a b q => by unfold wR at a; simp only [S_c_X11_farthest, or_false] at q; omega) (fun c k a q => by rcases a with rfl | rfl | ⟨rfl, rfl⟩ | a | a | a <;> (simp only [S_c_X12_farthest, or_false] at q <;> omega)) (fun c k a q => by simp only [S_c_X11_farthest, or_false] at q; omega) h7, trivial⟩
theorem sy_23 {v : Int32} {u : Int32} {t : Int32} {s : Int32} {M M1 M2 : mM} {r1 r2 : Int32} (h : RY M.1) (hD0 : InvD M) (hD : InvD M1) (hD2 : InvD M2) (hF1 : FR S_c_X11_spots M M1) (hs1 : SP_X11_spots v u t s M r1 M1) (hF2 : FR S_c_X12_spots M1 M2) (hs2 : SP_X12_spots v u t s M1 r2 M2) : RY M2.1 ∧ True := by
  have hx := (st_23 h.1 hD0 hF1 hs1 hF2 hs2).1
  have s1 : cC S_c_X11_spots := fun c k q => by simp only [S_c_X11_spots, or_false] at q; omega
  have s2 : cD S_c_X12_spots := fun c k q => by simp only [S_c_X12_spots, or_false] at q; omega
  have c1 : ∀ (c : rf) (k : Nat), c.1 = 12 ∨ 50 ≤ c.1 → M1.1 c k = M.1 c k := fun c k a => hF1 c k (fun q => s1 c k q a)
  have c2 : ∀ (c : rf) (k : Nat), ¬ (c.1 = 12 ∨ 50 ≤ c.1) → M2.1 c k = M1.1 c k := fun c k a => hF2 c k (fun q => a (s2 c k q))
  have e50 : M1.1 (50, 0, 0) = M.1 (50, 0, 0) := funext fun k => c1 _ _ (by simp)
  have hR : RW 0 M.1 (M1.1 (50, 0, 0)) := by rw [e50]; exact h.2.2.1
  have hu : (M1.1 (12, 0, 0) 7).toInt = -1 := by rw [c1 _ _ (by simp)]; exact h.2.1
  have h7 : (M2.1 (12, 0, 0) 7).toInt = -1 := USP_X12_spots hs2 hu
  exact ⟨RY_fr h hF1 hF2 s1 s2 hx hD2.2.1 hD2.2.2.1 (fun c k a b q => by unfold wR at a; simp only [S_c_X11_spots, or_false] at q; omega) (fun c k a q => by rcases a with rfl | rfl | ⟨rfl, rfl⟩ | a | a | a <;> (simp only [S_c_X12_spots, or_false] at q <;> omega)) (fun c k a q => by simp only [S_c_X11_spots, or_false] at q; omega) h7, trivial⟩
theorem sy_24 {v : Int32} {M M1 M2 : mM} {r1 r2 : Int32} (h : RY M.1) (hD0 : InvD M) (hD : InvD M1) (hD2 : InvD M2) (hF1 : FR S_c_X11_tenths M M1) (hs1 : SP_X11_tenths v M r1 M1) (hF2 : FR S_c_X12_tenths M1 M2) (hs2 : SP_X12_tenths v M1 r2 M2) : RY M2.1 ∧ r1 = r2 := by
  have hx := (st_24 h.1 hD0 hF1 hs1 hF2 hs2).1
  have s1 : cC S_c_X11_tenths := fun c k q => by simp only [S_c_X11_tenths, or_false] at q; omega
  have s2 : cD S_c_X12_tenths := fun c k q => by simp only [S_c_X12_tenths, or_false] at q; omega
  have c1 : ∀ (c : rf) (k : Nat), c.1 = 12 ∨ 50 ≤ c.1 → M1.1 c k = M.1 c k := fun c k a => hF1 c k (fun q => s1 c k q a)
  have c2 : ∀ (c : rf) (k : Nat), ¬ (c.1 = 12 ∨ 50 ≤ c.1) → M2.1 c k = M1.1 c k := fun c k a => hF2 c k (fun q => a (s2 c k q))
  have e50 : M1.1 (50, 0, 0) = M.1 (50, 0, 0) := funext fun k => c1 _ _ (by simp)
  have hR : RW 0 M.1 (M1.1 (50, 0, 0)) := by rw [e50]; exact h.2.2.1
  have hu : (M1.1 (12, 0, 0) 7).toInt = -1 := by rw [c1 _ _ (by simp)]; exact h.2.1
  have h7 : (M2.1 (12, 0, 0) 7).toInt = -1 := by rw [hF2 (12, 0, 0) 7 (fun q => by simp only [S_c_X12_tenths, or_false] at q; omega)]; exact hu
  have B := cb_24 hs1 hs2 hR hD hu
  exact ⟨RY_of h hF1 hF2 s1 s2 hx hD2.2.1 hD2.2.2.1 h7 B.1 (Or.inl ⟨hF2 _ _ (fun q => by simp only [S_c_X12_tenths, or_false] at q; omega), fun c k a b q => by unfold wR at a; simp only [S_c_X11_tenths, or_false] at q; omega, fun k q => by simp only [S_c_X12_tenths, or_false] at q; omega⟩) (SHR_keep h.2.2.2.2 (fun c k a => hF1 c k (fun q => by simp only [S_c_X11_tenths, or_false] at q; omega)) (fun c k a => by rw [hF2 c k (fun q => by simp only [S_c_X12_tenths, or_false] at q; omega), c1 c k (by omega)])), B.2⟩
theorem sy_25 {v : Int32} {u : Int32} {t : Int32} {M M1 M2 : mM} {r1 r2 : Int32} (h : RY M.1) (hD0 : InvD M) (hD : InvD M1) (hD2 : InvD M2) (hF1 : FR S_c_X11_way M M1) (hs1 : SP_X11_way v u t M r1 M1) (hF2 : FR S_c_X12_way M1 M2) (hs2 : SP_X12_way v u t M1 r2 M2) : RY M2.1 ∧ True := by
  have hx := (st_25 h.1 hD0 hF1 hs1 hF2 hs2).1
  have s1 : cC S_c_X11_way := fun c k q => by simp only [S_c_X11_way, or_false] at q; omega
  have s2 : cD S_c_X12_way := fun c k q => by simp only [S_c_X12_way, or_false] at q; omega
  have c1 : ∀ (c : rf) (k : Nat), c.1 = 12 ∨ 50 ≤ c.1 → M1.1 c k = M.1 c k := fun c k a => hF1 c k (fun q => s1 c k q a)
  have c2 : ∀ (c : rf) (k : Nat), ¬ (c.1 = 12 ∨ 50 ≤ c.1) → M2.1 c k = M1.1 c k := fun c k a => hF2 c k (fun q => a (s2 c k q))
  have e50 : M1.1 (50, 0, 0) = M.1 (50, 0, 0) := funext fun k => c1 _ _ (by simp)
  have hR : RW 0 M.1 (M1.1 (50, 0, 0)) := by rw [e50]; exact h.2.2.1
  have hu : (M1.1 (12, 0, 0) 7).toInt = -1 := by rw [c1 _ _ (by simp)]; exact h.2.1
  have h7 : (M2.1 (12, 0, 0) 7).toInt = -1 := by rw [hF2 (12, 0, 0) 7 (fun q => by simp only [S_c_X12_way, or_false] at q; omega)]; exact hu
  exact ⟨RY_fr h hF1 hF2 s1 s2 hx hD2.2.1 hD2.2.2.1 (fun c k a b q => by unfold wR at a; simp only [S_c_X11_way, or_false] at q; omega) (fun c k a q => by rcases a with rfl | rfl | ⟨rfl, rfl⟩ | a | a | a <;> (simp only [S_c_X12_way, or_false] at q <;> omega)) (fun c k a q => by simp only [S_c_X11_way, or_false] at q; omega) h7, trivial⟩
theorem sy_26 {v : Int32} {M M1 M2 : mM} {r1 r2 : Int32} (h : RY M.1) (hD0 : InvD M) (hD : InvD M1) (hD2 : InvD M2) (hF1 : FR S_c_X11_safe M M1) (hs1 : SP_X11_safe v M r1 M1) (hF2 : FR S_c_X12_safe M1 M2) (hs2 : SP_X12_safe v M1 r2 M2) : RY M2.1 ∧ True := by
  have hx := (st_26 h.1 hD0 hF1 hs1 hF2 hs2).1
  have s1 : cC S_c_X11_safe := fun c k q => by simp only [S_c_X11_safe, or_false] at q; omega
  have s2 : cD S_c_X12_safe := fun c k q => by simp only [S_c_X12_safe, or_false] at q; omega
  have c1 : ∀ (c : rf) (k : Nat), c.1 = 12 ∨ 50 ≤ c.1 → M1.1 c k = M.1 c k := fun c k a => hF1 c k (fun q => s1 c k q a)
  have c2 : ∀ (c : rf) (k : Nat), ¬ (c.1 = 12 ∨ 50 ≤ c.1) → M2.1 c k = M1.1 c k := fun c k a => hF2 c k (fun q => a (s2 c k q))
  have e50 : M1.1 (50, 0, 0) = M.1 (50, 0, 0) := funext fun k => c1 _ _ (by simp)
  have hR : RW 0 M.1 (M1.1 (50, 0, 0)) := by rw [e50]; exact h.2.2.1
  have hu : (M1.1 (12, 0, 0) 7).toInt = -1 := by rw [c1 _ _ (by simp)]; exact h.2.1
  have h7 : (M2.1 (12, 0, 0) 7).toInt = -1 := by rw [hF2 (12, 0, 0) 7 (fun q => by simp only [S_c_X12_safe, or_false] at q; omega)]; exact hu
  exact ⟨RY_fr h hF1 hF2 s1 s2 hx hD2.2.1 hD2.2.2.1 (fun c k a b q => by unfold wR at a; simp only [S_c_X11_safe, or_false] at q; omega) (fun c k a q => by rcases a with rfl | rfl | ⟨rfl, rfl⟩ | a | a | a <;> (simp only [S_c_X12_safe, or_false] at q <;> omega)) (fun c k a q => by simp only [S_c_X11_safe, or_false] at q; omega) h7, trivial⟩
theorem sy_27 {v : Int32} {u : Int32} {t : Int32} {M M1 M2 : mM} {r1 r2 : Int32} (h : RY M.1) (hD0 : InvD M) (hD : InvD M1) (hD2 : InvD M2) (hF1 : FR S_c_X11_lesson M M1) (hs1 : SP_X11_lesson v u t M r1 M1) (hF2 : FR S_c_X12_lesson M1 M2) (hs2 : SP_X12_lesson v u t M1 r2 M2) : RY M2.1 ∧ r1 = r2 := by
  have hx := (st_27 h.1 hD0 hF1 hs1 hF2 hs2).1
  have s1 : cC S_c_X11_lesson := fun c k q => by simp only [S_c_X11_lesson, or_false] at q; omega
  have s2 : cD S_c_X12_lesson := fun c k q => by simp only [S_c_X12_lesson, or_false] at q; omega
  have c1 : ∀ (c : rf) (k : Nat), c.1 = 12 ∨ 50 ≤ c.1 → M1.1 c k = M.1 c k := fun c k a => hF1 c k (fun q => s1 c k q a)
  have c2 : ∀ (c : rf) (k : Nat), ¬ (c.1 = 12 ∨ 50 ≤ c.1) → M2.1 c k = M1.1 c k := fun c k a => hF2 c k (fun q => a (s2 c k q))
  have e50 : M1.1 (50, 0, 0) = M.1 (50, 0, 0) := funext fun k => c1 _ _ (by simp)
  have hR : RW 0 M.1 (M1.1 (50, 0, 0)) := by rw [e50]; exact h.2.2.1
  have hu : (M1.1 (12, 0, 0) 7).toInt = -1 := by rw [c1 _ _ (by simp)]; exact h.2.1
  have h7 : (M2.1 (12, 0, 0) 7).toInt = -1 := by rw [hF2 (12, 0, 0) 7 (fun q => by simp only [S_c_X12_lesson, or_false] at q; omega)]; exact hu
  have B := cb_27 hs1 hs2 hR hD hu (show M.1 (3, 0, 0) 3 = M1.1 (50, 0, 0) 3 from ((RXzg h.1 (d := (50, 0, 0)) (j := 3) (by unfold PRz; simp) (by simp)).trans (c1 _ _ (by simp)).symm))
  exact ⟨RY_of h hF1 hF2 s1 s2 hx hD2.2.1 hD2.2.2.1 h7 B.1 (Or.inl ⟨hF2 _ _ (fun q => by simp only [S_c_X12_lesson, or_false] at q; omega), fun c k a b q => by unfold wR at a; simp only [S_c_X11_lesson, or_false] at q; omega, fun k q => by simp only [S_c_X12_lesson, or_false] at q; omega⟩) (SHR_keep h.2.2.2.2 (fun c k a => hF1 c k (fun q => by simp only [S_c_X11_lesson, or_false] at q; omega)) (fun c k a => by rw [hF2 c k (fun q => by simp only [S_c_X12_lesson, or_false] at q; omega), c1 c k (by omega)])), B.2⟩
theorem sy_28 {v : Int32} {u : Int32} {t : Int32} {M M1 M2 : mM} {r1 r2 : Int32} (h : RY M.1) (hD0 : InvD M) (hD : InvD M1) (hD2 : InvD M2) (hF1 : FR S_c_X11_learn M M1) (hs1 : SP_X11_learn v u t M r1 M1) (hF2 : FR S_c_X12_learn M1 M2) (hs2 : SP_X12_learn v u t M1 r2 M2) : RY M2.1 ∧ True := by
  have hx := (st_28 h.1 hD0 hF1 hs1 hF2 hs2).1
  have s1 : cC S_c_X11_learn := fun c k q => by simp only [S_c_X11_learn, or_false] at q; omega
  have s2 : cD S_c_X12_learn := fun c k q => by simp only [S_c_X12_learn, or_false] at q; omega
  have c1 : ∀ (c : rf) (k : Nat), c.1 = 12 ∨ 50 ≤ c.1 → M1.1 c k = M.1 c k := fun c k a => hF1 c k (fun q => s1 c k q a)
  have c2 : ∀ (c : rf) (k : Nat), ¬ (c.1 = 12 ∨ 50 ≤ c.1) → M2.1 c k = M1.1 c k := fun c k a => hF2 c k (fun q => a (s2 c k q))
  have e50 : M1.1 (50, 0, 0) = M.1 (50, 0, 0) := funext fun k => c1 _ _ (by simp)
  have hR : RW 0 M.1 (M1.1 (50, 0, 0)) := by rw [e50]; exact h.2.2.1
  have hu : (M1.1 (12, 0, 0) 7).toInt = -1 := by rw [c1 _ _ (by simp)]; exact h.2.1
  have h7 : (M2.1 (12, 0, 0) 7).toInt = -1 := by rw [hF2 (12, 0, 0) 7 (fun q => by simp only [S_c_X12_learn, or_false] at q; omega)]; exact hu
  have hN : NW5 (M.1 (50, 0, 0)) := hD0.2.1
  have e2 : M2.1 (50, 0, 0) = M.1 (50, 0, 0) := funext fun k => by rw [hF2 _ _ (fun q => by simp only [S_c_X12_learn, or_false] at q; omega), c1 _ _ (by simp)]
  refine ⟨RY_of h hF1 hF2 s1 s2 hx hD2.2.1 hD2.2.2.1 h7 ?_ (Or.inl ⟨hF2 _ _ (fun q => by simp only [S_c_X12_learn, or_false] at q; omega), fun c k a b q => by unfold wR at a; simp only [S_c_X11_learn, or_false] at q; omega, fun k q => by simp only [S_c_X12_learn, or_false] at q; omega⟩) (SHR_keep h.2.2.2.2 (fun c k a => hF1 c k (fun q => by simp only [S_c_X11_learn, or_false] at q; omega)) (fun c k a => by rw [hF2 c k (fun q => by simp only [S_c_X12_learn, or_false] at q; omega), c1 c k (by omega)])), trivial⟩
  rw [e2]
  exact RW_rest h.2.2.1 hN (fun c k a b => hF1 c k (fun q => by unfold wR at a; simp only [S_c_X11_learn, or_false] at q; omega)) (fun _ _ _ => rfl) (LER_keep h.2.2.1.2.1 (n345_b hN).1.2 (fun r k hr => hF1 _ _ (fun q => by simp only [S_c_X11_learn, or_false] at q; omega)) (fun _ _ => rfl)) (TAR_keep h.2.2.1.2.2.1 (n345_b hN).2.1.2 (fun k => hF1 _ _ (fun q => by simp only [S_c_X11_learn, or_false] at q; omega)) (fun _ _ => rfl)) (WTR_keep h.2.2.1.2.2.2 (n345_b hN).2.2.2 (fun k => hF1 _ _ (fun q => by simp only [S_c_X11_learn, or_false] at q; omega)) (fun _ _ => rfl))
theorem sy_29 {v : Int32} {u : Int32} {t : Int32} {s : Int32} {M M1 M2 : mM} {r1 r2 : Int32} (h : RY M.1) (hD0 : InvD M) (hD : InvD M1) (hD2 : InvD M2) (hF1 : FR S_c_X11_posts M M1) (hs1 : SP_X11_posts v u t s M r1 M1) (hF2 : FR S_c_X12_posts M1 M2) (hs2 : SP_X12_posts v u t s M1 r2 M2) : RY M2.1 ∧ True := by
  have hx := (st_29 h.1 hD0 hF1 hs1 hF2 hs2).1
  have s1 : cC S_c_X11_posts := fun c k q => by simp only [S_c_X11_posts, or_false] at q; omega
  have s2 : cD S_c_X12_posts := fun c k q => by simp only [S_c_X12_posts, or_false] at q; omega
  have c1 : ∀ (c : rf) (k : Nat), c.1 = 12 ∨ 50 ≤ c.1 → M1.1 c k = M.1 c k := fun c k a => hF1 c k (fun q => s1 c k q a)
  have c2 : ∀ (c : rf) (k : Nat), ¬ (c.1 = 12 ∨ 50 ≤ c.1) → M2.1 c k = M1.1 c k := fun c k a => hF2 c k (fun q => a (s2 c k q))
  have e50 : M1.1 (50, 0, 0) = M.1 (50, 0, 0) := funext fun k => c1 _ _ (by simp)
  have hR : RW 0 M.1 (M1.1 (50, 0, 0)) := by rw [e50]; exact h.2.2.1
  have hu : (M1.1 (12, 0, 0) 7).toInt = -1 := by rw [c1 _ _ (by simp)]; exact h.2.1
  have h7 : (M2.1 (12, 0, 0) 7).toInt = -1 := USP_X12_posts hs2 hu
  exact ⟨RY_fr h hF1 hF2 s1 s2 hx hD2.2.1 hD2.2.2.1 (fun c k a b q => by unfold wR at a; simp only [S_c_X11_posts, or_false] at q; omega) (fun c k a q => by rcases a with rfl | rfl | ⟨rfl, rfl⟩ | a | a | a <;> (simp only [S_c_X12_posts, or_false] at q <;> omega)) (fun c k a q => by simp only [S_c_X11_posts, or_false] at q; omega) h7, trivial⟩
theorem sy_30 {v : Int32} {u : Int32} {t : Int32} {M M1 M2 : mM} {r1 r2 : Int32} (h : RY M.1) (hD0 : InvD M) (hD : InvD M1) (hD2 : InvD M2) (hF1 : FR S_c_X11_voice M M1) (hs1 : SP_X11_voice v u t M r1 M1) (hF2 : FR S_c_X12_voice M1 M2) (hs2 : SP_X12_voice v u t M1 r2 M2) : RY M2.1 ∧ r1 = r2 := by
  have hx := (st_30 h.1 hD0 hF1 hs1 hF2 hs2).1
  have s1 : cC S_c_X11_voice := fun c k q => by simp only [S_c_X11_voice, or_false] at q; omega
  have s2 : cD S_c_X12_voice := fun c k q => by simp only [S_c_X12_voice, or_false] at q; omega
  have c1 : ∀ (c : rf) (k : Nat), c.1 = 12 ∨ 50 ≤ c.1 → M1.1 c k = M.1 c k := fun c k a => hF1 c k (fun q => s1 c k q a)
  have c2 : ∀ (c : rf) (k : Nat), ¬ (c.1 = 12 ∨ 50 ≤ c.1) → M2.1 c k = M1.1 c k := fun c k a => hF2 c k (fun q => a (s2 c k q))
  have e50 : M1.1 (50, 0, 0) = M.1 (50, 0, 0) := funext fun k => c1 _ _ (by simp)
  have hR : RW 0 M.1 (M1.1 (50, 0, 0)) := by rw [e50]; exact h.2.2.1
  have hu : (M1.1 (12, 0, 0) 7).toInt = -1 := by rw [c1 _ _ (by simp)]; exact h.2.1
  have h7 : (M2.1 (12, 0, 0) 7).toInt = -1 := by rw [hF2 (12, 0, 0) 7 (fun q => by simp only [S_c_X12_voice, or_false] at q; omega)]; exact hu
  exact ⟨RY_fr h hF1 hF2 s1 s2 hx hD2.2.1 hD2.2.2.1 (fun c k a b q => by unfold wR at a; simp only [S_c_X11_voice, or_false] at q; omega) (fun c k a q => by rcases a with rfl | rfl | ⟨rfl, rfl⟩ | a | a | a <;> (simp only [S_c_X12_voice, or_false] at q <;> omega)) (fun c k a q => by simp only [S_c_X11_voice, or_false] at q; omega) h7, an_30 hs1 hs2 hR hD hu⟩
theorem sy_31 {v : Int32} {M M1 M2 : mM} {r1 r2 : Int32} (h : RY M.1) (hD0 : InvD M) (hD : InvD M1) (hD2 : InvD M2) (hF1 : FR S_c_X11_trace M M1) (hs1 : SP_X11_trace v M r1 M1) (hF2 : FR S_c_X12_trace M1 M2) (hs2 : SP_X12_trace v M1 r2 M2) : RY M2.1 ∧ True := by
  have hx := (st_31 h.1 hD0 hF1 hs1 hF2 hs2).1
  have s1 : cC S_c_X11_trace := fun c k q => by simp only [S_c_X11_trace, or_false] at q; omega
  have s2 : cD S_c_X12_trace := fun c k q => by simp only [S_c_X12_trace, or_false] at q; omega
  have c1 : ∀ (c : rf) (k : Nat), c.1 = 12 ∨ 50 ≤ c.1 → M1.1 c k = M.1 c k := fun c k a => hF1 c k (fun q => s1 c k q a)
  have c2 : ∀ (c : rf) (k : Nat), ¬ (c.1 = 12 ∨ 50 ≤ c.1) → M2.1 c k = M1.1 c k := fun c k a => hF2 c k (fun q => a (s2 c k q))
  have e50 : M1.1 (50, 0, 0) = M.1 (50, 0, 0) := funext fun k => c1 _ _ (by simp)
  have hR : RW 0 M.1 (M1.1 (50, 0, 0)) := by rw [e50]; exact h.2.2.1
  have hu : (M1.1 (12, 0, 0) 7).toInt = -1 := by rw [c1 _ _ (by simp)]; exact h.2.1
  have h7 : (M2.1 (12, 0, 0) 7).toInt = -1 := by rw [hF2 (12, 0, 0) 7 (fun q => by simp only [S_c_X12_trace, or_false] at q; omega)]; exact hu
  exact ⟨RY_fr h hF1 hF2 s1 s2 hx hD2.2.1 hD2.2.2.1 (fun c k a b q => by unfold wR at a; simp only [S_c_X11_trace, or_false] at q; omega) (fun c k a q => by rcases a with rfl | rfl | ⟨rfl, rfl⟩ | a | a | a <;> (simp only [S_c_X12_trace, or_false] at q <;> omega)) (fun c k a q => by simp only [S_c_X11_trace, or_false] at q; omega) h7, trivial⟩
theorem sy_32 {v : Int32} {u : Int32} {t : Int32} {M M1 M2 : mM} {r1 r2 : Int32} (h : RY M.1) (hD0 : InvD M) (hD : InvD M1) (hD2 : InvD M2) (hF1 : FR S_c_X11_sheet M M1) (hs1 : SP_X11_sheet v u t M r1 M1) (hF2 : FR S_c_X12_sheet M1 M2) (hs2 : SP_X12_sheet v u t M1 r2 M2) : RY M2.1 ∧ True := by
  have hx := (st_32 h.1 hD0 hF1 hs1 hF2 hs2).1
  have s1 : cC S_c_X11_sheet := fun c k q => by simp only [S_c_X11_sheet, or_false] at q; omega
  have s2 : cD S_c_X12_sheet := fun c k q => by simp only [S_c_X12_sheet, or_false] at q; omega
  have c1 : ∀ (c : rf) (k : Nat), c.1 = 12 ∨ 50 ≤ c.1 → M1.1 c k = M.1 c k := fun c k a => hF1 c k (fun q => s1 c k q a)
  have c2 : ∀ (c : rf) (k : Nat), ¬ (c.1 = 12 ∨ 50 ≤ c.1) → M2.1 c k = M1.1 c k := fun c k a => hF2 c k (fun q => a (s2 c k q))
  have e50 : M1.1 (50, 0, 0) = M.1 (50, 0, 0) := funext fun k => c1 _ _ (by simp)
  have hR : RW 0 M.1 (M1.1 (50, 0, 0)) := by rw [e50]; exact h.2.2.1
  have hu : (M1.1 (12, 0, 0) 7).toInt = -1 := by rw [c1 _ _ (by simp)]; exact h.2.1
  have h7 : (M2.1 (12, 0, 0) 7).toInt = -1 := by rw [hF2 (12, 0, 0) 7 (fun q => by simp only [S_c_X12_sheet, or_false] at q; omega)]; exact hu
  have e2 : M2.1 (50, 0, 0) = M.1 (50, 0, 0) := funext fun k => by rw [hF2 _ _ (fun q => by simp only [S_c_X12_sheet, or_false] at q; omega), c1 _ _ (by simp)]
  have hS : SHR M.1 M1.1 := SHR_keep h.2.2.2.2 (fun _ _ _ => rfl) (fun c k a => c1 c k (by omega))
  have hB : ∀ w, w < 4 → M1.1 (6, 0, w) 0 = M2.1 (66, 0, 0) w ∧ M1.1 (6, 0, w) 1 = M2.1 (67, 0, 0) w := fun w hw => ⟨by rw [← c2 _ _ (by simp)]; exact RXzg hx (Pz_6a hw) (by simp), by rw [← c2 _ _ (by simp)]; exact RXzg hx (Pz_6b hw) (by simp)⟩
  have sh := sh_32 hs1 hs2 hS hD hD2 hB
  refine ⟨RY_of h hF1 hF2 s1 s2 hx hD2.2.1 hD2.2.2.1 h7 ?_ (Or.inl ⟨hF2 _ _ (fun q => by simp only [S_c_X12_sheet, or_false] at q; omega), fun c k a b q => by unfold wR at a; simp only [S_c_X11_sheet, or_false] at q; omega, fun k q => by simp only [S_c_X12_sheet, or_false] at q; omega⟩) sh, trivial⟩
  rw [e2]
  exact RW_same h.2.2.1 hD0.2.1 (fun c k a b => hF1 c k (fun q => by unfold wR at a; simp only [S_c_X11_sheet, or_false] at q; omega))
theorem sy_33 {v : Int32} {u : Int32} {t : Int32} {M M1 M2 : mM} {r1 r2 : Int32} (h : RY M.1) (hD0 : InvD M) (hD : InvD M1) (hD2 : InvD M2) (hF1 : FR S_c_X11_put M M1) (hs1 : SP_X11_put v u t M r1 M1) (hF2 : FR S_c_X12_put M1 M2) (hs2 : SP_X12_put v u t M1 r2 M2) : RY M2.1 ∧ True := by
  have hx := (st_33 h.1 hD0 hF1 hs1 hF2 hs2).1
  have s1 : cC S_c_X11_put := fun c k q => by simp only [S_c_X11_put, or_false] at q; omega
  have s2 : cD S_c_X12_put := fun c k q => by simp only [S_c_X12_put, or_false] at q; omega
  have c1 : ∀ (c : rf) (k : Nat), c.1 = 12 ∨ 50 ≤ c.1 → M1.1 c k = M.1 c k := fun c k a => hF1 c k (fun q => s1 c k q a)
  have c2 : ∀ (c : rf) (k : Nat), ¬ (c.1 = 12 ∨ 50 ≤ c.1) → M2.1 c k = M1.1 c k := fun c k a => hF2 c k (fun q => a (s2 c k q))
  have e50 : M1.1 (50, 0, 0) = M.1 (50, 0, 0) := funext fun k => c1 _ _ (by simp)
  have hR : RW 0 M.1 (M1.1 (50, 0, 0)) := by rw [e50]; exact h.2.2.1
  have hu : (M1.1 (12, 0, 0) 7).toInt = -1 := by rw [c1 _ _ (by simp)]; exact h.2.1
  have h7 : (M2.1 (12, 0, 0) 7).toInt = -1 := by rw [hF2 (12, 0, 0) 7 (fun q => by simp only [S_c_X12_put, or_false] at q; omega)]; exact hu
  have e2 : M2.1 (50, 0, 0) = M.1 (50, 0, 0) := funext fun k => by rw [hF2 _ _ (fun q => by simp only [S_c_X12_put, or_false] at q; omega), c1 _ _ (by simp)]
  have hS : SHR M.1 M1.1 := SHR_keep h.2.2.2.2 (fun _ _ _ => rfl) (fun c k a => c1 c k (by omega))
  have sh := sh_33 hs1 hs2 hS hD
  refine ⟨RY_of h hF1 hF2 s1 s2 hx hD2.2.1 hD2.2.2.1 h7 ?_ (Or.inl ⟨hF2 _ _ (fun q => by simp only [S_c_X12_put, or_false] at q; omega), fun c k a b q => by unfold wR at a; simp only [S_c_X11_put, or_false] at q; omega, fun k q => by simp only [S_c_X12_put, or_false] at q; omega⟩) sh, trivial⟩
  rw [e2]
  exact RW_same h.2.2.1 hD0.2.1 (fun c k a b => hF1 c k (fun q => by unfold wR at a; simp only [S_c_X11_put, or_false] at q; omega))
theorem sy_34 {v : Int32} {u : Int32} {t : Int32} {s : Int32} {q : Int32} {M M1 M2 : mM} {r1 r2 : Int32} (h : RY M.1) (hD0 : InvD M) (hD : InvD M1) (hD2 : InvD M2) (hF1 : FR S_c_X11_move M M1) (hs1 : SP_X11_move v u t s q M r1 M1) (hF2 : FR S_c_X12_move M1 M2) (hs2 : SP_X12_move v u t s q M1 r2 M2) : RY M2.1 ∧ True := by
  have hx := (st_34 h.1 hD0 hF1 hs1 hF2 hs2).1
  have s1 : cC S_c_X11_move := fun c k q => by simp only [S_c_X11_move, or_false] at q; omega
  have s2 : cD S_c_X12_move := fun c k q => by simp only [S_c_X12_move, or_false] at q; omega
  have c1 : ∀ (c : rf) (k : Nat), c.1 = 12 ∨ 50 ≤ c.1 → M1.1 c k = M.1 c k := fun c k a => hF1 c k (fun q => s1 c k q a)
  have c2 : ∀ (c : rf) (k : Nat), ¬ (c.1 = 12 ∨ 50 ≤ c.1) → M2.1 c k = M1.1 c k := fun c k a => hF2 c k (fun q => a (s2 c k q))
  have e50 : M1.1 (50, 0, 0) = M.1 (50, 0, 0) := funext fun k => c1 _ _ (by simp)
  have hR : RW 0 M.1 (M1.1 (50, 0, 0)) := by rw [e50]; exact h.2.2.1
  have hu : (M1.1 (12, 0, 0) 7).toInt = -1 := by rw [c1 _ _ (by simp)]; exact h.2.1
  have h7 : (M2.1 (12, 0, 0) 7).toInt = -1 := by rw [hF2 (12, 0, 0) 7 (fun q => by simp only [S_c_X12_move, or_false] at q; omega)]; exact hu
  have e2 : M2.1 (50, 0, 0) = M.1 (50, 0, 0) := funext fun k => by rw [hF2 _ _ (fun q => by simp only [S_c_X12_move, or_false] at q; omega), c1 _ _ (by simp)]
  have hS : SHR M.1 M1.1 := SHR_keep h.2.2.2.2 (fun _ _ _ => rfl) (fun c k a => c1 c k (by omega))
  have sh := sh_34 hs1 hs2 hS hD
  refine ⟨RY_of h hF1 hF2 s1 s2 hx hD2.2.1 hD2.2.2.1 h7 ?_ (Or.inl ⟨hF2 _ _ (fun q => by simp only [S_c_X12_move, or_false] at q; omega), fun c k a b q => by unfold wR at a; simp only [S_c_X11_move, or_false] at q; omega, fun k q => by simp only [S_c_X12_move, or_false] at q; omega⟩) sh, trivial⟩
  rw [e2]
  exact RW_same h.2.2.1 hD0.2.1 (fun c k a b => hF1 c k (fun q => by unfold wR at a; simp only [S_c_X11_move, or_false] at q; omega))
theorem sy_35 {M M1 M2 : mM} {r1 r2 : Int32} (h : RY M.1) (hD0 : InvD M) (hD : InvD M1) (hD2 : InvD M2) (hF1 : FR S_c_X11_image M M1) (hs1 : SP_X11_image M r1 M1) (hF2 : FR S_c_X12_image M1 M2) (hs2 : SP_X12_image M1 r2 M2) : RY M2.1 ∧ r1 = r2 := by
  have hx := (st_35 h.1 hD0 hF1 hs1 hF2 hs2).1
  have s1 : cC S_c_X11_image := fun c k q => by simp only [S_c_X11_image, or_false] at q; omega
  have s2 : cD S_c_X12_image := fun c k q => by simp only [S_c_X12_image, or_false] at q; omega
  have c1 : ∀ (c : rf) (k : Nat), c.1 = 12 ∨ 50 ≤ c.1 → M1.1 c k = M.1 c k := fun c k a => hF1 c k (fun q => s1 c k q a)
  have c2 : ∀ (c : rf) (k : Nat), ¬ (c.1 = 12 ∨ 50 ≤ c.1) → M2.1 c k = M1.1 c k := fun c k a => hF2 c k (fun q => a (s2 c k q))
  have e50 : M1.1 (50, 0, 0) = M.1 (50, 0, 0) := funext fun k => c1 _ _ (by simp)
  have hR : RW 0 M.1 (M1.1 (50, 0, 0)) := by rw [e50]; exact h.2.2.1
  have hu : (M1.1 (12, 0, 0) 7).toInt = -1 := by rw [c1 _ _ (by simp)]; exact h.2.1
  have h7 : (M2.1 (12, 0, 0) 7).toInt = -1 := by rw [hF2 (12, 0, 0) 7 (fun q => by simp only [S_c_X12_image, or_false] at q; omega)]; exact hu
  have B := cb_35 hs1 hs2 hR hD (show M.1 (5, 0, 0) 1 = M1.1 (50, 0, 0) 4 from ((RXzg h.1 (d := (50, 0, 0)) (j := 4) (by unfold PRz; simp) (by simp)).trans (c1 _ _ (by simp)).symm)) (show M.1 (5, 0, 1) 1 = M1.1 (50, 0, 0) 5 from ((RXzg h.1 (d := (50, 0, 0)) (j := 5) (by unfold PRz; simp) (by simp)).trans (c1 _ _ (by simp)).symm)) (show M.1 (11, 0, 0) 8 = M1.1 (12, 0, 0) 3 from (RXzg h.1 (d := (12, 0, 0)) (j := 3) (by unfold PRz; simp) (by simp)).trans (c1 _ _ (by simp)).symm)
  exact ⟨RY_of h hF1 hF2 s1 s2 hx hD2.2.1 hD2.2.2.1 h7 B.1 (Or.inr (fun _ => B.2.1)) (SHR_keep h.2.2.2.2 (fun c k a => hF1 c k (fun q => by simp only [S_c_X11_image, or_false] at q; omega)) (fun c k a => by rw [hF2 c k (fun q => by simp only [S_c_X12_image, or_false] at q; omega), c1 c k (by omega)])), B.2.2⟩
theorem sy_36 {M M1 M2 : mM} {r1 r2 : Int32} (h : RY M.1) (hD0 : InvD M) (hD : InvD M1) (hD2 : InvD M2) (hF1 : FR S_c_X11_restore M M1) (hs1 : SP_X11_restore M r1 M1) (hF2 : FR S_c_X12_restore M1 M2) (hs2 : SP_X12_restore M1 r2 M2) : RY M2.1 ∧ r1 = r2 := by
  have hx := (st_36 h.1 hD0 hF1 hs1 hF2 hs2).1
  have s1 : cC S_c_X11_restore := fun c k q => by simp only [S_c_X11_restore, or_false] at q; omega
  have s2 : cD S_c_X12_restore := fun c k q => by simp only [S_c_X12_restore, or_false] at q; omega
  have c1 : ∀ (c : rf) (k : Nat), c.1 = 12 ∨ 50 ≤ c.1 → M1.1 c k = M.1 c k := fun c k a => hF1 c k (fun q => s1 c k q a)
  have c2 : ∀ (c : rf) (k : Nat), ¬ (c.1 = 12 ∨ 50 ≤ c.1) → M2.1 c k = M1.1 c k := fun c k a => hF2 c k (fun q => a (s2 c k q))
  have e50 : M1.1 (50, 0, 0) = M.1 (50, 0, 0) := funext fun k => c1 _ _ (by simp)
  have hR : RW 0 M.1 (M1.1 (50, 0, 0)) := by rw [e50]; exact h.2.2.1
  have hu : (M1.1 (12, 0, 0) 7).toInt = -1 := by rw [c1 _ _ (by simp)]; exact h.2.1
  have h7 : (M2.1 (12, 0, 0) 7).toInt = -1 := by rw [hF2 (12, 0, 0) 7 (fun q => by simp only [S_c_X12_restore, or_false] at q; omega)]; exact hu
  have e51 : M1.1 (51, 0, 0) = M.1 (51, 0, 0) := funext fun k => c1 _ _ (by simp)
  have hI : ¬ (M1.1 (12, 0, 0) 3).toInt = 0 → RW 1 M.1 (M1.1 (51, 0, 0)) ∧ M.1 (5, 1, 0) 1 = M1.1 (51, 0, 0) 4 ∧ M.1 (5, 1, 1) 1 = M1.1 (51, 0, 0) 5 := fun q => by
    rw [c1 (12, 0, 0) 3 (by simp)] at q
    rw [e51]
    exact ⟨h.2.2.2.1 q, h.1 _ _ _ _ (by unfold PRz; simp) (fun _ => q), h.1 _ _ _ _ (by unfold PRz; simp) (fun _ => q)⟩
  have B := cb_36 hs1 hs2 hR hD (show M.1 (11, 0, 0) 8 = M1.1 (12, 0, 0) 3 from (RXzg h.1 (d := (12, 0, 0)) (j := 3) (by unfold PRz; simp) (by simp)).trans (c1 _ _ (by simp)).symm) hI
  have i3 : M2.1 (12, 0, 0) 3 = M1.1 (12, 0, 0) 3 := hF2 _ _ (fun q => by simp only [S_c_X12_restore, or_false] at q; omega)
  exact ⟨RY_of h hF1 hF2 s1 s2 hx hD2.2.1 hD2.2.2.1 h7 B.1 (Or.inr (fun q => B.2.1 (by rw [← i3]; exact q))) (SHR_keep h.2.2.2.2 (fun c k a => hF1 c k (fun q => by simp only [S_c_X11_restore, or_false] at q; omega)) (fun c k a => by rw [hF2 c k (fun q => by simp only [S_c_X12_restore, or_false] at q; omega), c1 c k (by omega)])), B.2.2⟩
theorem sy_37 {v : Int32} {M M1 M2 : mM} {r1 r2 : Int32} (h : RY M.1) (hD0 : InvD M) (hD : InvD M1) (hD2 : InvD M2) (hF1 : FR S_c_X11_tell M M1) (hs1 : SP_X11_tell v M r1 M1) (hF2 : FR S_c_X12_tell M1 M2) (hs2 : SP_X12_tell v M1 r2 M2) : RY M2.1 ∧ r1 = r2 := by
  have hx := (st_37 h.1 hD0 hF1 hs1 hF2 hs2).1
  have s1 : cC S_c_X11_tell := fun c k q => by simp only [S_c_X11_tell, or_false] at q; omega
  have s2 : cD S_c_X12_tell := fun c k q => by simp only [S_c_X12_tell, or_false] at q; omega
  have c1 : ∀ (c : rf) (k : Nat), c.1 = 12 ∨ 50 ≤ c.1 → M1.1 c k = M.1 c k := fun c k a => hF1 c k (fun q => s1 c k q a)
  have c2 : ∀ (c : rf) (k : Nat), ¬ (c.1 = 12 ∨ 50 ≤ c.1) → M2.1 c k = M1.1 c k := fun c k a => hF2 c k (fun q => a (s2 c k q))
  have e50 : M1.1 (50, 0, 0) = M.1 (50, 0, 0) := funext fun k => c1 _ _ (by simp)
  have hR : RW 0 M.1 (M1.1 (50, 0, 0)) := by rw [e50]; exact h.2.2.1
  have hu : (M1.1 (12, 0, 0) 7).toInt = -1 := by rw [c1 _ _ (by simp)]; exact h.2.1
  have h7 : (M2.1 (12, 0, 0) 7).toInt = -1 := by rw [hF2 (12, 0, 0) 7 (fun q => by simp only [S_c_X12_tell, or_false] at q; omega)]; exact hu
  have B := cb_37 hs1 hs2 hR hD hu (show M.1 (5, 0, 1) 1 = M1.1 (50, 0, 0) 5 from ((RXzg h.1 (d := (50, 0, 0)) (j := 5) (by unfold PRz; simp) (by simp)).trans (c1 _ _ (by simp)).symm))
  exact ⟨RY_of h hF1 hF2 s1 s2 hx hD2.2.1 hD2.2.2.1 h7 B.1 (Or.inl ⟨hF2 _ _ (fun q => by simp only [S_c_X12_tell, or_false] at q; omega), fun c k a b q => by unfold wR at a; simp only [S_c_X11_tell, or_false] at q; omega, fun k q => by simp only [S_c_X12_tell, or_false] at q; omega⟩) (SHR_keep h.2.2.2.2 (fun c k a => hF1 c k (fun q => by simp only [S_c_X11_tell, or_false] at q; omega)) (fun c k a => by rw [hF2 c k (fun q => by simp only [S_c_X12_tell, or_false] at q; omega), c1 c k (by omega)])), B.2⟩
theorem sy_38 {v : Int32} {M M1 M2 : mM} {r1 r2 : Int32} (h : RY M.1) (hD0 : InvD M) (hD : InvD M1) (hD2 : InvD M2) (hF1 : FR S_c_X11_check M M1) (hs1 : SP_X11_check v M r1 M1) (hF2 : FR S_c_X12_check M1 M2) (hs2 : SP_X12_check v M1 r2 M2) : RY M2.1 ∧ r1 = r2 := by
  have hx := (st_38 h.1 hD0 hF1 hs1 hF2 hs2).1
  have s1 : cC S_c_X11_check := fun c k q => by simp only [S_c_X11_check, or_false] at q; omega
  have s2 : cD S_c_X12_check := fun c k q => by simp only [S_c_X12_check, or_false] at q; omega
  have c1 : ∀ (c : rf) (k : Nat), c.1 = 12 ∨ 50 ≤ c.1 → M1.1 c k = M.1 c k := fun c k a => hF1 c k (fun q => s1 c k q a)
  have c2 : ∀ (c : rf) (k : Nat), ¬ (c.1 = 12 ∨ 50 ≤ c.1) → M2.1 c k = M1.1 c k := fun c k a => hF2 c k (fun q => a (s2 c k q))
  have e50 : M1.1 (50, 0, 0) = M.1 (50, 0, 0) := funext fun k => c1 _ _ (by simp)
  have hR : RW 0 M.1 (M1.1 (50, 0, 0)) := by rw [e50]; exact h.2.2.1
  have hu : (M1.1 (12, 0, 0) 7).toInt = -1 := by rw [c1 _ _ (by simp)]; exact h.2.1
  have h7 : (M2.1 (12, 0, 0) 7).toInt = -1 := by rw [hF2 (12, 0, 0) 7 (fun q => by simp only [S_c_X12_check, or_false] at q; omega)]; exact hu
  have B := cb_38 hs1 hs2 hR hD hu (show M.1 (5, 0, 0) 1 = M1.1 (50, 0, 0) 4 from ((RXzg h.1 (d := (50, 0, 0)) (j := 4) (by unfold PRz; simp) (by simp)).trans (c1 _ _ (by simp)).symm)) (show M.1 (5, 0, 1) 1 = M1.1 (50, 0, 0) 5 from ((RXzg h.1 (d := (50, 0, 0)) (j := 5) (by unfold PRz; simp) (by simp)).trans (c1 _ _ (by simp)).symm))
  exact ⟨RY_of h hF1 hF2 s1 s2 hx hD2.2.1 hD2.2.2.1 h7 B.1 (Or.inl ⟨hF2 _ _ (fun q => by simp only [S_c_X12_check, or_false] at q; omega), fun c k a b q => by unfold wR at a; simp only [S_c_X11_check, or_false] at q; omega, fun k q => by simp only [S_c_X12_check, or_false] at q; omega⟩) (SHR_keep h.2.2.2.2 (fun c k a => hF1 c k (fun q => by simp only [S_c_X11_check, or_false] at q; omega)) (fun c k a => by rw [hF2 c k (fun q => by simp only [S_c_X12_check, or_false] at q; omega), c1 c k (by omega)])), B.2⟩
theorem sy_39 {v : Int32} {M M1 M2 : mM} {r1 r2 : Int32} (h : RY M.1) (hD0 : InvD M) (hD : InvD M1) (hD2 : InvD M2) (hF1 : FR S_c_X11_count M M1) (hs1 : SP_X11_count v M r1 M1) (hF2 : FR S_c_X12_count M1 M2) (hs2 : SP_X12_count v M1 r2 M2) : RY M2.1 ∧ True := by
  have hx := (st_39 h.1 hD0 hF1 hs1 hF2 hs2).1
  have s1 : cC S_c_X11_count := fun c k q => by simp only [S_c_X11_count, or_false] at q; omega
  have s2 : cD S_c_X12_count := fun c k q => by simp only [S_c_X12_count, or_false] at q; omega
  have c1 : ∀ (c : rf) (k : Nat), c.1 = 12 ∨ 50 ≤ c.1 → M1.1 c k = M.1 c k := fun c k a => hF1 c k (fun q => s1 c k q a)
  have c2 : ∀ (c : rf) (k : Nat), ¬ (c.1 = 12 ∨ 50 ≤ c.1) → M2.1 c k = M1.1 c k := fun c k a => hF2 c k (fun q => a (s2 c k q))
  have e50 : M1.1 (50, 0, 0) = M.1 (50, 0, 0) := funext fun k => c1 _ _ (by simp)
  have hR : RW 0 M.1 (M1.1 (50, 0, 0)) := by rw [e50]; exact h.2.2.1
  have hu : (M1.1 (12, 0, 0) 7).toInt = -1 := by rw [c1 _ _ (by simp)]; exact h.2.1
  have h7 : (M2.1 (12, 0, 0) 7).toInt = -1 := by rw [hF2 (12, 0, 0) 7 (fun q => by simp only [S_c_X12_count, or_false] at q; omega)]; exact hu
  exact ⟨RY_fr h hF1 hF2 s1 s2 hx hD2.2.1 hD2.2.2.1 (fun c k a b q => by unfold wR at a; simp only [S_c_X11_count, or_false] at q; omega) (fun c k a q => by rcases a with rfl | rfl | ⟨rfl, rfl⟩ | a | a | a <;> (simp only [S_c_X12_count, or_false] at q <;> omega)) (fun c k a q => by simp only [S_c_X11_count, or_false] at q; omega) h7, trivial⟩
theorem sy_40 {v : Int32} {M M1 M2 : mM} {r1 r2 : Int32} (h : RY M.1) (hD0 : InvD M) (hD : InvD M1) (hD2 : InvD M2) (hF1 : FR S_c_X11_told M M1) (hs1 : SP_X11_told v M r1 M1) (hF2 : FR S_c_X12_told M1 M2) (hs2 : SP_X12_told v M1 r2 M2) : RY M2.1 ∧ True := by
  have hx := (st_40 h.1 hD0 hF1 hs1 hF2 hs2).1
  have s1 : cC S_c_X11_told := fun c k q => by simp only [S_c_X11_told, or_false] at q; omega
  have s2 : cD S_c_X12_told := fun c k q => by simp only [S_c_X12_told, or_false] at q; omega
  have c1 : ∀ (c : rf) (k : Nat), c.1 = 12 ∨ 50 ≤ c.1 → M1.1 c k = M.1 c k := fun c k a => hF1 c k (fun q => s1 c k q a)
  have c2 : ∀ (c : rf) (k : Nat), ¬ (c.1 = 12 ∨ 50 ≤ c.1) → M2.1 c k = M1.1 c k := fun c k a => hF2 c k (fun q => a (s2 c k q))
  have e50 : M1.1 (50, 0, 0) = M.1 (50, 0, 0) := funext fun k => c1 _ _ (by simp)
  have hR : RW 0 M.1 (M1.1 (50, 0, 0)) := by rw [e50]; exact h.2.2.1
  have hu : (M1.1 (12, 0, 0) 7).toInt = -1 := by rw [c1 _ _ (by simp)]; exact h.2.1
  have h7 : (M2.1 (12, 0, 0) 7).toInt = -1 := by rw [hF2 (12, 0, 0) 7 (fun q => by simp only [S_c_X12_told, or_false] at q; omega)]; exact hu
  exact ⟨RY_fr h hF1 hF2 s1 s2 hx hD2.2.1 hD2.2.2.1 (fun c k a b q => by unfold wR at a; simp only [S_c_X11_told, or_false] at q; omega) (fun c k a q => by rcases a with rfl | rfl | ⟨rfl, rfl⟩ | a | a | a <;> (simp only [S_c_X12_told, or_false] at q <;> omega)) (fun c k a q => by simp only [S_c_X11_told, or_false] at q; omega) h7, trivial⟩
end
