/-! one -/
theorem PRX_pre {e : Int} {C C' C2 D D' D2 : mM} (h : PRX e C' C2 D' D2) (h9 : (D.1 (12, 0, 0) 9).toInt ≤ (D'.1 (12, 0, 0) 9).toInt) : PRX e C C2 D D2 := ⟨h.1, Int.le_trans h9 h.2⟩
theorem one_start {e : Int} {C M5 D M2 : mM} {r r1 : Int32} {s : Int} {W : Nat} {a T : Int} (hT : TPE C D) (k : POK e C D) (h1 : SP_X4_next C r M5) (h2 : SP_X12_here s W a T D r1 M2) : r = r1 ∧ TPE M5 M2 ∧ POK e M5 M2 ∧ (D.1 (12, 0, 0) 9).toInt ≤ (M2.1 (12, 0, 0) 9).toInt ∧ (0 ≤ r1.toInt → (M2.1 (12, 0, 0) 9).toInt < (M2.1 (50, 0, 0) 4).toInt ∧ (M2.1 (50, 0, 0) (273 + (M2.1 (12, 0, 0) 9).toInt.toNat)).toInt = r1.toInt) := by
  obtain ⟨k1, k2, k3, k4, k5, k6, k7, k8, k9, k10⟩ := k
  have nx := x4next h1 hT (by omega)
  rw [k3] at nx
  obtain ⟨n1, n2, n3⟩ := nx
  rcases x12here h2 k4 with g | ⟨-, g1, g2, g3⟩
  · exact absurd k2 g.1
  · have u := nxT_uniq k4.1 n1 g1
    have g11 := g1.1
    refine ⟨i32e u.2, TPE_kc hT (fun c k q => n3 c k (fun z => q ⟨z.1, by omega⟩)) (fun c k q => g3 c k (fun z => q ⟨z.1, by omega⟩)), ?_, g1.1, fun q => ?_⟩
    · unfold POK
      rw [n3 (4, 0, 0) 4 (by simp), n3 (4, 0, 0) 6 (by simp), n3 (1, 3, 0) 2 (by simp), n3 (4, 0, 0) 5 (by simp), g3 (12, 0, 0) 13 (by simp), g3 (12, 0, 0) 12 (by simp), g3 (12, 0, 0) 14 (by simp), g3 (12, 0, 0) 11 (by simp), g3 (12, 0, 0) 10 (by simp), g3 (50, 0, 0) 4 (by simp)]
      refine ⟨k1, k2, u.1, by omega, k5, k6, k7, by omega, k9, fun i hi => ?_⟩
      rw [n3 _ _ (by simp), g3 _ _ (by simp)]
      exact k10 i hi
    · rw [g3 (50, 0, 0) 4 (by simp), g3 (50, 0, 0) _ (by simp)]
      rcases g1.2.2 with z | z
      · exact ⟨z.1, z.2.1.symm⟩
      · omega
/-- a name on both sides -/
theorem name_both {v : Int32} {C C2 D : mM} (h1 : SP_X4_readName v C C2) (hT : TPE C D) {P : Prop}
    (hbad : SP_X4_fail C C2 → ((v.toInt < 0 ∨ 127 < v.toInt) ∨ ∀ j : Nat, j < nnU (D.1 (12, 0, 0) 10).toInt.toNat → ¬ (nmL (D.1 (12, 0, 0) 10).toInt.toNat j).toInt = v.toInt) → P)
    (hgood : ∀ z : Int32, 0 ≤ z.toInt → z.toInt < (nnU (D.1 (12, 0, 0) 10).toInt.toNat : Int) → (nmL (D.1 (12, 0, 0) 10).toInt.toNat z.toInt.toNat).toInt = v.toInt → NAg z C C2 → P) : P := by
  rcases name_c (u := (D.1 (12, 0, 0) 10).toInt.toNat) h1 (by have := hT.2.2.2; omega) with g | ⟨-, z, g1, g2⟩
  · exact hbad g.2 g.1
  · exact hgood z g1.1 g1.2.1 g1.2.2 g2
theorem one_both {N N2 m : Nat} {QA QB QA2 QB2 : mM → mM → Prop} (hA : BOTH QA QA2) (hB : BOTH QB QB2) : BOTH (SP_X4_readOne N m QA QB) (fun D D2 => ∃ (s : Int) (W : Nat) (a T : Int), SP_X12_one N2 m QA2 QB2 s W a T D D2) := by
  intro e C C2 D D2 he h h1 h2 hf hg
  obtain ⟨s, W, a, T, h2⟩ := h2
  have q0 := il_0
  have q1 := il_1
  have T0 := h.1
  have ab := PRL_at h
  have T2 := TPE_fr T0 hf hg
  rcases h.2 with k | k
  · have k4 := k.1
    refine xE_SP_X4_readOne h1 (fun c_z1_ c_e2_ => ⟨(fun c_h3_ c_M5_ _ c_hF9_ c_r4_ c_hs11_ => ⟨(fun c_h15_ => ⟨(fun c_h16_ c_M17_ _ c_hF21_ c_hs23_ c_h19_ c_hM_ => ?_), (fun c_h16_ => ⟨(fun c_h26_ c_M27_ _ c_hF31_ c_hs33_ c_h29_ c_hM_ => ?_), (fun c_h26_ c_h36_ c_M37_ _ c_hF41_ c_hs43_ c_hM_ => ?_)⟩)⟩), (fun c_h15_ => ⟨(fun c_h47_ c_h48_ c_h49_ => ⟨(fun c_h50_ c_M51_ _ c_hF55_ c_hs57_ c_hM_ => ?_), (fun c_h50_ c_M61_ _ c_hF65_ c_hs67_ c_h63_ c_hM_ => ?_)⟩), (fun c_h47_ c_M70_ _ c_hF74_ c_hs76_ c_hM_ => ?_)⟩)⟩), (fun c_h3_ c_hM_ => ?_)⟩)
    · refine xE_SP_X12_one h2 (fun d_M2_ _ d_hF6_ d_r1_ d_hs8_ d_h11_ => ⟨(fun d_h12_ d_M17_ _ d_hF21_ d_hs23_ d_h24_ d_hM_ => ?_), (fun d_h12_ => ⟨(fun d_h26_ d_M31_ _ d_hF35_ d_hs37_ d_h38_ d_hM_ => ?_), (fun d_h26_ => ⟨(fun d_h40_ => ⟨(fun d_hs45_ d_h44_ d_v3_46 d_hv0_46 d_v2_46 d_hv1_46 d_M_46 d_hv2_46 d_hL_46 _ d_hF_46 => ⟨(fun d_h49_ d_h50_ d_M52_ _ d_hF56_ d_hs58_ d_h54_ d_z60_ d_e61_ d_z62_ d_h63_ d_M64_ d_hM65_ d_hM_ => ?_), (fun d_h49_ d_z70_ d_e71_ d_h72_ d_z73_ d_e74_ d_h75_ => ⟨(fun d_h76_ d_h77_ d_M79_ _ d_hF83_ d_hs85_ d_h81_ d_z87_ d_e88_ d_z89_ d_h90_ d_M91_ d_hM92_ d_hM_ => ?_), (fun d_h76_ d_z99_ d_h100_ d_j103_ d_h104_ d_z101_ d_e102_ d_hs109_ d_h108_ d_h139_ d_M141_ _ d_hF145_ d_hs147_ d_h143_ d_z149_ d_e150_ d_z151_ d_h152_ d_M153_ d_hM154_ d_hM_ => ?_)⟩)⟩), (fun d_hs45_ d_h44_ => ⟨(fun d_h160_ d_r165_ d_hs169_ d_h168_ d_z170_ d_e171_ d_h172_ d_h173_ => ⟨(fun d_h174_ d_M175_ d_hM176_ d_h182_ d_z185_ d_e186_ d_h187_ d_h188_ d_h189_ d_h190_ d_hM_ => ?_), (fun d_h174_ => ⟨(fun d_h191_ d_M192_ d_hM193_ d_z202_ d_e203_ d_h204_ d_h205_ d_h206_ d_h207_ d_z208_ d_h209_ _ d_M210_ _ d_hF214_ d_hs216_ d_z222_ d_e223_ d_z224_ d_h225_ d_M226_ d_hM227_ d_z236_ d_e237_ d_h238_ d_h239_ d_h240_ d_z241_ d_h242_ d_M243_ d_hM244_ d_h250_ d_hM_ => ?_), (fun d_h191_ d_M251_ d_hM252_ d_h258_ d_z261_ d_e262_ d_h263_ d_h264_ d_h265_ d_h266_ d_hM_ => ?_)⟩)⟩), (fun d_h160_ d_z267_ d_e268_ d_h269_ => ⟨(fun d_h270_ d_M271_ d_hM272_ d_h276_ d_z279_ d_e280_ d_h281_ d_h282_ d_h283_ d_h284_ d_hM_ => ?_), (fun d_h270_ d_M286_ d_hM287_ d_h291_ d_z294_ d_e295_ d_h296_ d_h297_ d_h298_ d_h299_ d_hM_ => ?_)⟩)⟩)⟩), (fun d_h40_ d_M304_ _ d_hF308_ d_hs310_ d_h311_ d_hM_ => ?_)⟩)⟩)⟩)
      · obtain ⟨rfl, s1, s2, s3, s4⟩ := one_start T0 k c_hs11_ d_hs8_
        rw [c_hM_, d_hM_]
        exact PRX_pre (opened_both hA hB c_hs23_ d_hs23_ s1 s2 he (s4 (by omega)).1) s3
      · obtain ⟨rfl, s1, s2, s3, s4⟩ := one_start T0 k c_hs11_ d_hs8_
        omega
      · obtain ⟨rfl, s1, s2, s3, s4⟩ := one_start T0 k c_hs11_ d_hs8_
        omega
      · obtain ⟨rfl, s1, s2, s3, s4⟩ := one_start T0 k c_hs11_ d_hs8_
        omega
      · obtain ⟨rfl, s1, s2, s3, s4⟩ := one_start T0 k c_hs11_ d_hs8_
        omega
      · obtain ⟨rfl, s1, s2, s3, s4⟩ := one_start T0 k c_hs11_ d_hs8_
        have := eT d_h173_
        omega
      · obtain ⟨rfl, s1, s2, s3, s4⟩ := one_start T0 k c_hs11_ d_hs8_
        omega
      · obtain ⟨rfl, s1, s2, s3, s4⟩ := one_start T0 k c_hs11_ d_hs8_
        omega
      · obtain ⟨rfl, s1, s2, s3, s4⟩ := one_start T0 k c_hs11_ d_hs8_
        have := eT d_e268_
        have := s2.2.1
        omega
      · obtain ⟨rfl, s1, s2, s3, s4⟩ := one_start T0 k c_hs11_ d_hs8_
        omega
      · obtain ⟨rfl, s1, s2, s3, s4⟩ := one_start T0 k c_hs11_ d_hs8_
        omega
    · refine xE_SP_X12_one h2 (fun d_M2_ _ d_hF6_ d_r1_ d_hs8_ d_h11_ => ⟨(fun d_h12_ d_M17_ _ d_hF21_ d_hs23_ d_h24_ d_hM_ => ?_), (fun d_h12_ => ⟨(fun d_h26_ d_M31_ _ d_hF35_ d_hs37_ d_h38_ d_hM_ => ?_), (fun d_h26_ => ⟨(fun d_h40_ => ⟨(fun d_hs45_ d_h44_ d_v3_46 d_hv0_46 d_v2_46 d_hv1_46 d_M_46 d_hv2_46 d_hL_46 _ d_hF_46 => ⟨(fun d_h49_ d_h50_ d_M52_ _ d_hF56_ d_hs58_ d_h54_ d_z60_ d_e61_ d_z62_ d_h63_ d_M64_ d_hM65_ d_hM_ => ?_), (fun d_h49_ d_z70_ d_e71_ d_h72_ d_z73_ d_e74_ d_h75_ => ⟨(fun d_h76_ d_h77_ d_M79_ _ d_hF83_ d_hs85_ d_h81_ d_z87_ d_e88_ d_z89_ d_h90_ d_M91_ d_hM92_ d_hM_ => ?_), (fun d_h76_ d_z99_ d_h100_ d_j103_ d_h104_ d_z101_ d_e102_ d_hs109_ d_h108_ d_h139_ d_M141_ _ d_hF145_ d_hs147_ d_h143_ d_z149_ d_e150_ d_z151_ d_h152_ d_M153_ d_hM154_ d_hM_ => ?_)⟩)⟩), (fun d_hs45_ d_h44_ => ⟨(fun d_h160_ d_r165_ d_hs169_ d_h168_ d_z170_ d_e171_ d_h172_ d_h173_ => ⟨(fun d_h174_ d_M175_ d_hM176_ d_h182_ d_z185_ d_e186_ d_h187_ d_h188_ d_h189_ d_h190_ d_hM_ => ?_), (fun d_h174_ => ⟨(fun d_h191_ d_M192_ d_hM193_ d_z202_ d_e203_ d_h204_ d_h205_ d_h206_ d_h207_ d_z208_ d_h209_ _ d_M210_ _ d_hF214_ d_hs216_ d_z222_ d_e223_ d_z224_ d_h225_ d_M226_ d_hM227_ d_z236_ d_e237_ d_h238_ d_h239_ d_h240_ d_z241_ d_h242_ d_M243_ d_hM244_ d_h250_ d_hM_ => ?_), (fun d_h191_ d_M251_ d_hM252_ d_h258_ d_z261_ d_e262_ d_h263_ d_h264_ d_h265_ d_h266_ d_hM_ => ?_)⟩)⟩), (fun d_h160_ d_z267_ d_e268_ d_h269_ => ⟨(fun d_h270_ d_M271_ d_hM272_ d_h276_ d_z279_ d_e280_ d_h281_ d_h282_ d_h283_ d_h284_ d_hM_ => ?_), (fun d_h270_ d_M286_ d_hM287_ d_h291_ d_z294_ d_e295_ d_h296_ d_h297_ d_h298_ d_h299_ d_hM_ => ?_)⟩)⟩)⟩), (fun d_h40_ d_M304_ _ d_hF308_ d_hs310_ d_h311_ d_hM_ => ?_)⟩)⟩)⟩)
      · obtain ⟨rfl, s1, s2, s3, s4⟩ := one_start T0 k c_hs11_ d_hs8_
        omega
      · obtain ⟨rfl, s1, s2, s3, s4⟩ := one_start T0 k c_hs11_ d_hs8_
        rw [c_hM_, d_hM_]
        exact PRX_pre (opened_both hA hB c_hs33_ d_hs37_ s1 s2 he (s4 (by omega)).1) s3
      · obtain ⟨rfl, s1, s2, s3, s4⟩ := one_start T0 k c_hs11_ d_hs8_
        omega
      · obtain ⟨rfl, s1, s2, s3, s4⟩ := one_start T0 k c_hs11_ d_hs8_
        omega
      · obtain ⟨rfl, s1, s2, s3, s4⟩ := one_start T0 k c_hs11_ d_hs8_
        omega
      · obtain ⟨rfl, s1, s2, s3, s4⟩ := one_start T0 k c_hs11_ d_hs8_
        have := eT d_h173_
        omega
      · obtain ⟨rfl, s1, s2, s3, s4⟩ := one_start T0 k c_hs11_ d_hs8_
        omega
      · obtain ⟨rfl, s1, s2, s3, s4⟩ := one_start T0 k c_hs11_ d_hs8_
        omega
      · obtain ⟨rfl, s1, s2, s3, s4⟩ := one_start T0 k c_hs11_ d_hs8_
        have := eT d_e268_
        have := s2.2.1
        omega
      · obtain ⟨rfl, s1, s2, s3, s4⟩ := one_start T0 k c_hs11_ d_hs8_
        omega
      · obtain ⟨rfl, s1, s2, s3, s4⟩ := one_start T0 k c_hs11_ d_hs8_
        omega
    · refine xE_SP_X12_one h2 (fun d_M2_ _ d_hF6_ d_r1_ d_hs8_ d_h11_ => ⟨(fun d_h12_ d_M17_ _ d_hF21_ d_hs23_ d_h24_ d_hM_ => ?_), (fun d_h12_ => ⟨(fun d_h26_ d_M31_ _ d_hF35_ d_hs37_ d_h38_ d_hM_ => ?_), (fun d_h26_ => ⟨(fun d_h40_ => ⟨(fun d_hs45_ d_h44_ d_v3_46 d_hv0_46 d_v2_46 d_hv1_46 d_M_46 d_hv2_46 d_hL_46 _ d_hF_46 => ⟨(fun d_h49_ d_h50_ d_M52_ _ d_hF56_ d_hs58_ d_h54_ d_z60_ d_e61_ d_z62_ d_h63_ d_M64_ d_hM65_ d_hM_ => ?_), (fun d_h49_ d_z70_ d_e71_ d_h72_ d_z73_ d_e74_ d_h75_ => ⟨(fun d_h76_ d_h77_ d_M79_ _ d_hF83_ d_hs85_ d_h81_ d_z87_ d_e88_ d_z89_ d_h90_ d_M91_ d_hM92_ d_hM_ => ?_), (fun d_h76_ d_z99_ d_h100_ d_j103_ d_h104_ d_z101_ d_e102_ d_hs109_ d_h108_ d_h139_ d_M141_ _ d_hF145_ d_hs147_ d_h143_ d_z149_ d_e150_ d_z151_ d_h152_ d_M153_ d_hM154_ d_hM_ => ?_)⟩)⟩), (fun d_hs45_ d_h44_ => ⟨(fun d_h160_ d_r165_ d_hs169_ d_h168_ d_z170_ d_e171_ d_h172_ d_h173_ => ⟨(fun d_h174_ d_M175_ d_hM176_ d_h182_ d_z185_ d_e186_ d_h187_ d_h188_ d_h189_ d_h190_ d_hM_ => ?_), (fun d_h174_ => ⟨(fun d_h191_ d_M192_ d_hM193_ d_z202_ d_e203_ d_h204_ d_h205_ d_h206_ d_h207_ d_z208_ d_h209_ _ d_M210_ _ d_hF214_ d_hs216_ d_z222_ d_e223_ d_z224_ d_h225_ d_M226_ d_hM227_ d_z236_ d_e237_ d_h238_ d_h239_ d_h240_ d_z241_ d_h242_ d_M243_ d_hM244_ d_h250_ d_hM_ => ?_), (fun d_h191_ d_M251_ d_hM252_ d_h258_ d_z261_ d_e262_ d_h263_ d_h264_ d_h265_ d_h266_ d_hM_ => ?_)⟩)⟩), (fun d_h160_ d_z267_ d_e268_ d_h269_ => ⟨(fun d_h270_ d_M271_ d_hM272_ d_h276_ d_z279_ d_e280_ d_h281_ d_h282_ d_h283_ d_h284_ d_hM_ => ?_), (fun d_h270_ d_M286_ d_hM287_ d_h291_ d_z294_ d_e295_ d_h296_ d_h297_ d_h298_ d_h299_ d_hM_ => ?_)⟩)⟩)⟩), (fun d_h40_ d_M304_ _ d_hF308_ d_hs310_ d_h311_ d_hM_ => ?_)⟩)⟩)⟩)
      · obtain ⟨rfl, s1, s2, s3, s4⟩ := one_start T0 k c_hs11_ d_hs8_
        omega
      · obtain ⟨rfl, s1, s2, s3, s4⟩ := one_start T0 k c_hs11_ d_hs8_
        omega
      · obtain ⟨rfl, s1, s2, s3, s4⟩ := one_start T0 k c_hs11_ d_hs8_
        omega
      · obtain ⟨rfl, s1, s2, s3, s4⟩ := one_start T0 k c_hs11_ d_hs8_
        omega
      · obtain ⟨rfl, s1, s2, s3, s4⟩ := one_start T0 k c_hs11_ d_hs8_
        omega
      · obtain ⟨rfl, s1, s2, s3, s4⟩ := one_start T0 k c_hs11_ d_hs8_
        have := eT d_h173_
        omega
      · obtain ⟨rfl, s1, s2, s3, s4⟩ := one_start T0 k c_hs11_ d_hs8_
        rw [c_hM_]
        have nm := x12name d_hs169_ s1.2.2.2.2
        refine name_both c_hs43_ s1 (fun _ b => ?_) (fun z g1 g2 g3 g4 => ?_)
        · exfalso
          rcases nm with nm | nm
          · have lb := nmL_b (u := (d_M2_.1 (12, 0, 0) 10).toInt.toNat) (j := d_r165_.toInt.toNat) (by have := s1.2.2.2.2; omega) (by omega)
            rcases b with b | b
            · omega
            · exact b _ (by omega) nm.2.2
          · omega
        · rcases nm with nm | nm
          · have zz : z = d_r165_ := i32e (by have := nmL_uniq (u := (d_M2_.1 (12, 0, 0) 10).toInt.toNat) (i := z.toInt.toNat) (j := d_r165_.toInt.toNat) (by have := s1.2.2.2.2; omega) (by omega) (by omega) (g3.trans nm.2.2.symm); omega)
            obtain ⟨z0, w, zc, Ma, M3, y1, y2, y3, y4, y5, y6⟩ := g4
            exact PRX_pre (nm_fin s1 s2 he (s4 d_h160_).1 zz ⟨by omega, nm.2.1, by omega⟩ y1 y2 y3 y4 y5 y6 d_hM193_ d_h209_ d_hs216_ d_e223_ (by rw [d_hM227_, d_h225_]) d_e237_ d_h242_ (by rw [d_hM_, d_hM244_])) s3
          · omega
      · obtain ⟨rfl, s1, s2, s3, s4⟩ := one_start T0 k c_hs11_ d_hs8_
        rw [c_hM_]
        have nm := x12name d_hs169_ s1.2.2.2.2
        refine name_both c_hs43_ s1 (fun b _ => ?_) (fun z g1 g2 g3 g4 => ?_)
        · rw [d_hM_]
          exact PRX_pre (PBD_bad s1 s2 b (by rw [zupE d_hM252_ rfl rfl, q1]; omega) (fun c k q => zupN d_hM252_ q)) s3
        · exfalso
          rcases nm with nm | nm
          · omega
          · exact nm.2 _ (by omega) g3
      · obtain ⟨rfl, s1, s2, s3, s4⟩ := one_start T0 k c_hs11_ d_hs8_
        have := eT d_e268_
        have := s2.2.1
        omega
      · obtain ⟨rfl, s1, s2, s3, s4⟩ := one_start T0 k c_hs11_ d_hs8_
        rw [c_hM_]
        refine name_both c_hs43_ s1 (fun b _ => ?_) (fun z g1 g2 g3 g4 => ?_)
        · rw [d_hM_]
          exact PRX_pre (PBD_bad s1 s2 b (by rw [zupE d_hM287_ rfl rfl, q1]; omega) (fun c k q => zupN d_hM287_ q)) s3
        · exfalso
          have lb := nmL_b (u := (d_M2_.1 (12, 0, 0) 10).toInt.toNat) (j := z.toInt.toNat) (by have := s1.2.2.2.2; omega) (by omega)
          omega
      · obtain ⟨rfl, s1, s2, s3, s4⟩ := one_start T0 k c_hs11_ d_hs8_
        omega
    · refine xE_SP_X12_one h2 (fun d_M2_ _ d_hF6_ d_r1_ d_hs8_ d_h11_ => ⟨(fun d_h12_ d_M17_ _ d_hF21_ d_hs23_ d_h24_ d_hM_ => ?_), (fun d_h12_ => ⟨(fun d_h26_ d_M31_ _ d_hF35_ d_hs37_ d_h38_ d_hM_ => ?_), (fun d_h26_ => ⟨(fun d_h40_ => ⟨(fun d_hs45_ d_h44_ d_v3_46 d_hv0_46 d_v2_46 d_hv1_46 d_M_46 d_hv2_46 d_hL_46 _ d_hF_46 => ⟨(fun d_h49_ d_h50_ d_M52_ _ d_hF56_ d_hs58_ d_h54_ d_z60_ d_e61_ d_z62_ d_h63_ d_M64_ d_hM65_ d_hM_ => ?_), (fun d_h49_ d_z70_ d_e71_ d_h72_ d_z73_ d_e74_ d_h75_ => ⟨(fun d_h76_ d_h77_ d_M79_ _ d_hF83_ d_hs85_ d_h81_ d_z87_ d_e88_ d_z89_ d_h90_ d_M91_ d_hM92_ d_hM_ => ?_), (fun d_h76_ d_z99_ d_h100_ d_j103_ d_h104_ d_z101_ d_e102_ d_hs109_ d_h108_ d_h139_ d_M141_ _ d_hF145_ d_hs147_ d_h143_ d_z149_ d_e150_ d_z151_ d_h152_ d_M153_ d_hM154_ d_hM_ => ?_)⟩)⟩), (fun d_hs45_ d_h44_ => ⟨(fun d_h160_ d_r165_ d_hs169_ d_h168_ d_z170_ d_e171_ d_h172_ d_h173_ => ⟨(fun d_h174_ d_M175_ d_hM176_ d_h182_ d_z185_ d_e186_ d_h187_ d_h188_ d_h189_ d_h190_ d_hM_ => ?_), (fun d_h174_ => ⟨(fun d_h191_ d_M192_ d_hM193_ d_z202_ d_e203_ d_h204_ d_h205_ d_h206_ d_h207_ d_z208_ d_h209_ _ d_M210_ _ d_hF214_ d_hs216_ d_z222_ d_e223_ d_z224_ d_h225_ d_M226_ d_hM227_ d_z236_ d_e237_ d_h238_ d_h239_ d_h240_ d_z241_ d_h242_ d_M243_ d_hM244_ d_h250_ d_hM_ => ?_), (fun d_h191_ d_M251_ d_hM252_ d_h258_ d_z261_ d_e262_ d_h263_ d_h264_ d_h265_ d_h266_ d_hM_ => ?_)⟩)⟩), (fun d_h160_ d_z267_ d_e268_ d_h269_ => ⟨(fun d_h270_ d_M271_ d_hM272_ d_h276_ d_z279_ d_e280_ d_h281_ d_h282_ d_h283_ d_h284_ d_hM_ => ?_), (fun d_h270_ d_M286_ d_hM287_ d_h291_ d_z294_ d_e295_ d_h296_ d_h297_ d_h298_ d_h299_ d_hM_ => ?_)⟩)⟩)⟩), (fun d_h40_ d_M304_ _ d_hF308_ d_hs310_ d_h311_ d_hM_ => ?_)⟩)⟩)⟩)
      · obtain ⟨rfl, s1, s2, s3, s4⟩ := one_start T0 k c_hs11_ d_hs8_
        omega
      · obtain ⟨rfl, s1, s2, s3, s4⟩ := one_start T0 k c_hs11_ d_hs8_
        omega
      · obtain ⟨rfl, s1, s2, s3, s4⟩ := one_start T0 k c_hs11_ d_hs8_
        omega
      · obtain ⟨rfl, s1, s2, s3, s4⟩ := one_start T0 k c_hs11_ d_hs8_
        omega
      · obtain ⟨rfl, s1, s2, s3, s4⟩ := one_start T0 k c_hs11_ d_hs8_
        omega
      · obtain ⟨rfl, s1, s2, s3, s4⟩ := one_start T0 k c_hs11_ d_hs8_
        have := eT d_h173_
        omega
      · obtain ⟨rfl, s1, s2, s3, s4⟩ := one_start T0 k c_hs11_ d_hs8_
        rw [c_hM_]
        have nm := x12name d_hs169_ s1.2.2.2.2
        refine name_both c_hs57_ s1 (fun _ b => ?_) (fun z g1 g2 g3 g4 => ?_)
        · exfalso
          rcases nm with nm | nm
          · have lb := nmL_b (u := (d_M2_.1 (12, 0, 0) 10).toInt.toNat) (j := d_r165_.toInt.toNat) (by have := s1.2.2.2.2; omega) (by omega)
            rcases b with b | b
            · omega
            · exact b _ (by omega) nm.2.2
          · omega
        · rcases nm with nm | nm
          · have zz : z = d_r165_ := i32e (by have := nmL_uniq (u := (d_M2_.1 (12, 0, 0) 10).toInt.toNat) (i := z.toInt.toNat) (j := d_r165_.toInt.toNat) (by have := s1.2.2.2.2; omega) (by omega) (by omega) (g3.trans nm.2.2.symm); omega)
            obtain ⟨z0, w, zc, Ma, M3, y1, y2, y3, y4, y5, y6⟩ := g4
            exact PRX_pre (nm_fin s1 s2 he (s4 d_h160_).1 zz ⟨by omega, nm.2.1, by omega⟩ y1 y2 y3 y4 y5 y6 d_hM193_ d_h209_ d_hs216_ d_e223_ (by rw [d_hM227_, d_h225_]) d_e237_ d_h242_ (by rw [d_hM_, d_hM244_])) s3
          · omega
      · obtain ⟨rfl, s1, s2, s3, s4⟩ := one_start T0 k c_hs11_ d_hs8_
        rw [c_hM_]
        have nm := x12name d_hs169_ s1.2.2.2.2
        refine name_both c_hs57_ s1 (fun b _ => ?_) (fun z g1 g2 g3 g4 => ?_)
        · rw [d_hM_]
          exact PRX_pre (PBD_bad s1 s2 b (by rw [zupE d_hM252_ rfl rfl, q1]; omega) (fun c k q => zupN d_hM252_ q)) s3
        · exfalso
          rcases nm with nm | nm
          · omega
          · exact nm.2 _ (by omega) g3
      · obtain ⟨rfl, s1, s2, s3, s4⟩ := one_start T0 k c_hs11_ d_hs8_
        have := eT d_e268_
        have := s2.2.1
        omega
      · obtain ⟨rfl, s1, s2, s3, s4⟩ := one_start T0 k c_hs11_ d_hs8_
        rw [c_hM_]
        refine name_both c_hs57_ s1 (fun b _ => ?_) (fun z g1 g2 g3 g4 => ?_)
        · rw [d_hM_]
          exact PRX_pre (PBD_bad s1 s2 b (by rw [zupE d_hM287_ rfl rfl, q1]; omega) (fun c k q => zupN d_hM287_ q)) s3
        · exfalso
          have lb := nmL_b (u := (d_M2_.1 (12, 0, 0) 10).toInt.toNat) (j := z.toInt.toNat) (by have := s1.2.2.2.2; omega) (by omega)
          omega
      · obtain ⟨rfl, s1, s2, s3, s4⟩ := one_start T0 k c_hs11_ d_hs8_
        omega
    · refine xE_SP_X12_one h2 (fun d_M2_ _ d_hF6_ d_r1_ d_hs8_ d_h11_ => ⟨(fun d_h12_ d_M17_ _ d_hF21_ d_hs23_ d_h24_ d_hM_ => ?_), (fun d_h12_ => ⟨(fun d_h26_ d_M31_ _ d_hF35_ d_hs37_ d_h38_ d_hM_ => ?_), (fun d_h26_ => ⟨(fun d_h40_ => ⟨(fun d_hs45_ d_h44_ d_v3_46 d_hv0_46 d_v2_46 d_hv1_46 d_M_46 d_hv2_46 d_hL_46 _ d_hF_46 => ⟨(fun d_h49_ d_h50_ d_M52_ _ d_hF56_ d_hs58_ d_h54_ d_z60_ d_e61_ d_z62_ d_h63_ d_M64_ d_hM65_ d_hM_ => ?_), (fun d_h49_ d_z70_ d_e71_ d_h72_ d_z73_ d_e74_ d_h75_ => ⟨(fun d_h76_ d_h77_ d_M79_ _ d_hF83_ d_hs85_ d_h81_ d_z87_ d_e88_ d_z89_ d_h90_ d_M91_ d_hM92_ d_hM_ => ?_), (fun d_h76_ d_z99_ d_h100_ d_j103_ d_h104_ d_z101_ d_e102_ d_hs109_ d_h108_ d_h139_ d_M141_ _ d_hF145_ d_hs147_ d_h143_ d_z149_ d_e150_ d_z151_ d_h152_ d_M153_ d_hM154_ d_hM_ => ?_)⟩)⟩), (fun d_hs45_ d_h44_ => ⟨(fun d_h160_ d_r165_ d_hs169_ d_h168_ d_z170_ d_e171_ d_h172_ d_h173_ => ⟨(fun d_h174_ d_M175_ d_hM176_ d_h182_ d_z185_ d_e186_ d_h187_ d_h188_ d_h189_ d_h190_ d_hM_ => ?_), (fun d_h174_ => ⟨(fun d_h191_ d_M192_ d_hM193_ d_z202_ d_e203_ d_h204_ d_h205_ d_h206_ d_h207_ d_z208_ d_h209_ _ d_M210_ _ d_hF214_ d_hs216_ d_z222_ d_e223_ d_z224_ d_h225_ d_M226_ d_hM227_ d_z236_ d_e237_ d_h238_ d_h239_ d_h240_ d_z241_ d_h242_ d_M243_ d_hM244_ d_h250_ d_hM_ => ?_), (fun d_h191_ d_M251_ d_hM252_ d_h258_ d_z261_ d_e262_ d_h263_ d_h264_ d_h265_ d_h266_ d_hM_ => ?_)⟩)⟩), (fun d_h160_ d_z267_ d_e268_ d_h269_ => ⟨(fun d_h270_ d_M271_ d_hM272_ d_h276_ d_z279_ d_e280_ d_h281_ d_h282_ d_h283_ d_h284_ d_hM_ => ?_), (fun d_h270_ d_M286_ d_hM287_ d_h291_ d_z294_ d_e295_ d_h296_ d_h297_ d_h298_ d_h299_ d_hM_ => ?_)⟩)⟩)⟩), (fun d_h40_ d_M304_ _ d_hF308_ d_hs310_ d_h311_ d_hM_ => ?_)⟩)⟩)⟩)
      · obtain ⟨rfl, s1, s2, s3, s4⟩ := one_start T0 k c_hs11_ d_hs8_
        omega
      · obtain ⟨rfl, s1, s2, s3, s4⟩ := one_start T0 k c_hs11_ d_hs8_
        omega
      · obtain ⟨rfl, s1, s2, s3, s4⟩ := one_start T0 k c_hs11_ d_hs8_
        omega
      · obtain ⟨rfl, s1, s2, s3, s4⟩ := one_start T0 k c_hs11_ d_hs8_
        omega
      · obtain ⟨rfl, s1, s2, s3, s4⟩ := one_start T0 k c_hs11_ d_hs8_
        omega
      · obtain ⟨rfl, s1, s2, s3, s4⟩ := one_start T0 k c_hs11_ d_hs8_
        have := eT d_h173_
        omega
      · obtain ⟨rfl, s1, s2, s3, s4⟩ := one_start T0 k c_hs11_ d_hs8_
        omega
      · obtain ⟨rfl, s1, s2, s3, s4⟩ := one_start T0 k c_hs11_ d_hs8_
        omega
      · obtain ⟨rfl, s1, s2, s3, s4⟩ := one_start T0 k c_hs11_ d_hs8_
        have := eT d_e268_
        have := s2.2.1
        omega
      · obtain ⟨rfl, s1, s2, s3, s4⟩ := one_start T0 k c_hs11_ d_hs8_
        omega
      · obtain ⟨rfl, s1, s2, s3, s4⟩ := one_start T0 k c_hs11_ d_hs8_
        rw [c_hM_, d_hM_]
        exact PRX_pre (opened_both hA hB c_hs67_ d_hs310_ s1 s2 he (s4 (by omega)).1) s3
    · refine xE_SP_X12_one h2 (fun d_M2_ _ d_hF6_ d_r1_ d_hs8_ d_h11_ => ⟨(fun d_h12_ d_M17_ _ d_hF21_ d_hs23_ d_h24_ d_hM_ => ?_), (fun d_h12_ => ⟨(fun d_h26_ d_M31_ _ d_hF35_ d_hs37_ d_h38_ d_hM_ => ?_), (fun d_h26_ => ⟨(fun d_h40_ => ⟨(fun d_hs45_ d_h44_ d_v3_46 d_hv0_46 d_v2_46 d_hv1_46 d_M_46 d_hv2_46 d_hL_46 _ d_hF_46 => ⟨(fun d_h49_ d_h50_ d_M52_ _ d_hF56_ d_hs58_ d_h54_ d_z60_ d_e61_ d_z62_ d_h63_ d_M64_ d_hM65_ d_hM_ => ?_), (fun d_h49_ d_z70_ d_e71_ d_h72_ d_z73_ d_e74_ d_h75_ => ⟨(fun d_h76_ d_h77_ d_M79_ _ d_hF83_ d_hs85_ d_h81_ d_z87_ d_e88_ d_z89_ d_h90_ d_M91_ d_hM92_ d_hM_ => ?_), (fun d_h76_ d_z99_ d_h100_ d_j103_ d_h104_ d_z101_ d_e102_ d_hs109_ d_h108_ d_h139_ d_M141_ _ d_hF145_ d_hs147_ d_h143_ d_z149_ d_e150_ d_z151_ d_h152_ d_M153_ d_hM154_ d_hM_ => ?_)⟩)⟩), (fun d_hs45_ d_h44_ => ⟨(fun d_h160_ d_r165_ d_hs169_ d_h168_ d_z170_ d_e171_ d_h172_ d_h173_ => ⟨(fun d_h174_ d_M175_ d_hM176_ d_h182_ d_z185_ d_e186_ d_h187_ d_h188_ d_h189_ d_h190_ d_hM_ => ?_), (fun d_h174_ => ⟨(fun d_h191_ d_M192_ d_hM193_ d_z202_ d_e203_ d_h204_ d_h205_ d_h206_ d_h207_ d_z208_ d_h209_ _ d_M210_ _ d_hF214_ d_hs216_ d_z222_ d_e223_ d_z224_ d_h225_ d_M226_ d_hM227_ d_z236_ d_e237_ d_h238_ d_h239_ d_h240_ d_z241_ d_h242_ d_M243_ d_hM244_ d_h250_ d_hM_ => ?_), (fun d_h191_ d_M251_ d_hM252_ d_h258_ d_z261_ d_e262_ d_h263_ d_h264_ d_h265_ d_h266_ d_hM_ => ?_)⟩)⟩), (fun d_h160_ d_z267_ d_e268_ d_h269_ => ⟨(fun d_h270_ d_M271_ d_hM272_ d_h276_ d_z279_ d_e280_ d_h281_ d_h282_ d_h283_ d_h284_ d_hM_ => ?_), (fun d_h270_ d_M286_ d_hM287_ d_h291_ d_z294_ d_e295_ d_h296_ d_h297_ d_h298_ d_h299_ d_hM_ => ?_)⟩)⟩)⟩), (fun d_h40_ d_M304_ _ d_hF308_ d_hs310_ d_h311_ d_hM_ => ?_)⟩)⟩)⟩)
      · obtain ⟨rfl, s1, s2, s3, s4⟩ := one_start T0 k c_hs11_ d_hs8_
        omega
      · obtain ⟨rfl, s1, s2, s3, s4⟩ := one_start T0 k c_hs11_ d_hs8_
        omega
      · obtain ⟨rfl, s1, s2, s3, s4⟩ := one_start T0 k c_hs11_ d_hs8_
        have nb := number_both (w := (d_v3_46, d_v2_46, d_M_46)) (D0 := D) s1 s2 he c_hs76_ d_hL_46 d_h50_ (Or.inl d_h49_) d_hs58_ d_e61_ (show D2 = up d_M52_ (12, 0, 0) 12 (d_z60_ + (1 : Int32)) by rw [d_hM_, d_hM65_, d_h63_])
        rw [c_hM_]
        exact PRX_pre (C' := C) ⟨⟨nb.1, Or.inl nb.2.1⟩, nb.2.2⟩ s3
      · obtain ⟨rfl, s1, s2, s3, s4⟩ := one_start T0 k c_hs11_ d_hs8_
        have nb := number_both (w := (d_v3_46, d_v2_46, d_M_46)) (D0 := D) s1 s2 he c_hs76_ d_hL_46 d_h77_ (Or.inr ⟨d_h49_, Or.inl (by rw [← d_e71_, ← d_e74_]; exact d_h76_)⟩) d_hs85_ d_e88_ (show D2 = up d_M79_ (12, 0, 0) 12 (d_z87_ + (1 : Int32)) by rw [d_hM_, d_hM92_, d_h90_])
        rw [c_hM_]
        exact PRX_pre (C' := C) ⟨⟨nb.1, Or.inl nb.2.1⟩, nb.2.2⟩ s3
      · obtain ⟨rfl, s1, s2, s3, s4⟩ := one_start T0 k c_hs11_ d_hs8_
        have nb := number_both (w := (d_v3_46, d_v2_46, d_M_46)) (D0 := D) s1 s2 he c_hs76_ d_hL_46 d_h139_ (Or.inr ⟨d_h49_, Or.inr ⟨by rw [← d_e71_, ← d_e74_]; exact d_h76_, by rw [← d_e71_, show 273 + d_z70_.toInt.toNat = d_j103_ by omega, ← d_e102_]; exact d_h108_⟩⟩) d_hs147_ d_e150_ (show D2 = up d_M141_ (12, 0, 0) 12 (d_z149_ + (1 : Int32)) by rw [d_hM_, d_hM154_, d_h152_])
        rw [c_hM_]
        exact PRX_pre (C' := C) ⟨⟨nb.1, Or.inl nb.2.1⟩, nb.2.2⟩ s3
      · obtain ⟨rfl, s1, s2, s3, s4⟩ := one_start T0 k c_hs11_ d_hs8_
        have := eT d_h173_
        omega
      · obtain ⟨rfl, s1, s2, s3, s4⟩ := one_start T0 k c_hs11_ d_hs8_
        omega
      · obtain ⟨rfl, s1, s2, s3, s4⟩ := one_start T0 k c_hs11_ d_hs8_
        omega
      · obtain ⟨rfl, s1, s2, s3, s4⟩ := one_start T0 k c_hs11_ d_hs8_
        have := eT d_e268_
        have := s2.2.1
        omega
      · obtain ⟨rfl, s1, s2, s3, s4⟩ := one_start T0 k c_hs11_ d_hs8_
        omega
      · obtain ⟨rfl, s1, s2, s3, s4⟩ := one_start T0 k c_hs11_ d_hs8_
        omega
    · have := eT c_e2_
      omega
  · have k13 := k.2.1
    have c4 := k.1
    have cz : C2.1 (4, 0, 0) 4 = C.1 (4, 0, 0) 4 := by
      refine xE_SP_X4_readOne h1 (fun c_z1_ c_e2_ => ⟨(fun c_h3_ c_M5_ _ c_hF9_ c_r4_ c_hs11_ => ⟨(fun c_h15_ => ⟨(fun c_h16_ c_M17_ _ c_hF21_ c_hs23_ c_h19_ c_hM_ => ?_), (fun c_h16_ => ⟨(fun c_h26_ c_M27_ _ c_hF31_ c_hs33_ c_h29_ c_hM_ => ?_), (fun c_h26_ c_h36_ c_M37_ _ c_hF41_ c_hs43_ c_hM_ => ?_)⟩)⟩), (fun c_h15_ => ⟨(fun c_h47_ c_h48_ c_h49_ => ⟨(fun c_h50_ c_M51_ _ c_hF55_ c_hs57_ c_hM_ => ?_), (fun c_h50_ c_M61_ _ c_hF65_ c_hs67_ c_h63_ c_hM_ => ?_)⟩), (fun c_h47_ c_M70_ _ c_hF74_ c_hs76_ c_hM_ => ?_)⟩)⟩), (fun c_h3_ c_hM_ => ?_)⟩)
      · have := eT c_e2_
        omega
      · have := eT c_e2_
        omega
      · have := eT c_e2_
        omega
      · have := eT c_e2_
        omega
      · have := eT c_e2_
        omega
      · have := eT c_e2_
        omega
      · rw [c_hM_]
    have nh : ∀ {r1 : Int32} {M2 : mM} {s' : Int} {W' : Nat} {a' T' : Int}, SP_X12_here s' W' a' T' D r1 M2 → r1.toInt = -1 ∧ ∀ (c : rf) (k : Nat), M2.1 c k = D.1 c k := fun hh => by
      rcases x12here hh ab with g | g
      · exact g.2
      · exact absurd g.1 k13
    refine xE_SP_X12_one h2 (fun d_M2_ _ d_hF6_ d_r1_ d_hs8_ d_h11_ => ⟨(fun d_h12_ d_M17_ _ d_hF21_ d_hs23_ d_h24_ d_hM_ => ?_), (fun d_h12_ => ⟨(fun d_h26_ d_M31_ _ d_hF35_ d_hs37_ d_h38_ d_hM_ => ?_), (fun d_h26_ => ⟨(fun d_h40_ => ⟨(fun d_hs45_ d_h44_ d_v3_46 d_hv0_46 d_v2_46 d_hv1_46 d_M_46 d_hv2_46 d_hL_46 _ d_hF_46 => ⟨(fun d_h49_ d_h50_ d_M52_ _ d_hF56_ d_hs58_ d_h54_ d_z60_ d_e61_ d_z62_ d_h63_ d_M64_ d_hM65_ d_hM_ => ?_), (fun d_h49_ d_z70_ d_e71_ d_h72_ d_z73_ d_e74_ d_h75_ => ⟨(fun d_h76_ d_h77_ d_M79_ _ d_hF83_ d_hs85_ d_h81_ d_z87_ d_e88_ d_z89_ d_h90_ d_M91_ d_hM92_ d_hM_ => ?_), (fun d_h76_ d_z99_ d_h100_ d_j103_ d_h104_ d_z101_ d_e102_ d_hs109_ d_h108_ d_h139_ d_M141_ _ d_hF145_ d_hs147_ d_h143_ d_z149_ d_e150_ d_z151_ d_h152_ d_M153_ d_hM154_ d_hM_ => ?_)⟩)⟩), (fun d_hs45_ d_h44_ => ⟨(fun d_h160_ d_r165_ d_hs169_ d_h168_ d_z170_ d_e171_ d_h172_ d_h173_ => ⟨(fun d_h174_ d_M175_ d_hM176_ d_h182_ d_z185_ d_e186_ d_h187_ d_h188_ d_h189_ d_h190_ d_hM_ => ?_), (fun d_h174_ => ⟨(fun d_h191_ d_M192_ d_hM193_ d_z202_ d_e203_ d_h204_ d_h205_ d_h206_ d_h207_ d_z208_ d_h209_ _ d_M210_ _ d_hF214_ d_hs216_ d_z222_ d_e223_ d_z224_ d_h225_ d_M226_ d_hM227_ d_z236_ d_e237_ d_h238_ d_h239_ d_h240_ d_z241_ d_h242_ d_M243_ d_hM244_ d_h250_ d_hM_ => ?_), (fun d_h191_ d_M251_ d_hM252_ d_h258_ d_z261_ d_e262_ d_h263_ d_h264_ d_h265_ d_h266_ d_hM_ => ?_)⟩)⟩), (fun d_h160_ d_z267_ d_e268_ d_h269_ => ⟨(fun d_h270_ d_M271_ d_hM272_ d_h276_ d_z279_ d_e280_ d_h281_ d_h282_ d_h283_ d_h284_ d_hM_ => ?_), (fun d_h270_ d_M286_ d_hM287_ d_h291_ d_z294_ d_e295_ d_h296_ d_h297_ d_h298_ d_h299_ d_hM_ => ?_)⟩)⟩)⟩), (fun d_h40_ d_M304_ _ d_hF308_ d_hs310_ d_h311_ d_hM_ => ?_)⟩)⟩)⟩)
    · have g := nh d_hs8_
      omega
    · have g := nh d_hs8_
      omega
    · have g := nh d_hs8_
      omega
    · have g := nh d_hs8_
      omega
    · have g := nh d_hs8_
      omega
    · have g := nh d_hs8_
      omega
    · have g := nh d_hs8_
      omega
    · have g := nh d_hs8_
      omega
    · have g := nh d_hs8_
      rw [d_hM_] at T2 ⊢
      exact PBD_keep T2 k cz (by rw [zupE d_hM272_ rfl rfl, q1]; omega) (by rw [zupN d_hM272_ (by simp)]; exact g.2 _ _) (by rw [zupN d_hM272_ (by simp)]; exact g.2 _ _)
    · have g := nh d_hs8_
      rw [d_hM_] at T2 ⊢
      exact PBD_keep T2 k cz (by rw [zupE d_hM287_ rfl rfl, q1]; omega) (by rw [zupN d_hM287_ (by simp)]; exact g.2 _ _) (by rw [zupN d_hM287_ (by simp)]; exact g.2 _ _)
    · have g := nh d_hs8_
      omega
