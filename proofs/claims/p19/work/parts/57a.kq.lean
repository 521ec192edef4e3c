/-! the first places of the model's row that a method leaves as they are -/
def kq (T : List Nat) (M M' : mM) : Prop := ∀ j : Nat, j ≤ 19 → ¬ j ∈ T → M'.1 (50, 0, 0) j = M.1 (50, 0, 0) j
theorem kq.refl {T : List Nat} {M : mM} : kq T M M := fun _ _ _ => rfl
theorem kq.trans {T : List Nat} {M M1 M2 : mM} (h : kq T M M1) (h2 : kq T M1 M2) : kq T M M2 := fun j hj hn => (h2 j hj hn).trans (h j hj hn)
theorem kq.mono {T T' : List Nat} {M M' : mM} (h : kq T M M') (hT : ∀ j ∈ T, j ∈ T') : kq T' M M' := fun j hj hn => h j hj (fun q => hn (hT j q))
theorem kq_up {T : List Nat} {M M' : mM} {i : Nat} {v : Int32} (he : M' = up M (50, 0, 0) i v) (hi : 19 < i ∨ i ∈ T) : kq T M M' := fun j hj hn => by
  rw [he]
  refine up_ne (fun q => ?_)
  rcases hi with h | h
  · have := q.2; omega
  · exact hn (q.2 ▸ h)
theorem kq_upo {T : List Nat} {M M' : mM} {c : rf} {i : Nat} {v : Int32} (he : M' = up M c i v) (hc : ((50, 0, 0) : rf) ≠ c) : kq T M M' := fun j _ _ => by rw [he, up_other _ _ hc]
theorem kq_FR {T : List Nat} {S : rf → Nat → Prop} {M M' : mM} (h : FR S M M') (hs : ∀ j : Nat, ¬ S (50, 0, 0) j) : kq T M M' := fun j _ _ => h _ j (hs j)
theorem rind {α : Type} {S : α → α → Prop} {a z : α} (h : RCH S a z) (P : α → Prop) (h0 : P a) (hs : ∀ x z, P x → S x z → P z) : P z := RCH.ind h0 hs h
theorem kq_all {T : List Nat} {M M' : mM} (h : M'.1 (50, 0, 0) = M.1 (50, 0, 0)) : kq T M M' := fun j _ _ => by rw [h]
theorem KSP_X12_become {v u : Int32} {Mz : mM} {r_ : Int32} {M_ : mM} (h : SP_X12_become v u Mz r_ M_) (hv : 20 ≤ v.toInt) : kq [] Mz M_ := by
  unfold SP_X12_become at h
  rcases h with ⟨j3_, h4_, z1_, e2_, j7_, h8_, M5_, hM6_, hr_, hM_⟩
  rw [hM_]; exact kq_up hM6_ (Or.inl (by omega))
theorem KSP_X12_comes {v : Int32} {u : Int32} {Mz : mM} {r_ : Int32} {M_ : mM} (h : SP_X12_comes v u Mz r_ M_) : kq [1] Mz M_ := by
  refine xE_SP_X12_comes h (fun z1_ e2_ h3_ h4_ r5_ hs9_ h8_ z10_ h11_ j14_ h15_ M12_ hM13_ _ r19_ hs23_ h22_ z24_ h25_ j28_ h29_ M26_ hM27_ _ r33_ hs37_ h36_ z38_ h39_ j42_ h43_ M40_ hM41_ _ r47_ hs51_ h50_ z52_ h53_ j56_ h57_ M54_ hM55_ z61_ e62_ h63_ h64_ z65_ h66_ M67_ hM68_ hr_ hM_ => ?_)
  · rw [hM_]
    exact kq.trans (kq.trans (kq.trans (kq.trans (kq_up hM13_ (Or.inl (by omega))) (kq_up hM27_ (Or.inl (by omega)))) (kq_up hM41_ (Or.inl (by omega)))) (kq_up hM55_ (Or.inl (by omega)))) (kq_up hM68_ (Or.inr (by decide)))
theorem KSP_X12_thing_ {v : Int32} {u : Int32} {Mz : mM} {r_ : Int32} {M_ : mM} (h : SP_X12_thing_ v u Mz r_ M_) : kq [1] Mz M_ := by
  refine xE_SP_X12_thing_ h ⟨(fun hs5_ h4_ => ⟨(fun hs11_ h10_ r13_ hs17_ h16_ => ⟨(fun h18_ z19_ e20_ h21_ => ⟨(fun h22_ M24_ _ hF28_ r23_ hs30_ h26_ hr_ hM_ => ?_), (fun h22_ M32_ _ hF36_ r31_ hs38_ h34_ hr_ hM_ => ?_)⟩), (fun h18_ M40_ _ hF44_ r39_ hs46_ h42_ hr_ hM_ => ?_)⟩), (fun hs11_ h10_ M49_ _ hF53_ r48_ hs55_ h51_ hr_ hM_ => ?_)⟩), (fun hs5_ h4_ M58_ _ hF62_ r57_ hs64_ h60_ hr_ hM_ => ?_)⟩
  · rw [hM_]
    exact (KSP_X12_comes hs30_).mono (by decide)
  · rw [hM_]
    exact kq_FR hF36_ (by intro j q; simp [S_c_X12_finding] at q)
  · rw [hM_]
    exact kq_FR hF44_ (by intro j q; simp [S_c_X12_finding] at q)
  · rw [hM_]
    exact kq_FR hF53_ (by intro j q; simp [S_c_X12_finding] at q)
  · rw [hM_]
    exact kq_FR hF62_ (by intro j q; simp [S_c_X12_finding] at q)
theorem KSP_X12_moves {v : Int32} {u : Int32} {t : Int32} {Mz : mM} {r_ : Int32} {M_ : mM} (h : SP_X12_moves v u t Mz r_ M_) : kq [] Mz M_ := by
  refine xE_SP_X12_moves h ⟨(fun hs5_ h4_ => ⟨(fun hs11_ h10_ => ⟨(fun hs17_ h16_ r19_ hs23_ h22_ z24_ h25_ j28_ h29_ z26_ e27_ h30_ => ⟨(fun h31_ r32_ hs36_ h35_ z37_ h38_ j41_ h42_ z39_ e40_ h43_ => ⟨(fun h44_ r45_ hs49_ h48_ z50_ h51_ j54_ h55_ M52_ hM53_ _ r58_ hs62_ h61_ z63_ h64_ j67_ h68_ M65_ hM66_ hr_ hM_ => ?_), (fun h44_ M72_ _ hF76_ r71_ hs78_ h74_ hr_ hM_ => ?_)⟩), (fun h31_ M80_ _ hF84_ r79_ hs86_ h82_ hr_ hM_ => ?_)⟩), (fun hs17_ h16_ M89_ _ hF93_ r88_ hs95_ h91_ hr_ hM_ => ?_)⟩), (fun hs11_ h10_ M98_ _ hF102_ r97_ hs104_ h100_ hr_ hM_ => ?_)⟩), (fun hs5_ M107_ _ hF111_ r106_ hs113_ h109_ hr_ hM_ => ?_)⟩
  · rw [hM_]
    exact kq.trans (kq_up hM53_ (Or.inl (by omega))) (kq_up hM66_ (Or.inl (by omega)))
  · rw [hM_]
    exact kq_FR hF76_ (by intro j q; simp [S_c_X12_finding] at q)
  · rw [hM_]
    exact kq_FR hF84_ (by intro j q; simp [S_c_X12_finding] at q)
  · rw [hM_]
    exact kq_FR hF93_ (by intro j q; simp [S_c_X12_finding] at q)
  · rw [hM_]
    exact kq_FR hF102_ (by intro j q; simp [S_c_X12_finding] at q)
  · rw [hM_]
    exact kq_FR hF111_ (by intro j q; simp [S_c_X12_finding] at q)
theorem KSP_X12_away {v : Int32} {Mz : mM} {r_ : Int32} {M_ : mM} (h : SP_X12_away v Mz r_ M_) : kq [] Mz M_ := by
  refine xE_SP_X12_away h ⟨(fun hs5_ h4_ r7_ hs11_ h10_ z12_ h13_ j16_ h17_ z14_ e15_ h18_ => ⟨(fun h19_ r20_ hs24_ h23_ z25_ h26_ M28_ _ hF32_ r27_ hs34_ hr_ hM_ => ?_), (fun h19_ M36_ _ hF40_ r35_ hs42_ h38_ hr_ hM_ => ?_)⟩), (fun hs5_ M45_ _ hF49_ r44_ hs51_ h47_ hr_ hM_ => ?_)⟩
  · rw [hM_]
    exact (KSP_X12_become hs34_ (by omega)).mono (by decide)
  · rw [hM_]
    exact kq_FR hF40_ (by intro j q; simp [S_c_X12_finding] at q)
  · rw [hM_]
    exact kq_FR hF49_ (by intro j q; simp [S_c_X12_finding] at q)
theorem KST_X12_lays_81 {v : Int32} {u : Int32} {Mz : mM} {v4_81 : Int32} {v3_81 : Int32} {M_81 : mM} {v4_81y : Int32} {v3_81y : Int32} {M_81y : mM} (h : ST_X12_lays_81 v u Mz v4_81 v3_81 M_81 v4_81y v3_81y M_81y) (h4_ : 0 ≤ v.toInt ∧ v.toInt ≤ 3) (h10_ : 0 ≤ u.toInt ∧ u.toInt ≤ 11) : kq [1] M_81 M_81y := by
  refine xE_ST_X12_lays_81 h (fun hv0_81 _ hF_81 j33_ h34_ z31_ e32_ h35_ h36_ h37_ z38_ h39_ z40_ h41_ j44_ h45_ z42_ e43_ => ⟨(fun hs50_ h49_ z52_ e53_ h54_ => ⟨(fun h55_ z56_ h57_ hq_v4_81y hq_v3_81y hM_ => ?_), (fun h55_ z58_ h59_ z60_ h61_ r62_ hs66_ h65_ => ⟨(fun h67_ z68_ h69_ hq_v4_81y hq_v3_81y hM_ => ?_), (fun h67_ z70_ h71_ z72_ h73_ z74_ h75_ M77_ _ hF81_ r76_ hs83_ h79_ z85_ h86_ z87_ h88_ hq_v4_81y hq_v3_81y hM_ => ?_)⟩)⟩), (fun hs50_ h49_ z90_ h91_ hq_v4_81y hq_v3_81y hM_ => ?_)⟩)
  · rw [hM_]
    exact kq.refl
  · rw [hM_]
    exact kq.refl
  · rw [hM_]
    exact (KSP_X12_comes hs83_).mono (by decide)
  · rw [hM_]
    exact kq.refl
theorem KSP_X12_lays {v : Int32} {u : Int32} {Mz : mM} {r_ : Int32} {M_ : mM} (h : SP_X12_lays v u Mz r_ M_) : kq [1] Mz M_ := by
  refine xE_SP_X12_lays h ⟨(fun hs5_ h4_ => ⟨(fun hs11_ h10_ j15_ h16_ z13_ e14_ => ⟨(fun h17_ j20_ h21_ z18_ e19_ => ⟨(fun h22_ j25_ h26_ z23_ e24_ h27_ => ⟨(fun h28_ v4_81 hv0_81 v3_81 M_81 hL_81 _ hF_81 j33_ h34_ z31_ e32_ h35_ h36_ h37_ hr_ hM_ => ?_), (fun h28_ M93_ _ hF97_ r92_ hs99_ h95_ hr_ hM_ => ?_)⟩), (fun h22_ M101_ _ hF105_ r100_ hs107_ h103_ hr_ hM_ => ?_)⟩), (fun h17_ M109_ _ hF113_ r108_ hs115_ h111_ hr_ hM_ => ?_)⟩), (fun hs11_ h10_ M118_ _ hF122_ r117_ hs124_ h120_ hr_ hM_ => ?_)⟩), (fun hs5_ h4_ M127_ _ hF131_ r126_ hs133_ h129_ hr_ hM_ => ?_)⟩
  · rw [hM_]
    have l0_ := rind hL_81 (fun z_ => kq [1] Mz z_.2.2) kq.refl (fun x_ z_ h1_ h2_ => kq.trans h1_ ((KST_X12_lays_81 h2_ (by omega) (by omega)).mono (by decide)))
    exact show kq [1] Mz M_81 from l0_
  · rw [hM_]
    exact kq_FR hF97_ (by intro j q; simp [S_c_X12_finding] at q)
  · rw [hM_]
    exact kq_FR hF105_ (by intro j q; simp [S_c_X12_finding] at q)
  · rw [hM_]
    exact kq_FR hF113_ (by intro j q; simp [S_c_X12_finding] at q)
  · rw [hM_]
    exact kq_FR hF122_ (by intro j q; simp [S_c_X12_finding] at q)
  · rw [hM_]
    exact kq_FR hF131_ (by intro j q; simp [S_c_X12_finding] at q)
theorem KSP_X12_walker {v : Int32} {u : Int32} {t : Int32} {Mz : mM} {r_ : Int32} {M_ : mM} (h : SP_X12_walker v u t Mz r_ M_) : kq [2] Mz M_ := by
  refine xE_SP_X12_walker h ⟨(fun hs5_ h4_ => ⟨(fun hs11_ h10_ => ⟨(fun hs17_ h16_ r19_ hs23_ h22_ => ⟨(fun h24_ z25_ e26_ h28_ => ⟨(fun h29_ r30_ hs34_ h33_ z35_ h36_ j39_ h40_ M37_ hM38_ z44_ h45_ j48_ h49_ M46_ hM47_ z53_ h54_ j57_ h58_ M55_ hM56_ z62_ h63_ j66_ h67_ M64_ hM65_ z71_ h72_ j75_ h76_ M73_ hM74_ z80_ e81_ h82_ h83_ z84_ h85_ M86_ hM87_ hr_ hM_ => ?_), (fun h29_ M91_ _ hF95_ r90_ hs97_ h93_ hr_ hM_ => ?_)⟩), (fun h24_ M100_ _ hF104_ r99_ hs106_ h102_ hr_ hM_ => ?_)⟩), (fun hs17_ h16_ M109_ _ hF113_ r108_ hs115_ h111_ hr_ hM_ => ?_)⟩), (fun hs11_ h10_ M118_ _ hF122_ r117_ hs124_ h120_ hr_ hM_ => ?_)⟩), (fun hs5_ h4_ M127_ _ hF131_ r126_ hs133_ h129_ hr_ hM_ => ?_)⟩
  · rw [hM_]
    exact kq.trans (kq.trans (kq.trans (kq.trans (kq.trans (kq_up hM38_ (Or.inl (by omega))) (kq_up hM47_ (Or.inl (by omega)))) (kq_up hM56_ (Or.inl (by omega)))) (kq_up hM65_ (Or.inl (by omega)))) (kq_up hM74_ (Or.inl (by omega)))) (kq_up hM87_ (Or.inr (by decide)))
  · rw [hM_]
    exact kq_FR hF95_ (by intro j q; simp [S_c_X12_finding] at q)
  · rw [hM_]
    exact kq_FR hF104_ (by intro j q; simp [S_c_X12_finding] at q)
  · rw [hM_]
    exact kq_FR hF113_ (by intro j q; simp [S_c_X12_finding] at q)
  · rw [hM_]
    exact kq_FR hF122_ (by intro j q; simp [S_c_X12_finding] at q)
  · rw [hM_]
    exact kq_FR hF131_ (by intro j q; simp [S_c_X12_finding] at q)
theorem KSP_X12_habit {v : Int32} {u : Int32} {t : Int32} {s : Int32} {Mz : mM} {r_ : Int32} {M_ : mM} (h : SP_X12_habit v u t s Mz r_ M_) : kq [] Mz M_ := by
  refine xE_SP_X12_habit h ⟨(fun hs5_ h4_ => ⟨(fun hs11_ h10_ => ⟨(fun hs17_ h16_ => ⟨(fun hs23_ h22_ r25_ hs29_ h28_ z30_ h31_ j34_ h35_ M32_ hM33_ _ r38_ hs42_ h41_ z43_ h44_ j47_ h48_ M45_ hM46_ _ r51_ hs55_ h54_ z56_ h57_ j60_ h61_ M58_ hM59_ hr_ hM_ => ?_), (fun hs23_ h22_ M66_ _ hF70_ r65_ hs72_ h68_ hr_ hM_ => ?_)⟩), (fun hs17_ h16_ M75_ _ hF79_ r74_ hs81_ h77_ hr_ hM_ => ?_)⟩), (fun hs11_ h10_ M84_ _ hF88_ r83_ hs90_ h86_ hr_ hM_ => ?_)⟩), (fun hs5_ M93_ _ hF97_ r92_ hs99_ h95_ hr_ hM_ => ?_)⟩
  · rw [hM_]
    exact kq.trans (kq.trans (kq_up hM33_ (Or.inl (by omega))) (kq_up hM46_ (Or.inl (by omega)))) (kq_up hM59_ (Or.inl (by omega)))
  · rw [hM_]
    exact kq_FR hF70_ (by intro j q; simp [S_c_X12_finding] at q)
  · rw [hM_]
    exact kq_FR hF79_ (by intro j q; simp [S_c_X12_finding] at q)
  · rw [hM_]
    exact kq_FR hF88_ (by intro j q; simp [S_c_X12_finding] at q)
  · rw [hM_]
    exact kq_FR hF97_ (by intro j q; simp [S_c_X12_finding] at q)
theorem KSP_X12_face {v : Int32} {u : Int32} {Mz : mM} {r_ : Int32} {M_ : mM} (h : SP_X12_face v u Mz r_ M_) : kq [] Mz M_ := by
  refine xE_SP_X12_face h ⟨(fun hs5_ h4_ => ⟨(fun hs11_ h10_ r13_ hs17_ h16_ z18_ h19_ M21_ _ hF25_ r20_ hs27_ hr_ hM_ => ?_), (fun hs11_ h10_ M30_ _ hF34_ r29_ hs36_ h32_ hr_ hM_ => ?_)⟩), (fun hs5_ M39_ _ hF43_ r38_ hs45_ h41_ hr_ hM_ => ?_)⟩
  · rw [hM_]
    exact (KSP_X12_become hs27_ (by omega)).mono (by decide)
  · rw [hM_]
    exact kq_FR hF34_ (by intro j q; simp [S_c_X12_finding] at q)
  · rw [hM_]
    exact kq_FR hF43_ (by intro j q; simp [S_c_X12_finding] at q)
theorem KSP_X12_goes {v : Int32} {u : Int32} {Mz : mM} {r_ : Int32} {M_ : mM} (h : SP_X12_goes v u Mz r_ M_) (hu : 0 ≤ u.toInt ∧ u.toInt ≤ 1) : kq [] Mz M_ := by
  refine xE_SP_X12_goes h ⟨(fun hs5_ h4_ r7_ hs11_ h10_ z12_ h13_ => ⟨(fun h14_ M16_ _ hF20_ r15_ hs22_ hr_ hM_ => ?_), (fun h14_ M24_ _ hF28_ r23_ hs30_ hr_ hM_ => ?_)⟩), (fun hs5_ M33_ _ hF37_ r32_ hs39_ h35_ hr_ hM_ => ?_)⟩
  · rw [hM_]
    exact (KSP_X12_become hs22_ (by omega)).mono (by decide)
  · rw [hM_]
    exact (KSP_X12_become hs30_ (by omega)).mono (by decide)
  · rw [hM_]
    exact kq_FR hF37_ (by intro j q; simp [S_c_X12_finding] at q)
theorem KSP_X12_more {v : Int32} {u : Int32} {Mz : mM} {M_ : mM} (h : SP_X12_more v u Mz M_) (hv : 494 ≤ v.toInt ∧ v.toInt ≤ 3566) : kq [] Mz M_ := by
  refine xE_SP_X12_more h (fun j3_ h4_ z1_ e2_ z5_ h6_ z7_ h8_ j11_ h12_ M9_ hM10_ hM_ => ?_)
  · rw [hM_]
    exact kq_up hM10_ (Or.inl (by omega))
theorem KST_X12_clicks_55 {v : Int32} {Mz : mM} {z8_ : Int32} {v4_35 : Int32} {r34_ : Int32} {v6_55 : Int32} {M_55 : mM} {v6_55y : Int32} {M_55y : mM} (h : ST_X12_clicks_55 v Mz z8_ v4_35 r34_ v6_55 M_55 v6_55y M_55y) (hv0_35 : 0 ≤ v4_35.toInt) (hv1_35 : v4_35.toInt ≤ 8) (h33_ : v4_35.toInt < 8) (hv : 0 ≤ v.toInt ∧ v.toInt ≤ 7) : kq [] M_55 M_55y := by
  refine xE_ST_X12_clicks_55 h (fun hv0_55 _ hF_55 h43_ r68_ hs72_ h71_ r73_ hs77_ h76_ M78_ _ hF82_ hs84_ z85_ h86_ hq_v6_55y hM_ => ?_)
  · rw [hM_]
    exact (KSP_X12_more hs84_ (by omega)).mono (by decide)
theorem KST_X12_clicks_35 {v : Int32} {Mz : mM} {z8_ : Int32} {v4_35 : Int32} {v3_35 : Int32} {M_35 : mM} {v4_35y : Int32} {v3_35y : Int32} {M_35y : mM} (h : ST_X12_clicks_35 v Mz z8_ v4_35 v3_35 M_35 v4_35y v3_35y M_35y) (h12_ : 0 ≤ z8_.toInt ∧ z8_.toInt ≤ 191) (hv : 0 ≤ v.toInt ∧ v.toInt ≤ 7) : kq [] M_35 M_35y := by
  refine xE_ST_X12_clicks_35 h (fun hv0_35 hv1_35 _ hF_35 h33_ M35_ _ hF39_ r34_ hs41_ h37_ v6_55 hv0_55 M_55 hL_55 _ hF_55 h43_ => ⟨(fun h44_ z45_ h46_ hq_v4_35y hq_v3_35y hM_ => ?_), (fun h44_ r47_ hs51_ h50_ r52_ hs56_ h55_ M57_ _ hF61_ hs63_ z64_ h65_ z66_ h67_ hq_v4_35y hq_v3_35y hM_ => ?_)⟩)
  · rw [hM_]
    have l0_ := rind hL_55 (fun z_ => kq [] M35_ z_.2) kq.refl (fun x_ z_ h1_ h2_ => kq.trans h1_ ((KST_X12_clicks_55 h2_ (by omega) (by omega) (by omega) (by omega)).mono (by decide)))
    exact kq.trans (kq_FR hF39_ (by intro j q; simp [S_c_X12_heardFrom] at q)) (show kq [] M35_ M_55 from l0_)
  · rw [hM_]
    have l0_ := rind hL_55 (fun z_ => kq [] M35_ z_.2) kq.refl (fun x_ z_ h1_ h2_ => kq.trans h1_ ((KST_X12_clicks_55 h2_ (by omega) (by omega) (by omega) (by omega)).mono (by decide)))
    exact kq.trans (kq.trans (kq_FR hF39_ (by intro j q; simp [S_c_X12_heardFrom] at q)) (show kq [] M35_ M_55 from l0_)) ((KSP_X12_more hs63_ (by omega)).mono (by decide))
theorem KSP_X12_clicks {v : Int32} {Mz : mM} {r_ : Int32} {M_ : mM} (h : SP_X12_clicks v Mz r_ M_) (hv : 0 ≤ v.toInt ∧ v.toInt ≤ 7) : kq [] Mz M_ := by
  refine xE_SP_X12_clicks h (fun r1_ hs5_ h4_ z6_ h7_ j10_ h11_ z8_ e9_ h12_ r13_ hs17_ h16_ z18_ h19_ j22_ h23_ z20_ e21_ z24_ h25_ j28_ h29_ M26_ hM27_ v4_35 hv0_35 hv1_35 v3_35 M_35 hL_35 _ hF_35 h33_ hr_ hM_ => ?_)
  · rw [hM_]
    have l0_ := rind hL_35 (fun z_ => kq [] M26_ z_.2.2) kq.refl (fun x_ z_ h1_ h2_ => kq.trans h1_ ((KST_X12_clicks_35 h2_ (by omega) (by omega)).mono (by decide)))
    exact kq.trans (kq_up hM27_ (Or.inl (by omega))) (show kq [] M26_ M_35 from l0_)
theorem KSP_X12_click {v : Int32} {Mz : mM} {r_ : Int32} {M_ : mM} (h : SP_X12_click v Mz r_ M_) : kq [] Mz M_ := by
  refine xE_SP_X12_click h ⟨(fun hs5_ h4_ r7_ hs11_ h10_ r12_ hs16_ h15_ => ⟨(fun h17_ M19_ _ hF23_ r18_ hs25_ h21_ hr_ hM_ => ?_), (fun h17_ M27_ _ hF31_ r26_ hs33_ hr_ hM_ => ?_)⟩), (fun hs5_ M36_ _ hF40_ r35_ hs42_ h38_ hr_ hM_ => ?_)⟩
  · rw [hM_]
    exact kq_FR hF23_ (by intro j q; simp [S_c_X12_finding] at q)
  · rw [hM_]
    exact (KSP_X12_clicks hs33_ (by omega)).mono (by decide)
  · rw [hM_]
    exact kq_FR hF40_ (by intro j q; simp [S_c_X12_finding] at q)
theorem KSP_X12_lesson {v : Int32} {u : Int32} {t : Int32} {Mz : mM} {r_ : Int32} {M_ : mM} (h : SP_X12_lesson v u t Mz r_ M_) : kq [3] Mz M_ := by
  refine xE_SP_X12_lesson h ⟨(fun hs5_ h4_ => ⟨(fun hs11_ h10_ => ⟨(fun hs17_ h16_ z19_ e20_ h22_ => ⟨(fun h23_ z24_ h25_ z26_ h27_ j30_ h31_ M28_ hM29_ z35_ h36_ z37_ h38_ z39_ h40_ j43_ h44_ M41_ hM42_ z48_ h49_ z50_ h51_ z52_ h53_ j56_ h57_ M54_ hM55_ z61_ e62_ h63_ h64_ z65_ h66_ M67_ hM68_ hr_ hM_ => ?_), (fun h23_ M72_ _ hF76_ r71_ hs78_ h74_ hr_ hM_ => ?_)⟩), (fun hs17_ h16_ M82_ _ hF86_ r81_ hs88_ h84_ hr_ hM_ => ?_)⟩), (fun hs11_ h10_ M91_ _ hF95_ r90_ hs97_ h93_ hr_ hM_ => ?_)⟩), (fun hs5_ h4_ M100_ _ hF104_ r99_ hs106_ h102_ hr_ hM_ => ?_)⟩
  · rw [hM_]
    exact kq.trans (kq.trans (kq.trans (kq_up hM29_ (Or.inl (by omega))) (kq_up hM42_ (Or.inl (by omega)))) (kq_up hM55_ (Or.inl (by omega)))) (kq_up hM68_ (Or.inr (by decide)))
  · rw [hM_]
    exact kq_FR hF76_ (by intro j q; simp [S_c_X12_finding] at q)
  · rw [hM_]
    exact kq_FR hF86_ (by intro j q; simp [S_c_X12_finding] at q)
  · rw [hM_]
    exact kq_FR hF95_ (by intro j q; simp [S_c_X12_finding] at q)
  · rw [hM_]
    exact kq_FR hF104_ (by intro j q; simp [S_c_X12_finding] at q)
theorem KSP_X12_tell {v : Int32} {Mz : mM} {r_ : Int32} {M_ : mM} (h : SP_X12_tell v Mz r_ M_) : kq [5] Mz M_ := by
  refine xE_SP_X12_tell h (fun z1_ e2_ h4_ => ⟨(fun h5_ z6_ e7_ h8_ h9_ z10_ h11_ j14_ h15_ M12_ hM13_ z19_ e20_ h21_ h22_ z23_ h24_ M25_ hM26_ z29_ e30_ h32_ hr_ hM_ => ?_), (fun h5_ M34_ _ hF38_ r33_ hs40_ h36_ hr_ hM_ => ?_)⟩)
  · rw [hM_]
    exact kq.trans (kq_up hM13_ (Or.inl (by omega))) (kq_up hM26_ (Or.inr (by decide)))
  · rw [hM_]
    exact kq_FR hF38_ (by intro j q; simp [S_c_X12_finding] at q)
theorem KSP_X12_thingGoes {v : Int32} {Mz : mM} {M_ : mM} (h : SP_X12_thingGoes v Mz M_) (hv : 0 ≤ v.toInt ∧ v.toInt ≤ 39) : kq [] Mz M_ := by
  refine xE_SP_X12_thingGoes h (fun r1_ hs5_ h4_ z6_ h7_ j10_ h11_ z8_ e9_ r12_ hs16_ h15_ z17_ h18_ j21_ h22_ z19_ e20_ h23_ r24_ hs28_ h27_ z29_ h30_ j33_ h34_ z31_ e32_ h35_ => ⟨(fun h36_ hM_ => ?_), (fun h36_ => ⟨(fun h37_ hM_ => ?_), (fun h37_ => ⟨(fun h38_ hM_ => ?_), (fun h38_ z39_ e40_ z41_ h42_ => ⟨(fun h43_ r44_ hs48_ h47_ z49_ h50_ j53_ h54_ z51_ e52_ h55_ r56_ hs60_ h59_ => ⟨(fun h61_ r62_ hs66_ h65_ z67_ h68_ r69_ hs73_ h72_ z74_ h75_ j78_ h79_ z76_ e77_ h80_ z81_ h82_ z83_ h85_ h84_ j88_ h89_ M86_ hM87_ hM_ => ?_), (fun h61_ r92_ hs96_ h95_ => ⟨(fun h97_ r98_ hs102_ h101_ z103_ h104_ r105_ hs109_ h108_ z110_ h111_ j114_ h115_ z112_ e113_ h116_ z117_ h118_ z119_ h121_ h120_ j124_ h125_ M122_ hM123_ hM_ => ?_), (fun h97_ r128_ hs132_ h131_ z133_ h134_ j137_ h138_ M135_ hM136_ hM_ => ?_)⟩)⟩), (fun h43_ hM_ => ?_)⟩)⟩)⟩)⟩)
  · rw [hM_]
    exact kq.refl
  · rw [hM_]
    exact kq.refl
  · rw [hM_]
    exact kq.refl
  · rw [hM_]
    exact kq_up hM87_ (Or.inl (by omega))
  · rw [hM_]
    exact kq_up hM123_ (Or.inl (by omega))
  · rw [hM_]
    exact kq_up hM136_ (Or.inl (by omega))
  · rw [hM_]
    exact kq.refl
theorem KST_X12_tenth_12 {Mz : mM} {v1_12 : Int32} {M_12 : mM} {v1_12y : Int32} {M_12y : mM} (h : ST_X12_tenth_12 Mz v1_12 M_12 v1_12y M_12y) : kq [] M_12 M_12y := by
  refine xE_ST_X12_tenth_12 h (fun hv0_12 _ hF_12 z10_ e11_ h12_ h13_ M28_ _ hF32_ hs34_ z35_ h36_ hq_v1_12y hM_ => ?_)
  · rw [hM_]
    exact (KSP_X12_thingGoes hs34_ (by omega)).mono (by decide)
theorem KST_X12_goesOn_22 {Mz : mM} {r1_ : Int32} {v3_22 : Int32} {M_22 : mM} {v3_22y : Int32} {M_22y : mM} {v : Int32} (h : ST_X12_goesOn_22 Mz r1_ v3_22 M_22 v3_22y M_22y) (h4_ : r1_.toInt = 180 + 9 * v.toInt) (hv : 0 ≤ v.toInt ∧ v.toInt ≤ 7) : kq [] M_22 M_22y := by
  refine xE_ST_X12_goesOn_22 h (fun hv0_22 _ hF_22 h13_ z14_ h15_ j18_ h19_ z16_ e17_ h20_ z21_ h22_ j25_ h26_ z23_ e24_ h27_ r28_ hs32_ h31_ h33_ r49_ hs53_ h52_ h54_ z55_ h56_ j59_ h60_ M57_ hM58_ z63_ h64_ hq_v3_22y hM_ => ?_)
  · rw [hM_]
    exact kq_up hM58_ (Or.inl (by omega))
theorem KST_X12_goesOn_22b {Mz : mM} {r1_ : Int32} {v3_22 : Int32} {M_22 : mM} {v3_22y : Int32} {M_22y : mM} {v : Int32} (h : ST_X12_goesOn_22b Mz r1_ v3_22 M_22 v3_22y M_22y) (h4_ : r1_.toInt = 180 + 9 * v.toInt) (hv : 0 ≤ v.toInt ∧ v.toInt ≤ 7) : kq [] M_22 M_22y := by
  refine xE_ST_X12_goesOn_22b h (fun hv0_22 _ hF_22 h93_ z94_ h95_ j98_ h99_ z96_ e97_ h100_ z101_ h102_ j105_ h106_ z103_ e104_ h107_ r108_ hs112_ h111_ h113_ r129_ hs133_ h132_ h134_ z135_ h136_ j139_ h140_ M137_ hM138_ z143_ h144_ hq_v3_22y hM_ => ?_)
  · rw [hM_]
    exact kq_up hM138_ (Or.inl (by omega))
theorem KSP_X12_goesOn {v : Int32} {Mz : mM} {M_ : mM} (h : SP_X12_goesOn v Mz M_) (hv : 0 ≤ v.toInt ∧ v.toInt ≤ 7) : kq [] Mz M_ := by
  refine xE_SP_X12_goesOn h (fun r1_ hs5_ h4_ r6_ hs10_ h9_ => ⟨(fun h11_ v3_22 hv0_22 M_22 hL_22 _ hF_22 => ⟨(fun h13_ hM_ => ?_), (fun h13_ z14_ h15_ j18_ h19_ z16_ e17_ h20_ z21_ h22_ j25_ h26_ z23_ e24_ h27_ r28_ hs32_ h31_ => ⟨(fun h33_ z34_ h35_ j38_ h39_ z36_ e37_ z40_ h41_ j44_ h45_ M42_ hM43_ h48_ hM_ => ?_), (fun h33_ r49_ hs53_ h52_ h54_ z65_ h66_ j69_ h70_ z67_ e68_ z71_ h72_ j75_ h76_ M73_ hM74_ h79_ _ r80_ hs84_ h83_ M85_ _ hF89_ hs91_ hM_ => ?_)⟩)⟩), (fun h11_ v3_22 hv0_22 M_22 hL_22 _ hF_22 => ⟨(fun h93_ hM_ => ?_), (fun h93_ z94_ h95_ j98_ h99_ z96_ e97_ h100_ z101_ h102_ j105_ h106_ z103_ e104_ h107_ r108_ hs112_ h111_ => ⟨(fun h113_ z114_ h115_ j118_ h119_ z116_ e117_ z120_ h121_ j124_ h125_ M122_ hM123_ h128_ hM_ => ?_), (fun h113_ r129_ hs133_ h132_ h134_ z145_ h146_ j149_ h150_ z147_ e148_ z151_ h152_ j155_ h156_ M153_ hM154_ h159_ _ r160_ hs164_ h163_ M165_ _ hF169_ hs171_ hM_ => ?_)⟩)⟩)⟩)
  · rw [hM_]
    have l0_ := rind hL_22 (fun z_ => kq [] Mz z_.2) kq.refl (fun x_ z_ h1_ h2_ => kq.trans h1_ ((KST_X12_goesOn_22 (v := v) h2_ (by omega) (by omega)).mono (by decide)))
    exact show kq [] Mz M_22 from l0_
  · rw [hM_]
    have l0_ := rind hL_22 (fun z_ => kq [] Mz z_.2) kq.refl (fun x_ z_ h1_ h2_ => kq.trans h1_ ((KST_X12_goesOn_22 (v := v) h2_ (by omega) (by omega)).mono (by decide)))
    exact kq.trans (show kq [] Mz M_22 from l0_) (kq_up hM43_ (Or.inl (by omega)))
  · rw [hM_]
    have l0_ := rind hL_22 (fun z_ => kq [] Mz z_.2) kq.refl (fun x_ z_ h1_ h2_ => kq.trans h1_ ((KST_X12_goesOn_22 (v := v) h2_ (by omega) (by omega)).mono (by decide)))
    exact kq.trans (kq.trans (show kq [] Mz M_22 from l0_) (kq_up hM74_ (Or.inl (by omega)))) ((KSP_X12_more hs91_ (by omega)).mono (by decide))
  · rw [hM_]
    have l0_ := rind hL_22 (fun z_ => kq [] Mz z_.2) kq.refl (fun x_ z_ h1_ h2_ => kq.trans h1_ ((KST_X12_goesOn_22b (v := v) h2_ (by omega) (by omega)).mono (by decide)))
    exact show kq [] Mz M_22 from l0_
  · rw [hM_]
    have l0_ := rind hL_22 (fun z_ => kq [] Mz z_.2) kq.refl (fun x_ z_ h1_ h2_ => kq.trans h1_ ((KST_X12_goesOn_22b (v := v) h2_ (by omega) (by omega)).mono (by decide)))
    exact kq.trans (show kq [] Mz M_22 from l0_) (kq_up hM123_ (Or.inl (by omega)))
  · rw [hM_]
    have l0_ := rind hL_22 (fun z_ => kq [] Mz z_.2) kq.refl (fun x_ z_ h1_ h2_ => kq.trans h1_ ((KST_X12_goesOn_22b (v := v) h2_ (by omega) (by omega)).mono (by decide)))
    exact kq.trans (kq.trans (show kq [] Mz M_22 from l0_) (kq_up hM154_ (Or.inl (by omega)))) ((KSP_X12_more hs171_ (by omega)).mono (by decide))
theorem KSP_X12_walkerGoes {v : Int32} {Mz : mM} {M_ : mM} (h : SP_X12_walkerGoes v Mz M_) (hv : 0 ≤ v.toInt ∧ v.toInt ≤ 7) : kq [] Mz M_ := by
  refine xE_SP_X12_walkerGoes h (fun r1_ hs5_ h4_ z6_ h7_ j10_ h11_ z8_ e9_ z12_ h13_ j16_ h17_ z14_ e15_ => ⟨(fun h18_ => ⟨(fun h19_ M21_ _ hF25_ r20_ hs27_ => ⟨(fun h28_ z29_ h30_ z31_ h32_ j35_ h36_ z33_ e34_ h37_ => ⟨(fun h38_ => ⟨(fun h39_ z40_ h41_ z42_ h44_ h43_ j47_ h48_ M45_ hM46_ hM_ => ?_), (fun h39_ z51_ h52_ z53_ h55_ h54_ j58_ h59_ M56_ hM57_ hM_ => ?_)⟩), (fun h38_ z62_ h63_ z64_ h66_ h65_ j69_ h70_ M67_ hM68_ hM_ => ?_)⟩), (fun h28_ M73_ _ hF77_ hs79_ hM_ => ?_)⟩), (fun h19_ z80_ e81_ z82_ h83_ => ⟨(fun h84_ M86_ _ hF90_ r85_ hs92_ => ⟨(fun h93_ z94_ h95_ z96_ h97_ j100_ h101_ z98_ e99_ h102_ => ⟨(fun h103_ => ⟨(fun h104_ z105_ h106_ z107_ h109_ h108_ j112_ h113_ M110_ hM111_ hM_ => ?_), (fun h104_ z116_ h117_ z118_ h120_ h119_ j123_ h124_ M121_ hM122_ hM_ => ?_)⟩), (fun h103_ z127_ h128_ z129_ h131_ h130_ j134_ h135_ M132_ hM133_ hM_ => ?_)⟩), (fun h93_ M138_ _ hF142_ hs144_ hM_ => ?_)⟩), (fun h84_ r145_ hs149_ h148_ r150_ hs154_ h153_ => ⟨(fun h155_ M157_ _ hF161_ r156_ hs163_ => ⟨(fun h164_ z165_ h166_ z167_ h168_ j171_ h172_ z169_ e170_ h173_ => ⟨(fun h174_ => ⟨(fun h175_ z176_ h177_ z178_ h180_ h179_ j183_ h184_ M181_ hM182_ hM_ => ?_), (fun h175_ z187_ h188_ z189_ h191_ h190_ j194_ h195_ M192_ hM193_ hM_ => ?_)⟩), (fun h174_ z198_ h199_ z200_ h202_ h201_ j205_ h206_ M203_ hM204_ hM_ => ?_)⟩), (fun h164_ M209_ _ hF213_ hs215_ hM_ => ?_)⟩), (fun h155_ M217_ _ hF221_ r216_ hs223_ M225_ _ hF229_ r224_ hs231_ => ⟨(fun h232_ z233_ h234_ z235_ h236_ j239_ h240_ z237_ e238_ h241_ => ⟨(fun h242_ => ⟨(fun h243_ z244_ h245_ z246_ h248_ h247_ j251_ h252_ M249_ hM250_ hM_ => ?_), (fun h243_ z255_ h256_ z257_ h259_ h258_ j262_ h263_ M260_ hM261_ hM_ => ?_)⟩), (fun h242_ z266_ h267_ z268_ h270_ h269_ j273_ h274_ M271_ hM272_ hM_ => ?_)⟩), (fun h232_ M277_ _ hF281_ hs283_ hM_ => ?_)⟩)⟩)⟩)⟩), (fun h18_ hM_ => ?_)⟩)
  · rw [hM_]
    exact kq.trans (kq_FR hF25_ (by intro j q; simp [S_c_X12_habitOf] at q)) (kq_up hM46_ (Or.inl (by omega)))
  · rw [hM_]
    exact kq.trans (kq_FR hF25_ (by intro j q; simp [S_c_X12_habitOf] at q)) (kq_up hM57_ (Or.inl (by omega)))
  · rw [hM_]
    exact kq.trans (kq_FR hF25_ (by intro j q; simp [S_c_X12_habitOf] at q)) (kq_up hM68_ (Or.inl (by omega)))
  · rw [hM_]
    exact kq.trans (kq_FR hF25_ (by intro j q; simp [S_c_X12_habitOf] at q)) ((KSP_X12_goesOn hs79_ (by omega)).mono (by decide))
  · rw [hM_]
    exact kq.trans (kq_FR hF90_ (by intro j q; simp [S_c_X12_habitOf] at q)) (kq_up hM111_ (Or.inl (by omega)))
  · rw [hM_]
    exact kq.trans (kq_FR hF90_ (by intro j q; simp [S_c_X12_habitOf] at q)) (kq_up hM122_ (Or.inl (by omega)))
  · rw [hM_]
    exact kq.trans (kq_FR hF90_ (by intro j q; simp [S_c_X12_habitOf] at q)) (kq_up hM133_ (Or.inl (by omega)))
  · rw [hM_]
    exact kq.trans (kq_FR hF90_ (by intro j q; simp [S_c_X12_habitOf] at q)) ((KSP_X12_goesOn hs144_ (by omega)).mono (by decide))
  · rw [hM_]
    exact kq.trans (kq_FR hF161_ (by intro j q; simp [S_c_X12_habitOf] at q)) (kq_up hM182_ (Or.inl (by omega)))
  · rw [hM_]
    exact kq.trans (kq_FR hF161_ (by intro j q; simp [S_c_X12_habitOf] at q)) (kq_up hM193_ (Or.inl (by omega)))
  · rw [hM_]
    exact kq.trans (kq_FR hF161_ (by intro j q; simp [S_c_X12_habitOf] at q)) (kq_up hM204_ (Or.inl (by omega)))
  · rw [hM_]
    exact kq.trans (kq_FR hF161_ (by intro j q; simp [S_c_X12_habitOf] at q)) ((KSP_X12_goesOn hs215_ (by omega)).mono (by decide))
  · rw [hM_]
    exact kq.trans (kq.trans ((KSP_X12_clicks hs223_ (by omega)).mono (by decide)) (kq_FR hF229_ (by intro j q; simp [S_c_X12_habitOf] at q))) (kq_up hM250_ (Or.inl (by omega)))
  · rw [hM_]
    exact kq.trans (kq.trans ((KSP_X12_clicks hs223_ (by omega)).mono (by decide)) (kq_FR hF229_ (by intro j q; simp [S_c_X12_habitOf] at q))) (kq_up hM261_ (Or.inl (by omega)))
  · rw [hM_]
    exact kq.trans (kq.trans ((KSP_X12_clicks hs223_ (by omega)).mono (by decide)) (kq_FR hF229_ (by intro j q; simp [S_c_X12_habitOf] at q))) (kq_up hM272_ (Or.inl (by omega)))
  · rw [hM_]
    exact kq.trans (kq.trans ((KSP_X12_clicks hs223_ (by omega)).mono (by decide)) (kq_FR hF229_ (by intro j q; simp [S_c_X12_habitOf] at q))) ((KSP_X12_goesOn hs283_ (by omega)).mono (by decide))
  · rw [hM_]
    exact kq.refl
theorem KST_X12_tenth_35 {Mz : mM} {v1_35 : Int32} {M_35 : mM} {v1_35y : Int32} {M_35y : mM} (h : ST_X12_tenth_35 Mz v1_35 M_35 v1_35y M_35y) : kq [] M_35 M_35y := by
  refine xE_ST_X12_tenth_35 h (fun hv0_35 _ hF_35 z15_ e16_ h17_ h18_ M19_ _ hF23_ hs25_ z26_ h27_ hq_v1_35y hM_ => ?_)
  · rw [hM_]
    exact (KSP_X12_walkerGoes hs25_ (by omega)).mono (by decide)
theorem KSP_X12_tenth {Mz : mM} {M_ : mM} (h : SP_X12_tenth Mz M_) : kq [0] Mz M_ := by
  refine xE_SP_X12_tenth h (fun z1_ e2_ z3_ h4_ M5_ hM6_ v1_12 hv0_12 M_12 hL_12 _ hF_12 z10_ e11_ h12_ h13_ v1_35 hv0_35 M_35 hL_35 _ hF_35 z15_ e16_ h17_ h18_ hM_ => ?_)
  · rw [hM_]
    have l0_ := rind hL_12 (fun z_ => kq [0] M5_ z_.2) kq.refl (fun x_ z_ h1_ h2_ => kq.trans h1_ ((KST_X12_tenth_12 h2_).mono (by decide)))
    have l1_ := rind hL_35 (fun z_ => kq [0] M_12 z_.2) kq.refl (fun x_ z_ h1_ h2_ => kq.trans h1_ ((KST_X12_tenth_35 h2_).mono (by decide)))
    exact kq.trans (kq.trans (kq_up hM6_ (Or.inr (by decide))) (show kq [0] M5_ M_12 from l0_)) (show kq [0] M_12 M_35 from l1_)
theorem KST_X12_tenths_40 {v : Int32} {Mz : mM} {v2_40 : Int32} {M_40 : mM} {v2_40y : Int32} {M_40y : mM} (h : ST_X12_tenths_40 v Mz v2_40 M_40 v2_40y M_40y) (h4_ : 1 ≤ v.toInt ∧ v.toInt ≤ 100) : kq [0] M_40 M_40y := by
  refine xE_ST_X12_tenths_40 h (fun hv0_40 _ hF_40 h13_ M16_ _ hF20_ hs22_ z23_ h24_ hq_v2_40y hM_ => ?_)
  · rw [hM_]
    exact (KSP_X12_tenth hs22_).mono (by decide)
theorem KSP_X12_tenths {v : Int32} {Mz : mM} {r_ : Int32} {M_ : mM} (h : SP_X12_tenths v Mz r_ M_) : kq [0] Mz M_ := by
  refine xE_SP_X12_tenths h ⟨(fun hs5_ h4_ z7_ e8_ z9_ h10_ => ⟨(fun h11_ v2_40 hv0_40 M_40 hL_40 _ hF_40 h13_ z14_ e15_ hr_ hM_ => ?_), (fun h11_ M26_ _ hF30_ r25_ hs32_ h28_ hr_ hM_ => ?_)⟩), (fun hs5_ h4_ M35_ _ hF39_ r34_ hs41_ h37_ hr_ hM_ => ?_)⟩
  · rw [hM_]
    have l0_ := rind hL_40 (fun z_ => kq [0] Mz z_.2) kq.refl (fun x_ z_ h1_ h2_ => kq.trans h1_ ((KST_X12_tenths_40 h2_ (by omega)).mono (by decide)))
    exact show kq [0] Mz M_40 from l0_
  · rw [hM_]
    exact kq_FR hF30_ (by intro j q; simp [S_c_X12_finding] at q)
  · rw [hM_]
    exact kq_FR hF39_ (by intro j q; simp [S_c_X12_finding] at q)
theorem KST_X12_feed_40 {v : Int64} {u : Int32} {Mz : mM} {v4_40 : Int32} {M_40 : mM} {v4_40y : Int32} {M_40y : mM} (h : ST_X12_feed_40 v u Mz v4_40 M_40 v4_40y M_40y) (h4_ : 1 ≤ u.toInt ∧ u.toInt ≤ 8) : kq [4] M_40 M_40y := by
  refine xE_ST_X12_feed_40 h (fun hv0_40 hv1_40 hv2_40 _ hF_40 h14_ z18_ e19_ h21_ z22_ h23_ z24_ h25_ w26_ h27_ w28_ h29_ z30_ h31_ j34_ h35_ M32_ hM33_ z39_ e40_ h41_ h42_ z43_ h44_ M45_ hM46_ z50_ h51_ hq_v4_40y hM_ => ?_)
  · rw [hM_]
    exact kq.trans (kq_up hM33_ (Or.inl (by omega))) (kq_up hM46_ (Or.inr (by decide)))
theorem KSP_X12_feed {v : Int64} {u : Int32} {Mz : mM} {r_ : Int32} {M_ : mM} (h : SP_X12_feed v u Mz r_ M_) : kq [4] Mz M_ := by
  refine xE_SP_X12_feed h ⟨(fun hs5_ h4_ z7_ e8_ h9_ z10_ h11_ => ⟨(fun h12_ v4_40 hv0_40 hv1_40 M_40 hv2_40 hL_40 _ hF_40 h14_ z15_ e16_ h17_ hr_ hM_ => ?_), (fun h12_ M53_ _ hF57_ r52_ hs59_ h55_ hr_ hM_ => ?_)⟩), (fun hs5_ h4_ M62_ _ hF66_ r61_ hs68_ h64_ hr_ hM_ => ?_)⟩
  · rw [hM_]
    have l0_ := rind hL_40 (fun z_ => kq [4] Mz z_.2) kq.refl (fun x_ z_ h1_ h2_ => kq.trans h1_ ((KST_X12_feed_40 h2_ (by omega)).mono (by decide)))
    exact show kq [4] Mz M_40 from l0_
  · rw [hM_]
    exact kq_FR hF57_ (by intro j q; simp [S_c_X12_finding] at q)
  · rw [hM_]
    exact kq_FR hF66_ (by intro j q; simp [S_c_X12_finding] at q)
theorem KST_X12_text__117 {v : Int32} {Mz : mM} {v2_117 : Int32} {M_117 : mM} {v2_117y : Int32} {M_117y : mM} (h : ST_X12_text__117 v Mz v2_117 M_117 v2_117y M_117y) (h4_ : 0 ≤ v.toInt ∧ v.toInt ≤ 2) : kq [] M_117 M_117y := by
  refine xE_ST_X12_text__117 h (fun hv0_117 hv1_117 hv2_117 _ hF_117 z151_ e152_ h153_ h154_ h155_ z159_ e160_ h161_ h162_ z163_ h164_ z165_ h166_ z167_ h168_ z169_ h170_ j173_ h174_ z171_ e172_ j177_ h178_ M175_ hM176_ z186_ h187_ hq_v2_117y hM_ => ?_)
  · rw [hM_]
    exact kq_up hM176_ (Or.inl (by omega))
theorem KSP_X12_text_ {v : Int32} {Mz : mM} {r_ : Int32} {M_ : mM} (h : SP_X12_text_ v Mz r_ M_) : kq [4] Mz M_ := by
  refine xE_SP_X12_text_ h ⟨(fun hs5_ h4_ M7_ hM8_ M12_ hM13_ M18_ hM19_ M25_ hM26_ M32_ hM33_ M39_ hM40_ _ M48_ _ hF52_ hs54_ z56_ e57_ h58_ => ⟨(fun h60_ M61_ hM62_ h66_ M69_ hM70_ z76_ e77_ h78_ h79_ h80_ h81_ z82_ e83_ h84_ z85_ h86_ hr_ hM_ => ?_), (fun h60_ M88_ _ hF92_ r87_ hs94_ h98_ => ⟨(fun h99_ M100_ hM101_ h105_ h108_ M110_ hM111_ z119_ e120_ h121_ h122_ h123_ h124_ z126_ e127_ h128_ h129_ z130_ h131_ z132_ h133_ z134_ e135_ h136_ h137_ j140_ h141_ M138_ hM139_ v2_117 hv0_117 hv1_117 M_117 hv2_117 hL_117 _ hF_117 z151_ e152_ h153_ h154_ h155_ z157_ e158_ hr_ hM_ => ?_), (fun h99_ M188_ hM189_ h193_ M196_ hM197_ z203_ e204_ h205_ h206_ h207_ h208_ z209_ e210_ h211_ z212_ h213_ hr_ hM_ => ?_)⟩)⟩), (fun hs5_ h4_ M216_ _ hF220_ r215_ hs222_ h218_ hr_ hM_ => ?_)⟩
  · rw [hM_]
    exact kq.trans (kq.trans (kq.trans (kq.trans (kq.trans (kq.trans (kq.trans (kq.trans (kq_upo hM8_ (by decide)) (kq_upo hM13_ (by decide))) (kq_upo hM19_ (by decide))) (kq_upo hM26_ (by decide))) (kq_upo hM33_ (by decide))) (kq_upo hM40_ (by decide))) (kq_FR hF52_ (by intro j q; simp [S_par] at q))) (kq_upo hM62_ (by decide))) (kq_up hM70_ (Or.inr (by decide)))
  · rw [hM_]
    have l0_ := rind hL_117 (fun z_ => kq [4] M138_ z_.2) kq.refl (fun x_ z_ h1_ h2_ => kq.trans h1_ ((KST_X12_text__117 h2_ (by omega)).mono (by decide)))
    exact kq.trans (kq.trans (kq.trans (kq.trans (kq.trans (kq.trans (kq.trans (kq.trans (kq.trans (kq.trans (kq.trans (kq_upo hM8_ (by decide)) (kq_upo hM13_ (by decide))) (kq_upo hM19_ (by decide))) (kq_upo hM26_ (by decide))) (kq_upo hM33_ (by decide))) (kq_upo hM40_ (by decide))) (kq_FR hF52_ (by intro j q; simp [S_par] at q))) (kq_FR hF92_ (by intro j q; simp [S_here] at q))) (kq_upo hM101_ (by decide))) (kq_up hM111_ (Or.inr (by decide)))) (kq_up hM139_ (Or.inl (by omega)))) (show kq [4] M138_ M_117 from l0_)
  · rw [hM_]
    exact kq.trans (kq.trans (kq.trans (kq.trans (kq.trans (kq.trans (kq.trans (kq.trans (kq.trans (kq_upo hM8_ (by decide)) (kq_upo hM13_ (by decide))) (kq_upo hM19_ (by decide))) (kq_upo hM26_ (by decide))) (kq_upo hM33_ (by decide))) (kq_upo hM40_ (by decide))) (kq_FR hF52_ (by intro j q; simp [S_par] at q))) (kq_FR hF92_ (by intro j q; simp [S_here] at q))) (kq_upo hM189_ (by decide))) (kq_up hM197_ (Or.inr (by decide)))
  · rw [hM_]
    exact kq_FR hF220_ (by intro j q; simp [S_c_X12_finding] at q)
