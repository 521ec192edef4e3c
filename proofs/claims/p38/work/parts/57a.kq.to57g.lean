section
/-! the first places of the model's row that a method leaves as they are -/
def kq (T : List Nat) (M M' : mM) : Prop := ∀ j : Nat, j ≤ 19 → ¬ j ∈ T → M'.1 (50, 0, 0) j = M.1 (50, 0, 0) j
theorem kq.refl {T : List Nat} {M : mM} : kq T M M := fun _ _ _ => rfl
theorem kq.trans {T : List Nat} {M M1 M2 : mM} (h : kq T M M1) (h2 : kq T M1 M2) : kq T M M2 := fun j hj hn => (h2 j hj hn).trans (h j hj hn)
theorem kq.mono {T T' : List Nat} {M M' : mM} (h : kq T M M') (hT : ∀ j ∈ T, j ∈ T') : kq T' M M' := fun j hj hn => h j hj (fun q => hn (hT j q))
theorem kq_up {T : List Nat} {M M' : mM} {i : Nat} {v : Int32} (he : M' = up M (50, 0, 0) i v) (hi : 19 < i ∨ i ∈ T) : kq T M M' := fun j hj hn => by
  rw [he]
  refine up_ne (fun q => ?_)
  rcases hi with h | h
  · have := q.2; omega
  · exact hn (q.2 ▸ h)
theorem kq_upo {T : List Nat} {M M' : mM} {c : rf} {i : Nat} {v : Int32} (he : M' = up M c i v) (hc : ((50, 0, 0) : rf) ≠ c) : kq T M M' := fun j _ _ => by rw [he, up_other _ _ hc]
theorem kq_FR {T : List Nat} {S : rf → Nat → Prop} {M M' : mM} (h : FR S M M') (hs : ∀ j : Nat, ¬ S (50, 0, 0) j) : kq T M M' := fun j _ _ => h _ j (hs j)
theorem rind {α : Type} {S : α → α → Prop} {a z : α} (h : RCH S a z) (P : α → Prop) (h0 : P a) (hs : ∀ x z, P x → S x z → P z) : P z := RCH.ind h0 hs h
theorem kq_all {T : List Nat} {M M' : mM} (h : M'.1 (50, 0, 0) = M.1 (50, 0, 0)) : kq T M M' := fun j _ _ => by rw [h]
theorem KSP_X12_become {v u : Int32} {Mz : mM} {r_ : Int32} {M_ : mM} (h : SP_X12_become v u Mz r_ M_) (hv : 20 ≤ v.toInt) : kq [] Mz M_ := by
  unfold SP_X12_become at h
  rcases h with ⟨j3_, h4_, z1_, e2_, j7_, h8_, M5_, hM6_, hr_, hM_⟩
  rw [hM_]; exact kq_up hM6_ (Or.inl (by omega))
theorem KSP_X12_comes {v : Int32} {u : Int32} {Mz : mM} {r_ : Int32} {M_ : mM} (h : SP_X12_comes v u Mz r_ M_) : kq [1] Mz M_ := by
  refine xE_SP_X12_comes h (fun z1_ e2_ h3_ h4_ r5_ hs9_ h8_ z10_ h11_ j14_ h15_ M12_ hM13_ _ r19_ hs23_ h22_ z24_ h25_ j28_ h29_ M26_ hM27_ _ r33_ hs37_ h36_ z38_ h39_ j42_ h43_ M40_ hM41_ _ r47_ hs51_ h50_ z52_ h53_ j56_ h57_ M54_ hM55_ z61_ e62_ h63_ h64_ z65_ h66_ M67_ hM68_ hr_ hM_ => ?_)
  · rw [hM_]
    exact kq.trans (kq.trans (kq.trans (kq.trans (kq_up hM13_ (Or.inl (by omega))) (kq_up hM27_ (Or.inl (by omega)))) (kq_up hM41_ (Or.inl (by omega)))) (kq_up hM55_ (Or.inl (by omega)))) (kq_up hM68_ (Or.inr (by decide)))
theorem KSP_X12_thing_ {v : Int32} {u : Int32} {Mz : mM} {r_ : Int32} {M_ : mM} (h : SP_X12_thing_ v u Mz r_ M_) : kq [1] Mz M_ := by
  refine xE_SP_X12_thing_ h ⟨(fun hs5_ h4_ => ⟨(fun hs11_ h10_ r13_ hs17_ h16_ => ⟨(fun h18_ z19_ e20_ h21_ => ⟨(fun h22_ M24_ _ hF28_ r23_ hs30_ h26_ hr_ hM_ => ?_), (fun h22_ M32_ _ hF36_ r31_ hs38_ h34_ hr_ hM_ => ?_)⟩), (fun h18_ M40_ _ hF44_ r39_ hs46_ h42_ hr_ hM_ => ?_)⟩), (fun hs11_ h10_ M49_ _ hF53_ r48_ hs55_ h51_ hr_ hM_ => ?_)⟩), (fun hs5_ h4_ M58_ _ hF62_ r57_ hs64_ h60_ hr_ hM_ => ?_)⟩
  · rw [hM_]
    exact (KSP_X12_comes hs30_).mono (by decide)
  · rw [hM_]
    exact kq_FR hF36_ (by intro j q; simp [S_c_X12_finding] at q)
  · rw [hM_]
    exact kq_FR hF44_ (by intro j q; simp [S_c_X12_finding] at q)
  · rw [hM_]
    exact kq_FR hF53_ (by intro j q; simp [S_c_X12_finding] at q)
  · rw [hM_]
    exact kq_FR hF62_ (by intro j q; simp [S_c_X12_finding] at q)
theorem KSP_X12_moves {v : Int32} {u : Int32} {t : Int32} {Mz : mM} {r_ : Int32} {M_ : mM} (h : SP_X12_moves v u t Mz r_ M_) : kq [] Mz M_ := by
  refine xE_SP_X12_moves h ⟨(fun hs5_ h4_ => ⟨(fun hs11_ h10_ => ⟨(fun hs17_ h16_ r19_ hs23_ h22_ z24_ h25_ j28_ h29_ z26_ e27_ h30_ => ⟨(fun h31_ r32_ hs36_ h35_ z37_ h38_ j41_ h42_ z39_ e40_ h43_ => ⟨(fun h44_ r45_ hs49_ h48_ z50_ h51_ j54_ h55_ M52_ hM53_ _ r58_ hs62_ h61_ z63_ h64_ j67_ h68_ M65_ hM66_ hr_ hM_ => ?_), (fun h44_ M72_ _ hF76_ r71_ hs78_ h74_ hr_ hM_ => ?_)⟩), (fun h31_ M80_ _ hF84_ r79_ hs86_ h82_ hr_ hM_ => ?_)⟩), (fun hs17_ h16_ M89_ _ hF93_ r88_ hs95_ h91_ hr_ hM_ => ?_)⟩), (fun hs11_ h10_ M98_ _ hF102_ r97_ hs104_ h100_ hr_ hM_ => ?_)⟩), (fun hs5_ M107_ _ hF111_ r106_ hs113_ h109_ hr_ hM_ => ?_)⟩
  · rw [hM_]
    exact kq.trans (kq_up hM53_ (Or.inl (by omega))) (kq_up hM66_ (Or.inl (by omega)))
  · rw [hM_]
    exact kq_FR hF76_ (by intro j q; simp [S_c_X12_finding] at q)
  · rw [hM_]
    exact kq_FR hF84_ (by intro j q; simp [S_c_X12_finding] at q)
  · rw [hM_]
    exact kq_FR hF93_ (by intro j q; simp [S_c_X12_finding] at q)
  · rw [hM_]
    exact kq_FR hF102_ (by intro j q; simp [S_c_X12_finding] at q)
  · rw [hM_]
    exact kq_FR hF111_ (by intro j q; simp [S_c_X12_finding] at q)
theorem KSP_X12_away {v : Int32} {Mz : mM} {r_ : Int32} {M_ : mM} (h : SP_X12_away v Mz r_ M_) : kq [] Mz M_ := by
  refine xE_SP_X12_away h ⟨(fun hs5_ h4_ r7_ hs11_ h10_ z12_ h13_ j16_ h17_ z14_ e15_ h18_ => ⟨(fun h19_ r20_ hs24_ h23_ z25_ h26_ M28_ _ hF32_ r27_ hs34_ hr_ hM_ => ?_), (fun h19_ M36_ _ hF40_ r35_ hs42_ h38_ hr_ hM_ => ?_)⟩), (fun hs5_ M45_ _ hF49_ r44_ hs51_ h47_ hr_ hM_ => ?_)⟩
  · rw [hM_]
    exact (KSP_X12_become hs34_ (by omega)).mono (by decide)
  · rw [hM_]
    exact kq_FR hF40_ (by intro j q; simp [S_c_X12_finding] at q)
  · rw [hM_]
    exact kq_FR hF49_ (by intro j q; simp [S_c_X12_finding] at q)
theorem KST_X12_lays_81 {v : Int32} {u : Int32} {Mz : mM} {v4_81 : Int32} {v3_81 : Int32} {M_81 : mM} {v4_81y : Int32} {v3_81y : Int32} {M_81y : mM} (h : ST_X12_lays_81 v u Mz v4_81 v3_81 M_81 v4_81y v3_81y M_81y) (h4_ : 0 ≤ v.toInt ∧ v.toInt ≤ 3) (h10_ : 0 ≤ u.toInt ∧ u.toInt ≤ 11) : kq [1] M_81 M_81y := by
  refine xE_ST_X12_lays_81 h (fun hv0_81 _ hF_81 j33_ h34_ z31_ e32_ h35_ h36_ h37_ z38_ h39_ z40_ h41_ j44_ h45_ z42_ e43_ => ⟨(fun hs50_ h49_ z52_ e53_ h54_ => ⟨(fun h55_ z56_ h57_ hq_v4_81y hq_v3_81y hM_ => ?_), (fun h55_ z58_ h59_ z60_ h61_ r62_ hs66_ h65_ => ⟨(fun h67_ z68_ h69_ hq_v4_81y hq_v3_81y hM_ => ?_), (fun h67_ z70_ h71_ z72_ h73_ z74_ h75_ M77_ _ hF81_ r76_ hs83_ h79_ z85_ h86_ z87_ h88_ hq_v4_81y hq_v3_81y hM_ => ?_)⟩)⟩), (fun hs50_ h49_ z90_ h91_ hq_v4_81y hq_v3_81y hM_ => ?_)⟩)
  · rw [hM_]
    exact kq.refl
  · rw [hM_]
    exact kq.refl
  · rw [hM_]
    exact (KSP_X12_comes hs83_).mono (by decide)
  · rw [hM_]
    exact kq.refl
theorem KSP_X12_lays {v : Int32} {u : Int32} {Mz : mM} {r_ : Int32} {M_ : mM} (h : SP_X12_lays v u Mz r_ M_) : kq [1] Mz M_ := by
  refine xE_SP_X12_lays h ⟨(fun hs5_ h4_ => ⟨(fun hs11_ h10_ j15_ h16_ z13_ e14_ => ⟨(fun h17_ j20_ h21_ z18_ e19_ => ⟨(fun h22_ j25_ h26_ z23_ e24_ h27_ => ⟨(fun h28_ v4_81 hv0_81 v3_81 M_81 hL_81 _ hF_81 j33_ h34_ z31_ e32_ h35_ h36_ h37_ hr_ hM_ => ?_), (fun h28_ M93_ _ hF97_ r92_ hs99_ h95_ hr_ hM_ => ?_)⟩), (fun h22_ M101_ _ hF105_ r100_ hs107_ h103_ hr_ hM_ => ?_)⟩), (fun h17_ M109_ _ hF113_ r108_ hs115_ h111_ hr_ hM_ => ?_)⟩), (fun hs11_ h10_ M118_ _ hF122_ r117_ hs124_ h120_ hr_ hM_ => ?_)⟩), (fun hs5_ h4_ M127_ _ hF131_ r126_ hs133_ h129_ hr_ hM_ => ?_)⟩
  · rw [hM_]
    have l0_ := rind hL_81 (fun z_ => kq [1] Mz z_.2.2) kq.refl (fun x_ z_ h1_ h2_ => kq.trans h1_ ((KST_X12_lays_81 h2_ (by omega) (by omega)).mono (by decide)))
    exact show kq [1] Mz M_81 from l0_
  · rw [hM_]
    exact kq_FR hF97_ (by intro j q; simp [S_c_X12_finding] at q)
  · rw [hM_]
    exact kq_FR hF105_ (by intro j q; simp [S_c_X12_finding] at q)
  · rw [hM_]
    exact kq_FR hF113_ (by intro j q; simp [S_c_X12_finding] at q)
  · rw [hM_]
    exact kq_FR hF122_ (by intro j q; simp [S_c_X12_finding] at q)
  · rw [hM_]
    exact kq_FR hF131_ (by intro j q; simp [S_c_X12_finding] at q)
theorem KSP_X12_walker {v : Int32} {u : Int32} {t : Int32} {Mz : mM} {r_ : Int32} {M_ : mM} (h : SP_X12_walker v u t Mz r_ M_) : kq [2] Mz M_ := by
  refine xE_SP_X12_walker h ⟨(fun hs5_ h4_ => ⟨(fun hs11_ h10_ => ⟨(fun hs17_ h16_ r19_ hs23_ h22_ => ⟨(fun h24_ z25_ e26_ h28_ => ⟨(fun h29_ r30_ hs34_ h33_ z35_ h36_ j39_ h40_ M37_ hM38_ z44_ h45_ j48_ h49_ M46_ hM47_ z53_ h54_ j57_ h58_ M55_ hM56_ z62_ h63_ j66_ h67_ M64_ hM65_ z71_ h72_ j75_ h76_ M73_ hM74_ z80_ e81_ h82_ h83_ z84_ h85_ M86_ hM87_ hr_ hM_ => ?_), (fun h29_ M91_ _ hF95_ r90_ hs97_ h93_ hr_ hM_ => ?_)⟩), (fun h24_ M100_ _ hF104_ r99_ hs106_ h102_ hr_ hM_ => ?_)⟩), (fun hs17_ h16_ M109_ _ hF113_ r108_ hs115_ h111_ hr_ hM_ => ?_)⟩), (fun hs11_ h10_ M118_ _ hF122_ r117_ hs124_ h120_ hr_ hM_ => ?_)⟩), (fun hs5_ h4_ M127_ _ hF131_ r126_ hs133_ h129_ hr_ hM_ => ?_)⟩
  · rw [hM_]
    exact kq.trans (kq.trans (kq.trans (kq.trans (kq.trans (kq_up hM38_ (Or.inl (by omega))) (kq_up hM47_ (Or.inl (by omega)))) (kq_up hM56_ (Or.inl (by omega)))) (kq_up hM65_ (Or.inl (by omega)))) (kq_up hM74_ (Or.inl (by omega)))) (kq_up hM87_ (Or.inr (by decide)))
  · rw [hM_]
    exact kq_FR hF95_ (by intro j q; simp [S_c_X12_finding] at q)
  · rw [hM_]
    exact kq_FR hF104_ (by intro j q; simp [S_c_X12_finding] at q)
  · rw [hM_]
    exact kq_FR hF113_ (by intro j q; simp [S_c_X12_finding] at q)
  · rw [hM_]
    exact kq_FR hF122_ (by intro j q; simp [S_c_X12_finding] at q)
  · rw [hM_]
    exact kq_FR hF131_ (by intro j q; simp [S_c_X12_finding] at q)
theorem KSP_X12_habit {v : Int32} {u : Int32} {t : Int32} {s : Int32} {Mz : mM} {r_ : Int32} {M_ : mM} (h : SP_X12_habit v u t s Mz r_ M_) : kq [] Mz M_ := by
  refine xE_SP_X12_habit h ⟨(fun hs5_ h4_ => ⟨(fun hs11_ h10_ => ⟨(fun hs17_ h16_ => ⟨(fun hs23_ h22_ r25_ hs29_ h28_ z30_ h31_ j34_ h35_ M32_ hM33_ _ r38_ hs42_ h41_ z43_ h44_ j47_ h48_ M45_ hM46_ _ r51_ hs55_ h54_ z56_ h57_ j60_ h61_ M58_ hM59_ hr_ hM_ => ?_), (fun hs23_ h22_ M66_ _ hF70_ r65_ hs72_ h68_ hr_ hM_ => ?_)⟩), (fun hs17_ h16_ M75_ _ hF79_ r74_ hs81_ h77_ hr_ hM_ => ?_)⟩), (fun hs11_ h10_ M84_ _ hF88_ r83_ hs90_ h86_ hr_ hM_ => ?_)⟩), (fun hs5_ M93_ _ hF97_ r92_ hs99_ h95_ hr_ hM_ => ?_)⟩
  · rw [hM_]
    exact kq.trans (kq.trans (kq_up hM33_ (Or.inl (by omega))) (kq_up hM46_ (Or.inl (by omega)))) (kq_up hM59_ (Or.inl (by omega)))
  · rw [hM_]
    exact kq_FR hF70_ (by intro j q; simp [S_c_X12_finding] at q)
  · rw [hM_]
    exact kq_FR hF79_ (by intro j q; simp [S_c_X12_finding] at q)
  · rw [hM_]
    exact kq_FR hF88_ (by intro j q; simp [S_c_X12_finding] at q)
  · rw [hM_]
    exact kq_FR hF97_ (by intro j q; simp [S_c_X12_finding] at q)
theorem KSP_X12_face {v : Int32} {u : Int32} {Mz : mM} {r_ : Int32} {M_ : mM} (h : SP_X12_face v u Mz r_ M_) : kq [] Mz M_ := by
  refine xE_SP_X12_face h ⟨(fun hs5_ h4_ => ⟨(fun hs11_ h10_ r13_ hs17_ h16_ z18_ h19_ M21_ _ hF25_ r20_ hs27_ hr_ hM_ => ?_), (fun hs11_ h10_ M30_ _ hF34_ r29_ hs36_ h32_ hr_ hM_ => ?_)⟩), (fun hs5_ M39_ _ hF43_ r38_ hs45_ h41_ hr_ hM_ => ?_)⟩
  · rw [hM_]
    exact (KSP_X12_become hs27_ (by omega)).mono (by decide)
  · rw [hM_]
    exact kq_FR hF34_ (by intro j q; simp [S_c_X12_finding] at q)
  · rw [hM_]
    exact kq_FR hF43_ (by intro j q; simp [S_c_X12_finding] at q)
theorem KSP_X12_goes {v : Int32} {u : Int32} {Mz : mM} {r_ : Int32} {M_ : mM} (h : SP_X12_goes v u Mz r_ M_) (hu : 0 ≤ u.toInt ∧ u.toInt ≤ 1) : kq [] Mz M_ := by
  refine xE_SP_X12_goes h ⟨(fun hs5_ h4_ r7_ hs11_ h10_ z12_ h13_ => ⟨(fun h14_ M16_ _ hF20_ r15_ hs22_ hr_ hM_ => ?_), (fun h14_ M24_ _ hF28_ r23_ hs30_ hr_ hM_ => ?_)⟩), (fun hs5_ M33_ _ hF37_ r32_ hs39_ h35_ hr_ hM_ => ?_)⟩
  · rw [hM_]
    exact (KSP_X12_become hs22_ (by omega)).mono (by decide)
  · rw [hM_]
    exact (KSP_X12_become hs30_ (by omega)).mono (by decide)
  · rw [hM_]
    exact kq_FR hF37_ (by intro j q; simp [S_c_X12_finding] at q)
theorem KSP_X12_more {v : Int32} {u : Int32} {Mz : mM} {M_ : mM} (h : SP_X12_more v u Mz M_) (hv : 494 ≤ v.toInt ∧ v.toInt ≤ 3566) : kq [] Mz M_ := by
  refine xE_SP_X12_more h (fun j3_ h4_ z1_ e2_ z5_ h6_ z7_ h8_ j11_ h12_ M9_ hM10_ hM_ => ?_)
  · rw [hM_]
    exact kq_up hM10_ (Or.inl (by omega))
theorem KST_X12_clicks_55 {v : Int32} {Mz : mM} {z8_ : Int32} {v4_35 : Int32} {r34_ : Int32} {v6_55 : Int32} {M_55 : mM} {v6_55y : Int32} {M_55y : mM} (h : ST_X12_clicks_55 v Mz z8_ v4_35 r34_ v6_55 M_55 v6_55y M_55y) (hv0_35 : 0 ≤ v4_35.toInt) (hv1_35 : v4_35.toInt ≤ 8) (h33_ : v4_35.toInt < 8) (hv : 0 ≤ v.toInt ∧ v.toInt ≤ 7) : kq [] M_55 M_55y := by
  refine xE_ST_X12_clicks_55 h (fun hv0_55 _ hF_55 h43_ r68_ hs72_ h71_ r73_ hs77_ h76_ M78_ _ hF82_ hs84_ z85_ h86_ hq_v6_55y hM_ => ?_)
  · rw [hM_]
    exact (KSP_X12_more hs84_ (by omega)).mono (by decide)
theorem KST_X12_clicks_35 {v : Int32} {Mz : mM} {z8_ : Int32} {v4_35 : Int32} {v3_35 : Int32} {M_35 : mM} {v4_35y : Int32} {v3_35y : Int32} {M_35y : mM} (h : ST_X12_clicks_35 v Mz z8_ v4_35 v3_35 M_35 v4_35y v3_35y M_35y) (h12_ : 0 ≤ z8_.toInt ∧ z8_.toInt ≤ 191) (hv : 0 ≤ v.toInt ∧ v.toInt ≤ 7) : kq [] M_35 M_35y := by
  refine xE_ST_X12_clicks_35 h (fun hv0_35 hv1_35 _ hF_35 h33_ M35_ _ hF39_ r34_ hs41_ h37_ v6_55 hv0_55 M_55 hL_55 _ hF_55 h43_ => ⟨(fun h44_ z45_ h46_ hq_v4_35y hq_v3_35y hM_ => ?_), (fun h44_ r47_ hs51_ h50_ r52_ hs56_ h55_ M57_ _ hF61_ hs63_ z64_ h65_ z66_ h67_ hq_v4_35y hq_v3_35y hM_ => ?_)⟩)
  · rw [hM_]
    have l0_ := rind hL_55 (fun z_ => kq [] M35_ z_.2) kq.refl (fun x_ z_ h1_ h2_ => kq.trans h1_ ((KST_X12_clicks_55 h2_ (by omega) (by omega) (by omega) (by omega)).mono (by decide)))
    exact kq.trans (kq_FR hF39_ (by intro j q; simp [S_c_X12_heardFrom] at q)) (show kq [] M35_ M_55 from l0_)
  · rw [hM_]
    have l0_ := rind hL_55 (fun z_ => kq [] M35_ z_.2) kq.refl (fun x_ z_ h1_ h2_ => kq.trans h1_ ((KST_X12_clicks_55 h2_ (by omega) (by omega) (by omega) (by omega)).mono (by decide)))
    exact kq.trans (kq.trans (kq_FR hF39_ (by intro j q; simp [S_c_X12_heardFrom] at q)) (show kq [] M35_ M_55 from l0_)) ((KSP_X12_more hs63_ (by omega)).mono (by decide))
theorem KSP_X12_clicks {v : Int32} {Mz : mM} {r_ : Int32} {M_ : mM} (h : SP_X12_clicks v Mz r_ M_) (hv : 0 ≤ v.toInt ∧ v.toInt ≤ 7) : kq [] Mz M_ := by
  refine xE_SP_X12_clicks h (fun r1_ hs5_ h4_ z6_ h7_ j10_ h11_ z8_ e9_ h12_ r13_ hs17_ h16_ z18_ h19_ j22_ h23_ z20_ e21_ z24_ h25_ j28_ h29_ M26_ hM27_ v4_35 hv0_35 hv1_35 v3_35 M_35 hL_35 _ hF_35 h33_ hr_ hM_ => ?_)
  · rw [hM_]
    have l0_ := rind hL_35 (fun z_ => kq [] M26_ z_.2.2) kq.refl (fun x_ z_ h1_ h2_ => kq.trans h1_ ((KST_X12_clicks_35 h2_ (by omega) (by omega)).mono (by decide)))
    exact kq.trans (kq_up hM27_ (Or.inl (by omega))) (show kq [] M26_ M_35 from l0_)
theorem KSP_X12_click {v : Int32} {Mz : mM} {r_ : Int32} {M_ : mM} (h : SP_X12_click v Mz r_ M_) : kq [] Mz M_ := by
  refine xE_SP_X12_click h ⟨(fun hs5_ h4_ r7_ hs11_ h10_ r12_ hs16_ h15_ => ⟨(fun h17_ M19_ _ hF23_ r18_ hs25_ h21_ hr_ hM_ => ?_), (fun h17_ M27_ _ hF31_ r26_ hs33_ hr_ hM_ => ?_)⟩), (fun hs5_ M36_ _ hF40_ r35_ hs42_ h38_ hr_ hM_ => ?_)⟩
  · rw [hM_]
    exact kq_FR hF23_ (by intro j q; simp [S_c_X12_finding] at q)
  · rw [hM_]
    exact (KSP_X12_clicks hs33_ (by omega)).mono (by decide)
  · rw [hM_]
    exact kq_FR hF40_ (by intro j q; simp [S_c_X12_finding] at q)
theorem KSP_X12_lesson {v : Int32} {u : Int32} {t : Int32} {Mz : mM} {r_ : Int32} {M_ : mM} (h : SP_X12_lesson v u t Mz r_ M_) : kq [3] Mz M_ := by
  refine xE_SP_X12_lesson h ⟨(fun hs5_ h4_ => ⟨(fun hs11_ h10_ => ⟨(fun hs17_ h16_ z19_ e20_ h22_ => ⟨(fun h23_ z24_ h25_ z26_ h27_ j30_ h31_ M28_ hM29_ z35_ h36_ z37_ h38_ z39_ h40_ j43_ h44_ M41_ hM42_ z48_ h49_ z50_ h51_ z52_ h53_ j56_ h57_ M54_ hM55_ z61_ e62_ h63_ h64_ z65_ h66_ M67_ hM68_ hr_ hM_ => ?_), (fun h23_ M72_ _ hF76_ r71_ hs78_ h74_ hr_ hM_ => ?_)⟩), (fun hs17_ h16_ M82_ _ hF86_ r81_ hs88_ h84_ hr_ hM_ => ?_)⟩), (fun hs11_ h10_ M91_ _ hF95_ r90_ hs97_ h93_ hr_ hM_ => ?_)⟩), (fun hs5_ h4_ M100_ _ hF104_ r99_ hs106_ h102_ hr_ hM_ => ?_)⟩
  · rw [hM_]
    exact kq.trans (kq.trans (kq.trans (kq_up hM29_ (Or.inl (by omega))) (kq_up hM42_ (Or.inl (by omega)))) (kq_up hM55_ (Or.inl (by omega)))) (kq_up hM68_ (Or.inr (by decide)))
  · rw [hM_]
    exact kq_FR hF76_ (by intro j q; simp [S_c_X12_finding] at q)
  · rw [hM_]
    exact kq_FR hF86_ (by intro j q; simp [S_c_X12_finding] at q)
  · rw [hM_]
    exact kq_FR hF95_ (by intro j q; simp [S_c_X12_finding] at q)
  · rw [hM_]
    exact kq_FR hF104_ (by intro j q; simp [S_c_X12_finding] at q)
theorem KSP_X12_tell {v : Int32} {Mz : mM} {r_ : Int32} {M_ : mM} (h : SP_X12_tell v Mz r_ M_) : kq [5] Mz M_ := by
  refine xE_SP_X12_tell h (fun z1_ e2_ h4_ => ⟨(fun h5_ z6_ e7_ h8_ h9_ z10_ h11_ j14_ h15_ M12_ hM13_ z19_ e20_ h21_ h22_ z23_ h24_ M25_ hM26_ z29_ e30_ h32_ hr_ hM_ => ?_), (fun h5_ M34_ _ hF38_ r33_ hs40_ h36_ hr_ hM_ => ?_)⟩)
  · rw [hM_]
    exact kq.trans (kq_up hM13_ (Or.inl (by omega))) (kq_up hM26_ (Or.inr (by decide)))
  · rw [hM_]
    exact kq_FR hF38_ (by intro j q; simp [S_c_X12_finding] at q)
theorem KSP_X12_thingGoes {v : Int32} {Mz : mM} {M_ : mM} (h : SP_X12_thingGoes v Mz M_) (hv : 0 ≤ v.toInt ∧ v.toInt ≤ 39) : kq [] Mz M_ := by
  refine xE_SP_X12_thingGoes h (fun r1_ hs5_ h4_ z6_ h7_ j10_ h11_ z8_ e9_ r12_ hs16_ h15_ z17_ h18_ j21_ h22_ z19_ e20_ h23_ r24_ hs28_ h27_ z29_ h30_ j33_ h34_ z31_ e32_ h35_ => ⟨(fun h36_ hM_ => ?_), (fun h36_ => ⟨(fun h37_ hM_ => ?_), (fun h37_ => ⟨(fun h38_ hM_ => ?_), (fun h38_ z39_ e40_ z41_ h42_ => ⟨(fun h43_ r44_ hs48_ h47_ z49_ h50_ j53_ h54_ z51_ e52_ h55_ r56_ hs60_ h59_ => ⟨(fun h61_ r62_ hs66_ h65_ z67_ h68_ r69_ hs73_ h72_ z74_ h75_ j78_ h79_ z76_ e77_ h80_ z81_ h82_ z83_ h85_ h84_ j88_ h89_ M86_ hM87_ hM_ => ?_), (fun h61_ r92_ hs96_ h95_ => ⟨(fun h97_ r98_ hs102_ h101_ z103_ h104_ r105_ hs109_ h108_ z110_ h111_ j114_ h115_ z112_ e113_ h116_ z117_ h118_ z119_ h121_ h120_ j124_ h125_ M122_ hM123_ hM_ => ?_), (fun h97_ r128_ hs132_ h131_ z133_ h134_ j137_ h138_ M135_ hM136_ hM_ => ?_)⟩)⟩), (fun h43_ hM_ => ?_)⟩)⟩)⟩)⟩)
  · rw [hM_]
    exact kq.refl
  · rw [hM_]
    exact kq.refl
  · rw [hM_]
    exact kq.refl
  · rw [hM_]
    exact kq_up hM87_ (Or.inl (by omega))
  · rw [hM_]
    exact kq_up hM123_ (Or.inl (by omega))
  · rw [hM_]
    exact kq_up hM136_ (Or.inl (by omega))
  · rw [hM_]
    exact kq.refl
theorem KST_X12_tenth_12 {Mz : mM} {v1_12 : Int32} {M_12 : mM} {v1_12y : Int32} {M_12y : mM} (h : ST_X12_tenth_12 Mz v1_12 M_12 v1_12y M_12y) : kq [] M_12 M_12y := by
  refine xE_ST_X12_tenth_12 h (fun hv0_12 _ hF_12 z10_ e11_ h12_ h13_ M28_ _ hF32_ hs34_ z35_ h36_ hq_v1_12y hM_ => ?_)
  · rw [hM_]
    exact (KSP_X12_thingGoes hs34_ (by omega)).mono (by decide)
theorem KST_X12_goesOn_22 {Mz : mM} {r1_ : Int32} {v3_22 : Int32} {M_22 : mM} {v3_22y : Int32} {M_22y : mM} {v : Int32} (h : ST_X12_goesOn_22 Mz r1_ v3_22 M_22 v3_22y M_22y) (h4_ : r1_.toInt = 180 + 9 * v.toInt) (hv : 0 ≤ v.toInt ∧ v.toInt ≤ 7) : kq [] M_22 M_22y := by
  refine xE_ST_X12_goesOn_22 h (fun hv0_22 _ hF_22 h13_ z14_ h15_ j18_ h19_ z16_ e17_ h20_ z21_ h22_ j25_ h26_ z23_ e24_ h27_ r28_ hs32_ h31_ h33_ r49_ hs53_ h52_ h54_ z55_ h56_ j59_ h60_ M57_ hM58_ z63_ h64_ hq_v3_22y hM_ => ?_)
  · rw [hM_]
    exact kq_up hM58_ (Or.inl (by omega))
theorem KST_X12_goesOn_22b {Mz : mM} {r1_ : Int32} {v3_22 : Int32} {M_22 : mM} {v3_22y : Int32} {M_22y : mM} {v : Int32} (h : ST_X12_goesOn_22b Mz r1_ v3_22 M_22 v3_22y M_22y) (h4_ : r1_.toInt = 180 + 9 * v.toInt) (hv : 0 ≤ v.toInt ∧ v.toInt ≤ 7) : kq [] M_22 M_22y := by
  refine xE_ST_X12_goesOn_22b h (fun hv0_22 _ hF_22 h93_ z94_ h95_ j98_ h99_ z96_ e97_ h100_ z101_ h102_ j105_ h106_ z103_ e104_ h107_ r108_ hs112_ h111_ h113_ r129_ hs133_ h132_ h134_ z135_ h136_ j139_ h140_ M137_ hM138_ z143_ h144_ hq_v3_22y hM_ => ?_)
  · rw [hM_]
    exact kq_up hM138_ (Or.inl (by omega))
theorem KSP_X12_goesOn {v : Int32} {Mz : mM} {M_ : mM} (h : SP_X12_goesOn v Mz M_) (hv : 0 ≤ v.toInt ∧ v.toInt ≤ 7) : kq [] Mz M_ := by
  refine xE_SP_X12_goesOn h (fun r1_ hs5_ h4_ r6_ hs10_ h9_ => ⟨(fun h11_ v3_22 hv0_22 M_22 hL_22 _ hF_22 => ⟨(fun h13_ hM_ => ?_), (fun h13_ z14_ h15_ j18_ h19_ z16_ e17_ h20_ z21_ h22_ j25_ h26_ z23_ e24_ h27_ r28_ hs32_ h31_ => ⟨(fun h33_ z34_ h35_ j38_ h39_ z36_ e37_ z40_ h41_ j44_ h45_ M42_ hM43_ h48_ hM_ => ?_), (fun h33_ r49_ hs53_ h52_ h54_ z65_ h66_ j69_ h70_ z67_ e68_ z71_ h72_ j75_ h76_ M73_ hM74_ h79_ _ r80_ hs84_ h83_ M85_ _ hF89_ hs91_ hM_ => ?_)⟩)⟩), (fun h11_ v3_22 hv0_22 M_22 hL_22 _ hF_22 => ⟨(fun h93_ hM_ => ?_), (fun h93_ z94_ h95_ j98_ h99_ z96_ e97_ h100_ z101_ h102_ j105_ h106_ z103_ e104_ h107_ r108_ hs112_ h111_ => ⟨(fun h113_ z114_ h115_ j118_ h119_ z116_ e117_ z120_ h121_ j124_ h125_ M122_ hM123_ h128_ hM_ => ?_), (fun h113_ r129_ hs133_ h132_ h134_ z145_ h146_ j149_ h150_ z147_ e148_ z151_ h152_ j155_ h156_ M153_ hM154_ h159_ _ r160_ hs164_ h163_ M165_ _ hF169_ hs171_ hM_ => ?_)⟩)⟩)⟩)
  · rw [hM_]
    have l0_ := rind hL_22 (fun z_ => kq [] Mz z_.2) kq.refl (fun x_ z_ h1_ h2_ => kq.trans h1_ ((KST_X12_goesOn_22 (v := v) h2_ (by omega) (by omega)).mono (by decide)))
    exact show kq [] Mz M_22 from l0_
  · rw [hM_]
    have l0_ := rind hL_22 (fun z_ => kq [] Mz z_.2) kq.refl (fun x_ z_ h1_ h2_ => kq.trans h1_ ((KST_X12_goesOn_22 (v := v) h2_ (by omega) (by omega)).mono (by decide)))
    exact kq.trans (show kq [] Mz M_22 from l0_) (kq_up hM43_ (Or.inl (by omega)))
  · rw [hM_]
    have l0_ := rind hL_22 (fun z_ => kq [] Mz z_.2) kq.refl (fun x_ z_ h1_ h2_ => kq.trans h1_ ((KST_X12_goesOn_22 (v := v) h2_ (by omega) (by omega)).mono (by decide)))
    exact kq.trans (kq.trans (show kq [] Mz M_22 from l0_) (kq_up hM74_ (Or.inl (by omega)))) ((KSP_X12_more hs91_ (by omega)).mono (by decide))
  · rw [hM_]
    have l0_ := rind hL_22 (fun z_ => kq [] Mz z_.2) kq.refl (fun x_ z_ h1_ h2_ => kq.trans h1_ ((KST_X12_goesOn_22b (v := v) h2_ (by omega) (by omega)).mono (by decide)))
    exact show kq [] Mz M_22 from l0_
  · rw [hM_]
    have l0_ := rind hL_22 (fun z_ => kq [] Mz z_.2) kq.refl (fun x_ z_ h1_ h2_ => kq.trans h1_ ((KST_X12_goesOn_22b (v := v) h2_ (by omega) (by omega)).mono (by decide)))
    exact kq.trans (show kq [] Mz M_22 from l0_) (kq_up hM123_ (Or.inl (by omega)))
  · rw [hM_]
    have l0_ := rind hL_22 (fun z_ => kq [] Mz z_.2) kq.refl (fun x_ z_ h1_ h2_ => kq.trans h1_ ((KST_X12_goesOn_22b (v := v) h2_ (by omega) (by omega)).mono (by decide)))
    exact kq.trans (kq.trans (show kq [] Mz M_22 from l0_) (kq_up hM154_ (Or.inl (by omega)))) ((KSP_X12_more hs171_ (by omega)).mono (by decide))
theorem KSP_X12_walkerGoes {v : Int32} {Mz : mM} {M_ : mM} (h : SP_X12_walkerGoes v Mz M_) (hv : 0 ≤ v.toInt ∧ v.toInt ≤ 7) : kq [] Mz M_ := by
  refine xE_SP_X12_walkerGoes h (fun r1_ hs5_ h4_ z6_ h7_ j10_ h11_ z8_ e9_ z12_ h13_ j16_ h17_ z14_ e15_ => ⟨(fun h18_ => ⟨(fun h19_ M21_ _ hF25_ r20_ hs27_ => ⟨(fun h28_ z29_ h30_ z31_ h32_ j35_ h36_ z33_ e34_ h37_ => ⟨(fun h38_ => ⟨(fun h39_ z40_ h41_ z42_ h44_ h43_ j47_ h48_ M45_ hM46_ hM_ => ?_), (fun h39_ z51_ h52_ z53_ h55_ h54_ j58_ h59_ M56_ hM57_ hM_ => ?_)⟩), (fun h38_ z62_ h63_ z64_ h66_ h65_ j69_ h70_ M67_ hM68_ hM_ => ?_)⟩), (fun h28_ M73_ _ hF77_ hs79_ hM_ => ?_)⟩), (fun h19_ z80_ e81_ z82_ h83_ => ⟨(fun h84_ M86_ _ hF90_ r85_ hs92_ => ⟨(fun h93_ z94_ h95_ z96_ h97_ j100_ h101_ z98_ e99_ h102_ => ⟨(fun h103_ => ⟨(fun h104_ z105_ h106_ z107_ h109_ h108_ j112_ h113_ M110_ hM111_ hM_ => ?_), (fun h104_ z116_ h117_ z118_ h120_ h119_ j123_ h124_ M121_ hM122_ hM_ => ?_)⟩), (fun h103_ z127_ h128_ z129_ h131_ h130_ j134_ h135_ M132_ hM133_ hM_ => ?_)⟩), (fun h93_ M138_ _ hF142_ hs144_ hM_ => ?_)⟩), (fun h84_ r145_ hs149_ h148_ r150_ hs154_ h153_ => ⟨(fun h155_ M157_ _ hF161_ r156_ hs163_ => ⟨(fun h164_ z165_ h166_ z167_ h168_ j171_ h172_ z169_ e170_ h173_ => ⟨(fun h174_ => ⟨(fun h175_ z176_ h177_ z178_ h180_ h179_ j183_ h184_ M181_ hM182_ hM_ => ?_), (fun h175_ z187_ h188_ z189_ h191_ h190_ j194_ h195_ M192_ hM193_ hM_ => ?_)⟩), (fun h174_ z198_ h199_ z200_ h202_ h201_ j205_ h206_ M203_ hM204_ hM_ => ?_)⟩), (fun h164_ M209_ _ hF213_ hs215_ hM_ => ?_)⟩), (fun h155_ M217_ _ hF221_ r216_ hs223_ M225_ _ hF229_ r224_ hs231_ => ⟨(fun h232_ z233_ h234_ z235_ h236_ j239_ h240_ z237_ e238_ h241_ => ⟨(fun h242_ => ⟨(fun h243_ z244_ h245_ z246_ h248_ h247_ j251_ h252_ M249_ hM250_ hM_ => ?_), (fun h243_ z255_ h256_ z257_ h259_ h258_ j262_ h263_ M260_ hM261_ hM_ => ?_)⟩), (fun h242_ z266_ h267_ z268_ h270_ h269_ j273_ h274_ M271_ hM272_ hM_ => ?_)⟩), (fun h232_ M277_ _ hF281_ hs283_ hM_ => ?_)⟩)⟩)⟩)⟩), (fun h18_ hM_ => ?_)⟩)
  · rw [hM_]
    exact kq.trans (kq_FR hF25_ (by intro j q; simp [S_c_X12_habitOf] at q)) (kq_up hM46_ (Or.inl (by omega)))
  · rw [hM_]
    exact kq.trans (kq_FR hF25_ (by intro j q; simp [S_c_X12_habitOf] at q)) (kq_up hM57_ (Or.inl (by omega)))
  · rw [hM_]
    exact kq.trans (kq_FR hF25_ (by intro j q; simp [S_c_X12_habitOf] at q)) (kq_up hM68_ (Or.inl (by omega)))
  · rw [hM_]
    exact kq.trans (kq_FR hF25_ (by intro j q; simp [S_c_X12_habitOf] at q)) ((KSP_X12_goesOn hs79_ (by omega)).mono (by decide))
  · rw [hM_]
    exact kq.trans (kq_FR hF90_ (by intro j q; simp [S_c_X12_habitOf] at q)) (kq_up hM111_ (Or.inl (by omega)))
  · rw [hM_]
    exact kq.trans (kq_FR hF90_ (by intro j q; simp [S_c_X12_habitOf] at q)) (kq_up hM122_ (Or.inl (by omega)))
  · rw [hM_]
    exact kq.trans (kq_FR hF90_ (by intro j q; simp [S_c_X12_habitOf] at q)) (kq_up hM133_ (Or.inl (by omega)))
  · rw [hM_]
    exact kq.trans (kq_FR hF90_ (by intro j q; simp [S_c_X12_habitOf] at q)) ((KSP_X12_goesOn hs144_ (by omega)).mono (by decide))
  · rw [hM_]
    exact kq.trans (kq_FR hF161_ (by intro j q; simp [S_c_X12_habitOf] at q)) (kq_up hM182_ (Or.inl (by omega)))
  · rw [hM_]
    exact kq.trans (kq_FR hF161_ (by intro j q; simp [S_c_X12_habitOf] at q)) (kq_up hM193_ (Or.inl (by omega)))
  · rw [hM_]
    exact kq.trans (kq_FR hF161_ (by intro j q; simp [S_c_X12_habitOf] at q)) (kq_up hM204_ (Or.inl (by omega)))
  · rw [hM_]
    exact kq.trans (kq_FR hF161_ (by intro j q; simp [S_c_X12_habitOf] at q)) ((KSP_X12_goesOn hs215_ (by omega)).mono (by decide))
  · rw [hM_]
    exact kq.trans (kq.trans ((KSP_X12_clicks hs223_ (by omega)).mono (by decide)) (kq_FR hF229_ (by intro j q; simp [S_c_X12_habitOf] at q))) (kq_up hM250_ (Or.inl (by omega)))
  · rw [hM_]
    exact kq.trans (kq.trans ((KSP_X12_clicks hs223_ (by omega)).mono (by decide)) (kq_FR hF229_ (by intro j q; simp [S_c_X12_habitOf] at q))) (kq_up hM261_ (Or.inl (by omega)))
  · rw [hM_]
    exact kq.trans (kq.trans ((KSP_X12_clicks hs223_ (by omega)).mono (by decide)) (kq_FR hF229_ (by intro j q; simp [S_c_X12_habitOf] at q))) (kq_up hM272_ (Or.inl (by omega)))
  · rw [hM_]
    exact kq.trans (kq.trans ((KSP_X12_clicks hs223_ (by omega)).mono (by decide)) (kq_FR hF229_ (by intro j q; simp [S_c_X12_habitOf] at q))) ((KSP_X12_goesOn hs283_ (by omega)).mono (by decide))
  · rw [hM_]
    exact kq.refl
theorem KST_X12_tenth_35 {Mz : mM} {v1_35 : Int32} {M_35 : mM} {v1_35y : Int32} {M_35y : mM} (h : ST_X12_tenth_35 Mz v1_35 M_35 v1_35y M_35y) : kq [] M_35 M_35y := by
  refine xE_ST_X12_tenth_35 h (fun hv0_35 _ hF_35 z15_ e16_ h17_ h18_ M19_ _ hF23_ hs25_ z26_ h27_ hq_v1_35y hM_ => ?_)
  · rw [hM_]
    exact (KSP_X12_walkerGoes hs25_ (by omega)).mono (by decide)
theorem KSP_X12_tenth {Mz : mM} {M_ : mM} (h : SP_X12_tenth Mz M_) : kq [0] Mz M_ := by
  refine xE_SP_X12_tenth h (fun z1_ e2_ z3_ h4_ M5_ hM6_ v1_12 hv0_12 M_12 hL_12 _ hF_12 z10_ e11_ h12_ h13_ v1_35 hv0_35 M_35 hL_35 _ hF_35 z15_ e16_ h17_ h18_ hM_ => ?_)
  · rw [hM_]
    have l0_ := rind hL_12 (fun z_ => kq [0] M5_ z_.2) kq.refl (fun x_ z_ h1_ h2_ => kq.trans h1_ ((KST_X12_tenth_12 h2_).mono (by decide)))
    have l1_ := rind hL_35 (fun z_ => kq [0] M_12 z_.2) kq.refl (fun x_ z_ h1_ h2_ => kq.trans h1_ ((KST_X12_tenth_35 h2_).mono (by decide)))
    exact kq.trans (kq.trans (kq_up hM6_ (Or.inr (by decide))) (show kq [0] M5_ M_12 from l0_)) (show kq [0] M_12 M_35 from l1_)
theorem KST_X12_tenths_40 {v : Int32} {Mz : mM} {v2_40 : Int32} {M_40 : mM} {v2_40y : Int32} {M_40y : mM} (h : ST_X12_tenths_40 v Mz v2_40 M_40 v2_40y M_40y) (h4_ : 1 ≤ v.toInt ∧ v.toInt ≤ 100) : kq [0] M_40 M_40y := by
  refine xE_ST_X12_tenths_40 h (fun hv0_40 _ hF_40 h13_ M16_ _ hF20_ hs22_ z23_ h24_ hq_v2_40y hM_ => ?_)
  · rw [hM_]
    exact (KSP_X12_tenth hs22_).mono (by decide)
theorem KSP_X12_tenths {v : Int32} {Mz : mM} {r_ : Int32} {M_ : mM} (h : SP_X12_tenths v Mz r_ M_) : kq [0] Mz M_ := by
  refine xE_SP_X12_tenths h ⟨(fun hs5_ h4_ z7_ e8_ z9_ h10_ => ⟨(fun h11_ v2_40 hv0_40 M_40 hL_40 _ hF_40 h13_ z14_ e15_ hr_ hM_ => ?_), (fun h11_ M26_ _ hF30_ r25_ hs32_ h28_ hr_ hM_ => ?_)⟩), (fun hs5_ h4_ M35_ _ hF39_ r34_ hs41_ h37_ hr_ hM_ => ?_)⟩
  · rw [hM_]
    have l0_ := rind hL_40 (fun z_ => kq [0] Mz z_.2) kq.refl (fun x_ z_ h1_ h2_ => kq.trans h1_ ((KST_X12_tenths_40 h2_ (by omega)).mono (by decide)))
    exact show kq [0] Mz M_40 from l0_
  · rw [hM_]
    exact kq_FR hF30_ (by intro j q; simp [S_c_X12_finding] at q)
  · rw [hM_]
    exact kq_FR hF39_ (by intro j q; simp [S_c_X12_finding] at q)
theorem KST_X12_feed_40 {v : Int64} {u : Int32} {Mz : mM} {v4_40 : Int32} {M_40 : mM} {v4_40y : Int32} {M_40y : mM} (h : ST_X12_feed_40 v u Mz v4_40 M_40 v4_40y M_40y) (h4_ : 1 ≤ u.toInt ∧ u.toInt ≤ 8) : kq [4] M_40 M_40y := by
  refine xE_ST_X12_feed_40 h (fun hv0_40 hv1_40 hv2_40 _ hF_40 h14_ z18_ e19_ h21_ z22_ h23_ z24_ h25_ w26_ h27_ w28_ h29_ z30_ h31_ j34_ h35_ M32_ hM33_ z39_ e40_ h41_ h42_ z43_ h44_ M45_ hM46_ z50_ h51_ hq_v4_40y hM_ => ?_)
  · rw [hM_]
    exact kq.trans (kq_up hM33_ (Or.inl (by omega))) (kq_up hM46_ (Or.inr (by decide)))
theorem KSP_X12_feed {v : Int64} {u : Int32} {Mz : mM} {r_ : Int32} {M_ : mM} (h : SP_X12_feed v u Mz r_ M_) : kq [4] Mz M_ := by
  refine xE_SP_X12_feed h ⟨(fun hs5_ h4_ z7_ e8_ h9_ z10_ h11_ => ⟨(fun h12_ v4_40 hv0_40 hv1_40 M_40 hv2_40 hL_40 _ hF_40 h14_ z15_ e16_ h17_ hr_ hM_ => ?_), (fun h12_ M53_ _ hF57_ r52_ hs59_ h55_ hr_ hM_ => ?_)⟩), (fun hs5_ h4_ M62_ _ hF66_ r61_ hs68_ h64_ hr_ hM_ => ?_)⟩
  · rw [hM_]
    have l0_ := rind hL_40 (fun z_ => kq [4] Mz z_.2) kq.refl (fun x_ z_ h1_ h2_ => kq.trans h1_ ((KST_X12_feed_40 h2_ (by omega)).mono (by decide)))
    exact show kq [4] Mz M_40 from l0_
  · rw [hM_]
    exact kq_FR hF57_ (by intro j q; simp [S_c_X12_finding] at q)
  · rw [hM_]
    exact kq_FR hF66_ (by intro j q; simp [S_c_X12_finding] at q)
theorem KST_X12_text__117 {v : Int32} {Mz : mM} {v2_117 : Int32} {M_117 : mM} {v2_117y : Int32} {M_117y : mM} (h : ST_X12_text__117 v Mz v2_117 M_117 v2_117y M_117y) (h4_ : 0 ≤ v.toInt ∧ v.toInt ≤ 2) : kq [] M_117 M_117y := by
  refine xE_ST_X12_text__117 h (fun hv0_117 hv1_117 hv2_117 _ hF_117 z151_ e152_ h153_ h154_ h155_ z159_ e160_ h161_ h162_ z163_ h164_ z165_ h166_ z167_ h168_ z169_ h170_ j173_ h174_ z171_ e172_ j177_ h178_ M175_ hM176_ z186_ h187_ hq_v2_117y hM_ => ?_)
  · rw [hM_]
    exact kq_up hM176_ (Or.inl (by omega))
theorem KSP_X12_text_ {v : Int32} {Mz : mM} {r_ : Int32} {M_ : mM} (h : SP_X12_text_ v Mz r_ M_) : kq [4] Mz M_ := by
  refine xE_SP_X12_text_ h ⟨(fun hs5_ h4_ M7_ hM8_ M12_ hM13_ M18_ hM19_ M25_ hM26_ M32_ hM33_ M39_ hM40_ _ M48_ _ hF52_ hs54_ z56_ e57_ h58_ => ⟨(fun h60_ M61_ hM62_ h66_ M69_ hM70_ z76_ e77_ h78_ h79_ h80_ h81_ z82_ e83_ h84_ z85_ h86_ hr_ hM_ => ?_), (fun h60_ M88_ _ hF92_ r87_ hs94_ h98_ => ⟨(fun h99_ M100_ hM101_ h105_ h108_ M110_ hM111_ z119_ e120_ h121_ h122_ h123_ h124_ z126_ e127_ h128_ h129_ z130_ h131_ z132_ h133_ z134_ e135_ h136_ h137_ j140_ h141_ M138_ hM139_ v2_117 hv0_117 hv1_117 M_117 hv2_117 hL_117 _ hF_117 z151_ e152_ h153_ h154_ h155_ z157_ e158_ hr_ hM_ => ?_), (fun h99_ M188_ hM189_ h193_ M196_ hM197_ z203_ e204_ h205_ h206_ h207_ h208_ z209_ e210_ h211_ z212_ h213_ hr_ hM_ => ?_)⟩)⟩), (fun hs5_ h4_ M216_ _ hF220_ r215_ hs222_ h218_ hr_ hM_ => ?_)⟩
  · rw [hM_]
    exact kq.trans (kq.trans (kq.trans (kq.trans (kq.trans (kq.trans (kq.trans (kq.trans (kq_upo hM8_ (by decide)) (kq_upo hM13_ (by decide))) (kq_upo hM19_ (by decide))) (kq_upo hM26_ (by decide))) (kq_upo hM33_ (by decide))) (kq_upo hM40_ (by decide))) (kq_FR hF52_ (by intro j q; simp [S_par] at q))) (kq_upo hM62_ (by decide))) (kq_up hM70_ (Or.inr (by decide)))
  · rw [hM_]
    have l0_ := rind hL_117 (fun z_ => kq [4] M138_ z_.2) kq.refl (fun x_ z_ h1_ h2_ => kq.trans h1_ ((KST_X12_text__117 h2_ (by omega)).mono (by decide)))
    exact kq.trans (kq.trans (kq.trans (kq.trans (kq.trans (kq.trans (kq.trans (kq.trans (kq.trans (kq.trans (kq.trans (kq_upo hM8_ (by decide)) (kq_upo hM13_ (by decide))) (kq_upo hM19_ (by decide))) (kq_upo hM26_ (by decide))) (kq_upo hM33_ (by decide))) (kq_upo hM40_ (by decide))) (kq_FR hF52_ (by intro j q; simp [S_par] at q))) (kq_FR hF92_ (by intro j q; simp [S_here] at q))) (kq_upo hM101_ (by decide))) (kq_up hM111_ (Or.inr (by decide)))) (kq_up hM139_ (Or.inl (by omega)))) (show kq [4] M138_ M_117 from l0_)
  · rw [hM_]
    exact kq.trans (kq.trans (kq.trans (kq.trans (kq.trans (kq.trans (kq.trans (kq.trans (kq.trans (kq_upo hM8_ (by decide)) (kq_upo hM13_ (by decide))) (kq_upo hM19_ (by decide))) (kq_upo hM26_ (by decide))) (kq_upo hM33_ (by decide))) (kq_upo hM40_ (by decide))) (kq_FR hF52_ (by intro j q; simp [S_par] at q))) (kq_FR hF92_ (by intro j q; simp [S_here] at q))) (kq_upo hM189_ (by decide))) (kq_up hM197_ (Or.inr (by decide)))
  · rw [hM_]
    exact kq_FR hF220_ (by intro j q; simp [S_c_X12_finding] at q)
end
section
/-! what class and model hold alike: the counts, the air, the kinds, the shape of the sheets -/
theorem il_0 : (0 : Int32).toInt = 0 := by decide
theorem il_1 : (1 : Int32).toInt = 1 := by decide
theorem il_m1 : (-1 : Int32).toInt = -1 := by decide
theorem i32e {x y : Int32} (h : x.toInt = y.toInt) : x = y := Int32.toInt_inj.mp h
theorem eT {x y : Int32} (h : x = y) : x.toInt = y.toInt := congrArg Int32.toInt h
theorem rfe {d : rf} {a b c : Nat} (h : d.1 = a ∧ d.2.1 = b ∧ d.2.2 = c) : d = (a, b, c) := by
  rcases d with ⟨x, y, z⟩
  obtain ⟨rfl, rfl, rfl⟩ := h
  rfl
theorem zupE {M M' : mM} {c c' : rf} {k k' : Nat} {v : Int32} (he : M' = up M c k v) (h : c' = c) (hk : k' = k) : M'.1 c' k' = v := by
  rw [he, h, hk]; exact up_same M c k v
theorem zupN {M M' : mM} {c c' : rf} {k k' : Nat} {v : Int32} (he : M' = up M c k v) (h : ¬ (c' = c ∧ k' = k)) : M'.1 c' k' = M.1 c' k' := by
  rw [he]; exact up_ne h
theorem zupR {M M' : mM} {c c' : rf} {k k' : Nat} {v : Int32} (he : M' = up M c k v) (h : ¬ c'.1 = c.1) : M'.1 c' k' = M.1 c' k' := zupN he (fun q => h (by rw [q.1]))
theorem zcpR {M M' : mM} {c0 c1 c' : rf} {k' a b n : Nat} (he : M' = cp M c0 c1 a b n) (h : ¬ c'.1 = c1.1) : M'.1 c' k' = M.1 c' k' := by
  rw [he, cp_other _ _ _ (fun q => h (by rw [q]))]
def PRz (c : rf) (k : Nat) (d : rf) (j : Nat) : Prop :=
  (c.2.1 < 2 ∧ d.1 = 50 + c.2.1 ∧ d.2.1 = 0 ∧ d.2.2 = 0 ∧ ((c.1 = 10 ∧ c.2.2 = 0 ∧ k = 7 ∧ j = 0) ∨ (c.1 = 3 ∧ c.2.2 = 0 ∧ k = 3 ∧ j = 3) ∨ (c.1 = 5 ∧ c.2.2 < 2 ∧ k = 1 ∧ j = 4 + c.2.2) ∨ (c.1 = 2 ∧ c.2.2 = 0 ∧ k ≤ 2 ∧ j = 6 + k) ∨ (c.1 = 26 ∧ c.2.2 = 0 ∧ k < 5 ∧ j = 9 + k) ∨ (c.1 = 27 ∧ c.2.2 = 0 ∧ k < 5 ∧ j = 14 + k))) ∨
  (c.1 = 11 ∧ c.2.1 = 0 ∧ c.2.2 = 0 ∧ k = 8 ∧ d.1 = 12 ∧ d.2.1 = 0 ∧ d.2.2 = 0 ∧ j = 3) ∨
  (c.1 = 6 ∧ c.2.1 = 0 ∧ c.2.2 < 4 ∧ d.2.1 = 0 ∧ d.2.2 = 0 ∧ j = c.2.2 ∧ ((k = 0 ∧ d.1 = 66) ∨ (k = 1 ∧ d.1 = 67)))
theorem Pz0_10 : PRz (10, 0, 0) 7 (50, 0, 0) 0 := Or.inl ⟨(by decide : (0 : Nat) < 2), rfl, rfl, rfl, Or.inl ⟨rfl, rfl, rfl, rfl⟩⟩
theorem Pz1_10 : PRz (10, 1, 0) 7 (51, 0, 0) 0 := Or.inl ⟨(by decide : (1 : Nat) < 2), rfl, rfl, rfl, Or.inl ⟨rfl, rfl, rfl, rfl⟩⟩
theorem Pz0_3 : PRz (3, 0, 0) 3 (50, 0, 0) 3 := Or.inl ⟨(by decide : (0 : Nat) < 2), rfl, rfl, rfl, Or.inr (Or.inl ⟨rfl, rfl, rfl, rfl⟩)⟩
theorem Pz1_3 : PRz (3, 1, 0) 3 (51, 0, 0) 3 := Or.inl ⟨(by decide : (1 : Nat) < 2), rfl, rfl, rfl, Or.inr (Or.inl ⟨rfl, rfl, rfl, rfl⟩)⟩
theorem Pz0_5 {w : Nat} (hw : w < 2) : PRz (5, 0, w) 1 (50, 0, 0) (4 + w) := Or.inl ⟨(by decide : (0 : Nat) < 2), rfl, rfl, rfl, Or.inr (Or.inr (Or.inl ⟨rfl, hw, rfl, rfl⟩))⟩
theorem Pz1_5 {w : Nat} (hw : w < 2) : PRz (5, 1, w) 1 (51, 0, 0) (4 + w) := Or.inl ⟨(by decide : (1 : Nat) < 2), rfl, rfl, rfl, Or.inr (Or.inr (Or.inl ⟨rfl, hw, rfl, rfl⟩))⟩
theorem Pz0_2 {k : Nat} (hk : k ≤ 2) : PRz (2, 0, 0) k (50, 0, 0) (6 + k) := Or.inl ⟨(by decide : (0 : Nat) < 2), rfl, rfl, rfl, Or.inr (Or.inr (Or.inr (Or.inl ⟨rfl, rfl, hk, rfl⟩)))⟩
theorem Pz1_2 {k : Nat} (hk : k ≤ 2) : PRz (2, 1, 0) k (51, 0, 0) (6 + k) := Or.inl ⟨(by decide : (1 : Nat) < 2), rfl, rfl, rfl, Or.inr (Or.inr (Or.inr (Or.inl ⟨rfl, rfl, hk, rfl⟩)))⟩
theorem Pz0_26 {k : Nat} (hk : k < 5) : PRz (26, 0, 0) k (50, 0, 0) (9 + k) := Or.inl ⟨(by decide : (0 : Nat) < 2), rfl, rfl, rfl, Or.inr (Or.inr (Or.inr (Or.inr (Or.inl ⟨rfl, rfl, hk, rfl⟩))))⟩
theorem Pz1_26 {k : Nat} (hk : k < 5) : PRz (26, 1, 0) k (51, 0, 0) (9 + k) := Or.inl ⟨(by decide : (1 : Nat) < 2), rfl, rfl, rfl, Or.inr (Or.inr (Or.inr (Or.inr (Or.inl ⟨rfl, rfl, hk, rfl⟩))))⟩
theorem Pz0_27 {k : Nat} (hk : k < 5) : PRz (27, 0, 0) k (50, 0, 0) (14 + k) := Or.inl ⟨(by decide : (0 : Nat) < 2), rfl, rfl, rfl, Or.inr (Or.inr (Or.inr (Or.inr (Or.inr ⟨rfl, rfl, hk, rfl⟩))))⟩
theorem Pz1_27 {k : Nat} (hk : k < 5) : PRz (27, 1, 0) k (51, 0, 0) (14 + k) := Or.inl ⟨(by decide : (1 : Nat) < 2), rfl, rfl, rfl, Or.inr (Or.inr (Or.inr (Or.inr (Or.inr ⟨rfl, rfl, hk, rfl⟩))))⟩
theorem Pz_11 : PRz (11, 0, 0) 8 (12, 0, 0) 3 := Or.inr (Or.inl ⟨rfl, rfl, rfl, rfl, rfl, rfl, rfl, rfl⟩)
theorem Pz_6a {w : Nat} (hw : w < 4) : PRz (6, 0, w) 0 (66, 0, 0) w := Or.inr (Or.inr ⟨rfl, rfl, hw, rfl, rfl, rfl, Or.inl ⟨rfl, rfl⟩⟩)
theorem Pz_6b {w : Nat} (hw : w < 4) : PRz (6, 0, w) 1 (67, 0, 0) w := Or.inr (Or.inr ⟨rfl, rfl, hw, rfl, rfl, rfl, Or.inr ⟨rfl, rfl⟩⟩)
/-- .. of what the image keeps only once there is one -/
def RXz (m : rf → Nat → Int32) : Prop := ∀ c k d j, PRz c k d j → (c.2.1 = 1 → ¬ (m (12, 0, 0) 3).toInt = 0) → m c k = m d j
theorem RXzg {m : rf → Nat → Int32} {c d : rf} {k j : Nat} (h : RXz m) (p : PRz c k d j) (h1 : ¬ c.2.1 = 1) : m c k = m d j := h c k d j p (fun q => absurd q h1)
theorem RXzi {m : rf → Nat → Int32} (h : RXz m) {c d : rf} {k j : Nat} (p : PRz c k d j) (h1 : ¬ c.2.1 = 1 := by simp) : (m c k).toInt = (m d j).toInt := eT (RXzg h p h1)
theorem kq_at {T : List Nat} {M M' : mM} (h : kq T M M') {d : rf} {j : Nat} (hd : d.1 = 50 ∧ d.2.1 = 0 ∧ d.2.2 = 0) (hj : j ≤ 19 ∧ ¬ j ∈ T) : M'.1 d j = M.1 d j := by
  rw [rfe hd]; exact h j hj.1 hj.2
theorem RXz_t {M M1 M2 : mM} {S1 S2 : rf → Nat → Prop} {T : List Nat} (E : rf → Nat → Prop) (h : RXz M.1) (hF1 : FR S1 M M1) (hF2 : FR S2 M1 M2) (hq : kq T M1 M2)
    (hc : M2.1 (12, 0, 0) 3 = M.1 (12, 0, 0) 3 ∨ ∀ (c : rf) (k : Nat), c.2.1 = 1 → E c k)
    (he : ∀ c k d j, PRz c k d j → E c k → (c.2.1 = 1 → ¬ (M2.1 (12, 0, 0) 3).toInt = 0) → M2.1 c k = M2.1 d j)
    (hn : ∀ c k d j, PRz c k d j → ¬ E c k → ¬ S1 c k ∧ ¬ S1 d j ∧ ¬ S2 c k ∧ ((d.1 = 50 ∧ d.2.1 = 0 ∧ d.2.2 = 0 ∧ j ≤ 19 ∧ ¬ j ∈ T) ∨ ¬ S2 d j)) : RXz M2.1 := fun c k d j p g => by
  by_cases e : E c k
  · exact he c k d j p e g
  · obtain ⟨a1, a2, a3, a4⟩ := hn c k d j p e
    have hd : M2.1 d j = M1.1 d j := by
      rcases a4 with a4 | a4
      · exact kq_at hq ⟨a4.1, a4.2.1, a4.2.2.1⟩ a4.2.2.2
      · exact hF2 d j a4
    rw [hF2 c k a3, hF1 c k a1, hd, hF1 d j a2]
    refine h c k d j p (fun q => ?_)
    rcases hc with hc | hc
    · rw [← hc]; exact g q
    · exact absurd (hc c k q) e
/-! counts are within their bounds -/
theorem pn50 {M : mM} (hD : InvD M) (j : Nat) : PN j (M.1 (50, 0, 0) j) := hD.2.1.1 j
theorem err_r {v : Int32} {Mz : mM} {r_ : Int32} {M_ : mM} (h : SP_X11_error v Mz r_ M_) (hv : 0 ≤ v.toInt ∧ v.toInt ≤ 6) : r_.toInt = -1000000 - v.toInt := by
  refine xE_SP_X11_error h ⟨(fun h1_ z2_ h3_ hr_ hM_ => ?_), (fun h1_ => ⟨(fun h4_ z5_ h6_ hr_ hM_ => ?_), (fun h4_ j9_ h10_ z7_ e8_ z11_ h12_ j15_ h16_ M13_ hM14_ z19_ h20_ hr_ hM_ => ?_)⟩)⟩
  · rw [hr_]; omega
  · omega
  · rw [hr_]; omega
theorem err1 {M M' : mM} {r : Int32} (h : SP_X11_error 1 M r M') : r.toInt = -1000001 := (err_r h (by decide)).trans (by decide)
theorem err2 {M M' : mM} {r : Int32} (h : SP_X11_error 2 M r M') : r.toInt = -1000002 := (err_r h (by decide)).trans (by decide)
theorem err3 {M M' : mM} {r : Int32} (h : SP_X11_error 3 M r M') : r.toInt = -1000003 := (err_r h (by decide)).trans (by decide)
theorem err4 {M M' : mM} {r : Int32} (h : SP_X11_error 4 M r M') : r.toInt = -1000004 := (err_r h (by decide)).trans (by decide)
theorem err5 {M M' : mM} {r : Int32} (h : SP_X11_error 5 M r M') : r.toInt = -1000005 := (err_r h (by decide)).trans (by decide)
theorem err6 {M M' : mM} {r : Int32} (h : SP_X11_error 6 M r M') : r.toInt = -1000006 := (err_r h (by decide)).trans (by decide)
/-! put, move: by bits and sizes -/
theorem x6miss {w : Nat} {M : mM} {r : Int32} (h : SP_X6_isMissing w M r) : (r.toInt = 1 ∧ (M.1 (6, 0, w) 0).toInt = 0) ∨ (r.toInt = 0 ∧ ¬ (M.1 (6, 0, w) 0).toInt = 0) := by
  have q0 := il_0
  have q1 := il_1
  refine xE_SP_X6_isMissing h (fun z1_ e2_ => ⟨(fun h3_ hr_ => ?_), (fun h3_ hr_ => ?_)⟩)
  · have := eT e2_; have := eT hr_; omega
  · have := eT e2_; have := eT hr_; omega
theorem x6has {w : Nat} {v : Int32} {M : mM} {r : Int32} (h : SP_X6_has w v M r) : (r.toInt = 1 ∧ 0 ≤ v.toInt ∧ v.toInt < (M.1 (6, 0, w) 1).toInt) ∨ (r.toInt = 0 ∧ ¬ (0 ≤ v.toInt ∧ v.toInt < (M.1 (6, 0, w) 1).toInt)) := by
  have q0 := il_0
  have q1 := il_1
  refine xE_SP_X6_has h ⟨(fun h1_ hr_ => ?_), (fun h1_ z2_ e3_ h4_ => ⟨(fun h5_ hr_ => ?_), (fun h5_ h6_ hr_ => ?_)⟩)⟩
  · have := eT hr_; omega
  · have := eT e3_; have := eT hr_; omega
  · have := eT e3_; have := eT hr_; omega
theorem x6run {w : Nat} {v u : Int32} {M : mM} {r : Int32} (h : SP_X6_hasRun w v u M r) : (r.toInt = 1 ∧ 0 ≤ v.toInt ∧ 0 ≤ u.toInt ∧ v.toInt + u.toInt ≤ (M.1 (6, 0, w) 1).toInt) ∨ (r.toInt = 0 ∧ ¬ (0 ≤ v.toInt ∧ 0 ≤ u.toInt ∧ v.toInt + u.toInt ≤ (M.1 (6, 0, w) 1).toInt)) := by
  have q0 := il_0
  have q1 := il_1
  refine xE_SP_X6_hasRun h ⟨(fun h1_ hr_ => ?_), (fun h1_ => ⟨(fun h2_ hr_ => ?_), (fun h2_ z3_ e4_ h5_ => ⟨(fun h6_ hr_ => ?_), (fun h6_ z9_ h10_ => ⟨(fun h11_ hr_ => ?_), (fun h11_ hr_ => ?_)⟩)⟩)⟩)⟩
  · have := eT hr_; omega
  · have := eT hr_; omega
  · have := eT e4_; have := eT hr_; omega
  · have := eT e4_; have := eT hr_; omega
  · have := eT e4_; have := eT hr_; omega
def PUTN (v u : Int32) (r bits size : Int) : Prop := (¬ (0 ≤ v.toInt ∧ v.toInt ≤ 3) ∧ r = -1000001) ∨ ((0 ≤ v.toInt ∧ v.toInt ≤ 3) ∧ ((bits = 0 ∧ r = -1000002) ∨ (¬ bits = 0 ∧ ¬ (0 ≤ u.toInt ∧ u.toInt < size) ∧ r = -1000001) ∨ (¬ bits = 0 ∧ (0 ≤ u.toInt ∧ u.toInt < size) ∧ r = 1)))
theorem nnC_put {v u t : Int32} {M M1 : mM} {r : Int32} (h : SP_X11_put v u t M r M1) : PUTN v u r.toInt (M.1 (6, 0, v.toInt.toNat) 0).toInt (M.1 (6, 0, v.toInt.toNat) 1).toInt := by
  have q0 := il_0
  have q1 := il_1
  unfold PUTN
  refine xE_SP_X11_put h ⟨(fun hs5_ h4_ j7_ h8_ h9_ r10_ hs14_ h13_ => ⟨(fun h15_ j16_ h17_ h18_ => ⟨(fun hs23_ h22_ j25_ h26_ h27_ M28_ _ hF32_ hs34_ hr_ hM_ => ?_), (fun hs23_ M37_ _ hF41_ r36_ hs43_ hr_ hM_ => ?_)⟩), (fun h15_ M45_ _ hF49_ r44_ hs51_ hr_ hM_ => ?_)⟩), (fun hs5_ h4_ M54_ _ hF58_ r53_ hs60_ hr_ hM_ => ?_)⟩
  · obtain rfl : j7_ = v.toInt.toNat := by omega
    obtain rfl : j16_ = v.toInt.toNat := by omega
    have a := x6miss hs14_; have b := x6has hs23_; have := eT hr_; omega
  · obtain rfl : j7_ = v.toInt.toNat := by omega
    obtain rfl : j16_ = v.toInt.toNat := by omega
    have a := x6miss hs14_; have b := x6has hs23_; have := eT hr_; have := err1 hs43_; omega
  · obtain rfl : j7_ = v.toInt.toNat := by omega
    have a := x6miss hs14_; have := eT hr_; have := err2 hs51_; omega
  · have := eT hr_; have := err1 hs60_; omega
theorem nnD_put {v u t : Int32} {M M1 : mM} {r : Int32} (h : SP_X12_put v u t M r M1) : PUTN v u r.toInt (M.1 (66, 0, 0) v.toInt.toNat).toInt (M.1 (67, 0, 0) v.toInt.toNat).toInt := by
  have q0 := il_0
  have q1 := il_1
  unfold PUTN
  refine xE_SP_X12_put h ⟨(fun hs5_ h4_ j9_ h10_ z7_ e8_ => ⟨(fun h11_ j14_ h15_ z12_ e13_ h16_ z17_ h18_ => ⟨(fun hs23_ h22_ z25_ h26_ z27_ h28_ j31_ h32_ z29_ e30_ => ⟨(fun h33_ j36_ h37_ z34_ e35_ => ⟨(fun h38_ j41_ h42_ M39_ hM40_ hr_ hM_ => ?_), (fun h38_ z45_ h46_ j49_ h50_ M47_ hM48_ hr_ hM_ => ?_)⟩), (fun h33_ z53_ h54_ j57_ h58_ M55_ hM56_ hr_ hM_ => ?_)⟩), (fun hs23_ h22_ M63_ _ hF67_ r62_ hs69_ h65_ hr_ hM_ => ?_)⟩), (fun h11_ M71_ _ hF75_ r70_ hs77_ h73_ hr_ hM_ => ?_)⟩), (fun hs5_ h4_ M80_ _ hF84_ r79_ hs86_ h82_ hr_ hM_ => ?_)⟩
  all_goals try (obtain rfl : j9_ = v.toInt.toNat := by omega)
  all_goals try (obtain rfl : j14_ = v.toInt.toNat := by omega)
  all_goals try have y1 := eT e8_
  all_goals try have y2 := eT e13_
  all_goals have y3 := eT hr_
  all_goals omega
def MOVN (v u t s q : Int32) (r b1 s1 b2 s2 : Int) : Prop :=
  (¬ ((0 ≤ v.toInt ∧ v.toInt ≤ 3) ∧ (0 ≤ t.toInt ∧ t.toInt ≤ 3)) ∧ r = -1000001) ∨ (((0 ≤ v.toInt ∧ v.toInt ≤ 3) ∧ (0 ≤ t.toInt ∧ t.toInt ≤ 3)) ∧
    (((b1 = 0 ∨ b2 = 0) ∧ r = -1000002) ∨ (¬ (b1 = 0 ∨ b2 = 0) ∧ ((¬ b1 = b2 ∧ r = -1000005) ∨ (b1 = b2 ∧
      ((¬ (0 ≤ u.toInt ∧ 0 ≤ s.toInt ∧ 0 ≤ q.toInt ∧ u.toInt + q.toInt ≤ s1 ∧ s.toInt + q.toInt ≤ s2) ∧ r = -1000001) ∨ ((0 ≤ u.toInt ∧ 0 ≤ s.toInt ∧ 0 ≤ q.toInt ∧ u.toInt + q.toInt ≤ s1 ∧ s.toInt + q.toInt ≤ s2) ∧ r = q.toInt)))))))
theorem nnC_move {v u t s q : Int32} {M M1 : mM} {r : Int32} (h : SP_X11_move v u t s q M r M1) : MOVN v u t s q r.toInt (M.1 (6, 0, v.toInt.toNat) 0).toInt (M.1 (6, 0, v.toInt.toNat) 1).toInt (M.1 (6, 0, t.toInt.toNat) 0).toInt (M.1 (6, 0, t.toInt.toNat) 1).toInt := by
  have q0 := il_0
  have q1 := il_1
  unfold MOVN
  refine xE_SP_X11_move h ⟨(fun hs5_ h4_ => ⟨(fun hs11_ h10_ j13_ h14_ h15_ j16_ h17_ h18_ r19_ hs23_ h22_ => ⟨(fun h24_ M26_ _ hF30_ r25_ hs32_ hr_ hM_ => ?_), (fun h24_ r33_ hs37_ h36_ => ⟨(fun h38_ z39_ e40_ z41_ e42_ => ⟨(fun h43_ => ⟨(fun hs48_ h47_ => ⟨(fun hs54_ h53_ M56_ hM57_ hr_ hM_ => ?_), (fun hs54_ M62_ _ hF66_ r61_ hs68_ hr_ hM_ => ?_)⟩), (fun hs48_ M71_ _ hF75_ r70_ hs77_ hr_ hM_ => ?_)⟩), (fun h43_ M79_ _ hF83_ r78_ hs85_ hr_ hM_ => ?_)⟩), (fun h38_ M87_ _ hF91_ r86_ hs93_ hr_ hM_ => ?_)⟩)⟩), (fun hs11_ h10_ M96_ _ hF100_ r95_ hs102_ hr_ hM_ => ?_)⟩), (fun hs5_ h4_ M105_ _ hF109_ r104_ hs111_ hr_ hM_ => ?_)⟩
  all_goals try (obtain rfl : j13_ = v.toInt.toNat := by omega)
  all_goals try (obtain rfl : j16_ = t.toInt.toNat := by omega)
  all_goals try have y1 := x6miss hs23_
  all_goals try have y2 := x6miss hs37_
  all_goals try have y3 := eT e40_
  all_goals try have y4 := eT e42_
  all_goals try have y5 := x6run hs48_
  all_goals try have y6 := x6run hs54_
  all_goals try have y7 := err2 hs32_
  all_goals try have y7 := err1 hs68_
  all_goals try have y7 := err1 hs77_
  all_goals try have y7 := err5 hs85_
  all_goals try have y7 := err2 hs93_
  all_goals try have y7 := err1 hs102_
  all_goals try have y7 := err1 hs111_
  all_goals have y9 := eT hr_
  all_goals omega
theorem nnD_move {v u t s q : Int32} {M M1 : mM} {r : Int32} (h : SP_X12_move v u t s q M r M1) : MOVN v u t s q r.toInt (M.1 (66, 0, 0) v.toInt.toNat).toInt (M.1 (67, 0, 0) v.toInt.toNat).toInt (M.1 (66, 0, 0) t.toInt.toNat).toInt (M.1 (67, 0, 0) t.toInt.toNat).toInt := by
  unfold MOVN
  refine xE_SP_X12_move h ⟨(fun hs5_ h4_ => ⟨(fun hs11_ h10_ j15_ h16_ z13_ e14_ => ⟨(fun h17_ M19_ _ hF23_ r18_ hs25_ h21_ hr_ hM_ => ?_), (fun h17_ j28_ h29_ z26_ e27_ => ⟨(fun h30_ j33_ h34_ z31_ e32_ j37_ h38_ z35_ e36_ => ⟨(fun h39_ => ⟨(fun h40_ M42_ _ hF46_ r41_ hs48_ h44_ hr_ hM_ => ?_), (fun h40_ => ⟨(fun h49_ M51_ _ hF55_ r50_ hs57_ h53_ hr_ hM_ => ?_), (fun h49_ => ⟨(fun h58_ M60_ _ hF64_ r59_ hs66_ h62_ hr_ hM_ => ?_), (fun h58_ w67_ h68_ h69_ w70_ h71_ h72_ w73_ h74_ h75_ j78_ h79_ z76_ e77_ h80_ w81_ h82_ h83_ z84_ h85_ => ⟨(fun h86_ M88_ _ hF92_ r87_ hs94_ h90_ hr_ hM_ => ?_), (fun h86_ w95_ h96_ h97_ w98_ h99_ h100_ w101_ h102_ h103_ j106_ h107_ z104_ e105_ h108_ w109_ h110_ h111_ z112_ h113_ => ⟨(fun h114_ v6_127 hv0_127 M_127 hL_127 _ hF_127 h116_ v6_164 hv0_164 M_164 hL_164 _ hF_164 h118_ hr_ hM_ => ?_), (fun h114_ M156_ _ hF160_ r155_ hs162_ h158_ hr_ hM_ => ?_)⟩)⟩)⟩)⟩)⟩), (fun h39_ M164_ _ hF168_ r163_ hs170_ h166_ hr_ hM_ => ?_)⟩), (fun h30_ M172_ _ hF176_ r171_ hs178_ h174_ hr_ hM_ => ?_)⟩)⟩), (fun hs11_ h10_ M181_ _ hF185_ r180_ hs187_ h183_ hr_ hM_ => ?_)⟩), (fun hs5_ h4_ M190_ _ hF194_ r189_ hs196_ h192_ hr_ hM_ => ?_)⟩
  all_goals try (obtain rfl : j15_ = v.toInt.toNat := by omega)
  all_goals try (obtain rfl : j28_ = t.toInt.toNat := by omega)
  all_goals try (obtain rfl : j33_ = v.toInt.toNat := by omega)
  all_goals try (obtain rfl : j37_ = t.toInt.toNat := by omega)
  all_goals try (obtain rfl : j78_ = v.toInt.toNat := by omega)
  all_goals try (obtain rfl : j106_ = t.toInt.toNat := by omega)
  all_goals try have y1 := eT e14_
  all_goals try have y2 := eT e27_
  all_goals try have y3 := eT e32_
  all_goals try have y4 := eT e36_
  all_goals try have y5 := eT e77_
  all_goals try have y6 := eT e105_
  all_goals have y9 := eT hr_
  all_goals omega
theorem RXz_sh {m : rf → Nat → Int32} (h : RXz m) {w : Nat} (hw : w < 4) : (m (6, 0, w) 0).toInt = (m (66, 0, 0) w).toInt ∧ (m (6, 0, w) 1).toInt = (m (67, 0, 0) w).toInt := ⟨RXzi h (Pz_6a hw), RXzi h (Pz_6b hw)⟩
theorem eq_put {v u t : Int32} {M M1 M2 : mM} {S1 : rf → Nat → Prop} {r r' : Int32} (h : RXz M.1) (hF : FR S1 M M1) (hS : ∀ k, ¬ S1 (66, 0, 0) k ∧ ¬ S1 (67, 0, 0) k) (hc : SP_X11_put v u t M r M1) (hm : SP_X12_put v u t M1 r' M2) : r = r' := by
  have a := nnC_put hc
  have b := nnD_put hm
  rw [hF _ _ (hS _).1, hF _ _ (hS _).2] at b
  refine i32e ?_
  by_cases hv : 0 ≤ v.toInt ∧ v.toInt ≤ 3
  · obtain ⟨e1, e2⟩ := RXz_sh h (w := v.toInt.toNat) (by omega)
    rw [e1, e2] at a
    unfold PUTN at a b
    omega
  · unfold PUTN at a b
    omega
theorem eq_move {v u t s q : Int32} {M M1 M2 : mM} {S1 : rf → Nat → Prop} {r r' : Int32} (h : RXz M.1) (hF : FR S1 M M1) (hS : ∀ k, ¬ S1 (66, 0, 0) k ∧ ¬ S1 (67, 0, 0) k) (hc : SP_X11_move v u t s q M r M1) (hm : SP_X12_move v u t s q M1 r' M2) : r = r' := by
  have a := nnC_move hc
  have b := nnD_move hm
  rw [hF _ _ (hS _).1, hF _ _ (hS _).2, hF _ _ (hS _).1, hF _ _ (hS _).2] at b
  refine i32e ?_
  by_cases hv : (0 ≤ v.toInt ∧ v.toInt ≤ 3) ∧ (0 ≤ t.toInt ∧ t.toInt ≤ 3)
  · obtain ⟨e1, e2⟩ := RXz_sh h (w := v.toInt.toNat) (by omega)
    obtain ⟨e3, e4⟩ := RXz_sh h (w := t.toInt.toNat) (by omega)
    rw [e1, e2, e3, e4] at a
    unfold MOVN at a b
    omega
  · unfold MOVN at a b
    omega
end
section
/-! the calls that touch what both hold alike -/
theorem add1 {z x : Int32} (h : z = x + (1 : Int32)) (hb : x.toInt < 2147483647) : z.toInt = x.toInt + 1 := by
  have := rngI x
  rw [h]; exact addI rfl il_1 (by omega) (by omega)
theorem ofI1 : Int32.ofInt 1 = (1 : Int32) := by decide
theorem add1' {z x : Int32} (h : z = x + Int32.ofInt 1) (hb : x.toInt < 2147483647) : z.toInt = x.toInt + 1 := add1 (by rw [h, ofI1]) hb
/-! lesson -/
def LESN (v u t : Int32) (n r n' : Int) : Prop := (¬ ((0 ≤ v.toInt ∧ v.toInt ≤ 31) ∧ (0 ≤ u.toInt ∧ u.toInt ≤ 31) ∧ (1 ≤ t.toInt ∧ t.toInt ≤ 99)) ∧ r = -1000001 ∧ n' = n) ∨ (((0 ≤ v.toInt ∧ v.toInt ≤ 31) ∧ (0 ≤ u.toInt ∧ u.toInt ≤ 31) ∧ (1 ≤ t.toInt ∧ t.toInt ≤ 99)) ∧ ((n = 7 ∧ r = -1000004 ∧ n' = n) ∨ (n < 7 ∧ r = n ∧ n' = n + 1)))
theorem x3room {b : Nat} {M : mM} {r : Int32} (h : SP_X3_hasRoom b M r) : (r.toInt = 0 ∧ 7 ≤ (M.1 (3, b, 0) 3).toInt) ∨ (r.toInt = 1 ∧ (M.1 (3, b, 0) 3).toInt < 7) := by
  have q0 := il_0
  have q1 := il_1
  refine xE_SP_X3_hasRoom h (fun z1_ e2_ => ⟨(fun h3_ hr_ => ?_), (fun h3_ hr_ => ?_)⟩)
  all_goals have y1 := eT e2_
  all_goals have y2 := eT hr_
  all_goals omega
theorem x3add {b : Nat} {v u t : Int32} {M M1 : mM} {r : Int32} (h : SP_X3_add b v u t M r M1) (h0 : 0 ≤ (M.1 (3, b, 0) 3).toInt) (h7 : (M.1 (3, b, 0) 3).toInt < 7) : r.toInt = (M.1 (3, b, 0) 3).toInt ∧ (M1.1 (3, b, 0) 3).toInt = (M.1 (3, b, 0) 3).toInt + 1 := by
  refine xE_SP_X3_add h (fun z1_ e2_ => ⟨(fun h3_ hr_ hM_ => ?_), (fun h3_ => ⟨(fun h4_ j7_ h8_ M5_ hM6_ j13_ h14_ M11_ hM12_ j19_ h20_ M17_ hM18_ z23_ e24_ z25_ h26_ M27_ hM28_ hr_ hM_ => ?_), (fun h4_ hr_ hM_ => ?_)⟩)⟩)
  · have y1 := eT e2_; omega
  · have y2 : z23_ = z1_ := by rw [e24_, zupR hM18_ (by dsimp only; omega), zupR hM12_ (by dsimp only; omega), zupR hM6_ (by dsimp only; omega), e2_]
    have y1 := eT e2_
    rw [y2] at h26_
    have y3 := add1 h26_ (by omega)
    rw [hM_, zupE hM28_ rfl rfl]
    have y4 := eT hr_
    omega
  · have y1 := eT e2_; omega
theorem nnC_lesson {v u t : Int32} {M M1 : mM} {r : Int32} (h : SP_X11_lesson v u t M r M1) (h0 : 0 ≤ (M.1 (3, 0, 0) 3).toInt ∧ (M.1 (3, 0, 0) 3).toInt ≤ 7) : LESN v u t (M.1 (3, 0, 0) 3).toInt r.toInt (M1.1 (3, 0, 0) 3).toInt := by
  unfold LESN
  refine xE_SP_X11_lesson h ⟨(fun hs5_ h4_ => ⟨(fun hs11_ h10_ => ⟨(fun hs17_ h16_ r19_ hs23_ h22_ => ⟨(fun h24_ M26_ _ hF30_ r25_ hs32_ hr_ hM_ => ?_), (fun h24_ M34_ _ hF38_ r33_ hs40_ hr_ hM_ => ?_)⟩), (fun hs17_ h16_ M43_ _ hF47_ r42_ hs49_ hr_ hM_ => ?_)⟩), (fun hs11_ h10_ M52_ _ hF56_ r51_ hs58_ hr_ hM_ => ?_)⟩), (fun hs5_ h4_ M61_ _ hF65_ r60_ hs67_ hr_ hM_ => ?_)⟩
  · have a := x3room hs23_
    have b := x3add hs32_ h0.1 (by omega)
    have := eT hr_
    rw [hM_]
    omega
  · have a := x3room hs23_
    rw [hM_, hF38_ (3, 0, 0) 3 (by simp [S_c_X11_error])]
    have := err4 hs40_; have := eT hr_; omega
  · rw [hM_, hF47_ (3, 0, 0) 3 (by simp [S_c_X11_error])]
    have := err1 hs49_; have := eT hr_; omega
  · rw [hM_, hF56_ (3, 0, 0) 3 (by simp [S_c_X11_error])]
    have := err1 hs58_; have := eT hr_; omega
  · rw [hM_, hF65_ (3, 0, 0) 3 (by simp [S_c_X11_error])]
    have := err1 hs67_; have := eT hr_; omega
theorem nnD_lesson {v u t : Int32} {M M1 : mM} {r : Int32} (h : SP_X12_lesson v u t M r M1) : LESN v u t (M.1 (50, 0, 0) 3).toInt r.toInt (M1.1 (50, 0, 0) 3).toInt := by
  unfold LESN
  refine xE_SP_X12_lesson h ⟨(fun hs5_ h4_ => ⟨(fun hs11_ h10_ => ⟨(fun hs17_ h16_ z19_ e20_ h22_ => ⟨(fun h23_ z24_ h25_ z26_ h27_ j30_ h31_ M28_ hM29_ z35_ h36_ z37_ h38_ z39_ h40_ j43_ h44_ M41_ hM42_ z48_ h49_ z50_ h51_ z52_ h53_ j56_ h57_ M54_ hM55_ z61_ e62_ h63_ h64_ z65_ h66_ M67_ hM68_ hr_ hM_ => ?_), (fun h23_ M72_ _ hF76_ r71_ hs78_ h74_ hr_ hM_ => ?_)⟩), (fun hs17_ h16_ M82_ _ hF86_ r81_ hs88_ h84_ hr_ hM_ => ?_)⟩), (fun hs11_ h10_ M91_ _ hF95_ r90_ hs97_ h93_ hr_ hM_ => ?_)⟩), (fun hs5_ h4_ M100_ _ hF104_ r99_ hs106_ h102_ hr_ hM_ => ?_)⟩
  · have y1 := eT e20_
    rw [hM_, zupE hM68_ rfl rfl]
    have := eT hr_; omega
  · rw [hM_, hF76_ (50, 0, 0) 3 (by simp [S_c_X12_finding])]
    have y1 := eT e20_
    have := eT hr_; omega
  · rw [hM_, hF86_ (50, 0, 0) 3 (by simp [S_c_X12_finding])]
    have := eT hr_; omega
  · rw [hM_, hF95_ (50, 0, 0) 3 (by simp [S_c_X12_finding])]
    have := eT hr_; omega
  · rw [hM_, hF104_ (50, 0, 0) 3 (by simp [S_c_X12_finding])]
    have := eT hr_; omega
/-! tell -/
def TELN (n r n' : Int) : Prop := (n = 24 ∧ r = -1000004 ∧ n' = n) ∨ (n < 24 ∧ r = n + 1 ∧ n' = n + 1)
theorem x5room {b w : Nat} {M : mM} {r : Int32} (h : SP_X5_room b w M r) (h0 : 0 ≤ (M.1 (5, b, w) 1).toInt ∧ (M.1 (5, b, w) 1).toInt ≤ 48) : r.toInt = ((rl w : Nat) : Int) - (M.1 (5, b, w) 1).toInt := by
  refine xE_SP_X5_room h (fun z1_ h2_ z3_ e4_ z5_ h6_ hr_ => ?_)
  have y1 := eT e4_
  rw [hr_, h6_]
  rw [subI (a := ((rl w : Nat) : Int)) (c := (M.1 (5, b, w) 1).toInt) h2_.1 (by omega) (by omega) (by omega)]
theorem x5add {b w : Nat} {v : Int32} {M M1 : mM} (h : SP_X5_add b w v M M1) (h0 : 0 ≤ (M.1 (5, b, w) 1).toInt) (h7 : (M.1 (5, b, w) 1).toInt < ((rl w : Nat) : Int)) : (M1.1 (5, b, w) 1).toInt = (M.1 (5, b, w) 1).toInt + 1 := by
  refine xE_SP_X5_add h (fun z1_ e2_ => ⟨(fun h3_ hM_ => ?_), (fun h3_ z6_ h7_ => ⟨(fun h8_ hM_ => ?_), (fun h8_ j13_ h14_ M11_ hM12_ z17_ e18_ z19_ h20_ M21_ hM22_ hM_ => ?_)⟩)⟩)
  · have y1 := eT e2_; omega
  · have y1 := eT e2_; omega
  · have y2 : z17_ = z1_ := by rw [e18_, zupR hM12_ (by dsimp only; omega), e2_]
    have y1 := eT e2_
    rw [y2] at h20_
    have y3 := add1 h20_ (by omega)
    rw [hM_, zupE hM22_ rfl rfl]
    omega
theorem nnC_tell {v : Int32} {M M1 : mM} {r : Int32} (h : SP_X11_tell v M r M1) (h0 : 0 ≤ (M.1 (5, 0, 1) 1).toInt ∧ (M.1 (5, 0, 1) 1).toInt ≤ 24) : TELN (M.1 (5, 0, 1) 1).toInt r.toInt (M1.1 (5, 0, 1) 1).toInt := by
  have hl : rl 1 = 24 := rfl
  unfold TELN
  refine xE_SP_X11_tell h (fun r1_ hs5_ => ⟨(fun h6_ M7_ _ hF11_ hs13_ z14_ e15_ hr_ hM_ => ?_), (fun h6_ M17_ _ hF21_ r16_ hs23_ hr_ hM_ => ?_)⟩)
  · have a := x5room hs5_ (by omega)
    have b := x5add hs13_ h0.1 (by omega)
    have y := eT e15_
    have := eT hr_
    rw [hM_]; omega
  · have a := x5room hs5_ (by omega)
    rw [hM_, hF21_ (5, 0, 1) 1 (by simp [S_c_X11_error])]
    have := err4 hs23_; have := eT hr_; omega
theorem nnD_tell {v : Int32} {M M1 : mM} {r : Int32} (h : SP_X12_tell v M r M1) : TELN (M.1 (50, 0, 0) 5).toInt r.toInt (M1.1 (50, 0, 0) 5).toInt := by
  unfold TELN
  refine xE_SP_X12_tell h (fun z1_ e2_ h4_ => ⟨(fun h5_ z6_ e7_ h8_ h9_ z10_ h11_ j14_ h15_ M12_ hM13_ z19_ e20_ h21_ h22_ z23_ h24_ M25_ hM26_ z29_ e30_ h32_ hr_ hM_ => ?_), (fun h5_ M34_ _ hF38_ r33_ hs40_ h36_ hr_ hM_ => ?_)⟩)
  · have y1 := eT e2_
    rw [hM_, zupE hM26_ rfl rfl]
    rw [zupE hM26_ rfl rfl] at e30_
    have := eT e30_
    have := eT hr_; omega
  · have y1 := eT e2_
    rw [hM_, hF38_ (50, 0, 0) 5 (by simp [S_c_X12_finding])]
    have := eT hr_; omega
/-! air -/
def AIRB (v u : Int32) : Prop := (0 ≤ v.toInt ∧ v.toInt ≤ 2) ∧ 0 ≤ u.toInt ∧ (v.toInt = 0 → u.toInt ≤ 99) ∧ (v.toInt = 1 → u.toInt ≤ 90) ∧ (v.toInt = 2 → u.toInt ≤ 1)
theorem x2air {b : Nat} {v u : Int32} {M M1 : mM} {r : Int32} (h : SP_X2_changeAir b v u M r M1) (hv : 0 ≤ v.toInt ∧ v.toInt ≤ 2) : r = M.1 (2, b, 0) v.toInt.toNat ∧ M1 = up M (2, b, 0) v.toInt.toNat u := by
  refine xE_SP_X2_changeAir h ⟨(fun h1_ => ⟨(fun h2_ z3_ e4_ => ⟨(fun h5_ => ⟨(fun h6_ M7_ hM8_ hr_ hM_ => ?_), (fun h6_ M11_ hM12_ hr_ hM_ => ?_)⟩), (fun h5_ M15_ hM16_ hr_ hM_ => ?_)⟩), (fun h2_ z19_ e20_ h21_ h22_ M23_ hM24_ hr_ hM_ => ?_)⟩), (fun h1_ z27_ e28_ h29_ M30_ hM31_ hr_ hM_ => ?_)⟩
  · rw [show v.toInt.toNat = 2 by omega]; exact ⟨hr_.trans e4_, hM_.trans hM8_⟩
  · omega
  · omega
  · rw [show v.toInt.toNat = 1 by omega]; exact ⟨hr_.trans e20_, hM_.trans hM24_⟩
  · rw [show v.toInt.toNat = 0 by omega]; exact ⟨hr_.trans e28_, hM_.trans hM31_⟩
theorem nnC_air {v u : Int32} {M M1 : mM} {r : Int32} (h : SP_X11_air v u M r M1) : (¬ AIRB v u ∧ r.toInt = -1000001 ∧ ∀ k, M1.1 (2, 0, 0) k = M.1 (2, 0, 0) k) ∨ (AIRB v u ∧ r = M.1 (2, 0, 0) v.toInt.toNat ∧ M1 = up M (2, 0, 0) v.toInt.toNat u) := by
  unfold AIRB
  refine xE_SP_X11_air h ⟨(fun hs5_ h4_ => ⟨(fun h7_ => ⟨(fun h8_ => ⟨(fun hs13_ h12_ M16_ _ hF20_ r15_ hs22_ hr_ hM_ => ?_), (fun hs13_ h12_ M25_ _ hF29_ r24_ hs31_ hr_ hM_ => ?_)⟩), (fun h8_ => ⟨(fun hs36_ h35_ M39_ _ hF43_ r38_ hs45_ hr_ hM_ => ?_), (fun hs36_ h35_ M48_ _ hF52_ r47_ hs54_ hr_ hM_ => ?_)⟩)⟩), (fun h7_ => ⟨(fun hs59_ h58_ M62_ _ hF66_ r61_ hs68_ hr_ hM_ => ?_), (fun hs59_ h58_ M71_ _ hF75_ r70_ hs77_ hr_ hM_ => ?_)⟩)⟩), (fun hs5_ h4_ M80_ _ hF84_ r79_ hs86_ hr_ hM_ => ?_)⟩
  · obtain ⟨a, b⟩ := x2air hs22_ h4_; exact Or.inr ⟨by omega, hr_.trans a, hM_.trans b⟩
  · exact Or.inl ⟨by omega, by rw [hr_]; exact err1 hs31_, fun k => by rw [hM_]; exact hF29_ _ _ (by simp [S_c_X11_error])⟩
  · obtain ⟨a, b⟩ := x2air hs45_ h4_; exact Or.inr ⟨by omega, hr_.trans a, hM_.trans b⟩
  · exact Or.inl ⟨by omega, by rw [hr_]; exact err1 hs54_, fun k => by rw [hM_]; exact hF52_ _ _ (by simp [S_c_X11_error])⟩
  · obtain ⟨a, b⟩ := x2air hs68_ h4_; exact Or.inr ⟨by omega, hr_.trans a, hM_.trans b⟩
  · exact Or.inl ⟨by omega, by rw [hr_]; exact err1 hs77_, fun k => by rw [hM_]; exact hF75_ _ _ (by simp [S_c_X11_error])⟩
  · exact Or.inl ⟨by omega, by rw [hr_]; exact err1 hs86_, fun k => by rw [hM_]; exact hF84_ _ _ (by simp [S_c_X11_error])⟩
theorem x12become {v u : Int32} {M M1 : mM} {r : Int32} (h : SP_X12_become v u M r M1) : r = M.1 (50, 0, 0) v.toInt.toNat ∧ M1 = up M (50, 0, 0) v.toInt.toNat u := by
  refine xE_SP_X12_become h (fun j3_ h4_ z1_ e2_ j7_ h8_ M5_ hM6_ hr_ hM_ => ?_)
  obtain rfl : j3_ = v.toInt.toNat := by omega
  obtain rfl : j7_ = v.toInt.toNat := by omega
  exact ⟨hr_.trans e2_, hM_.trans hM6_⟩
theorem nnD_air {v u : Int32} {M M1 : mM} {r : Int32} (h : SP_X12_air v u M r M1) : (¬ AIRB v u ∧ r.toInt = -1000001 ∧ ∀ k, M1.1 (50, 0, 0) k = M.1 (50, 0, 0) k) ∨ (AIRB v u ∧ r = M.1 (50, 0, 0) (6 + v.toInt.toNat) ∧ M1 = up M (50, 0, 0) (6 + v.toInt.toNat) u) := by
  unfold AIRB
  refine xE_SP_X12_air h ⟨(fun h1_ => ⟨(fun h2_ => ⟨(fun h3_ M6_ _ hF10_ r5_ hs12_ h8_ hr_ hM_ => ?_), (fun h3_ => ⟨(fun hs17_ h16_ z20_ h21_ M23_ _ hF27_ r22_ hs29_ hr_ hM_ => ?_), (fun hs17_ h16_ M33_ _ hF37_ r32_ hs39_ h35_ hr_ hM_ => ?_)⟩)⟩), (fun h2_ => ⟨(fun hs44_ h43_ z46_ h47_ M49_ _ hF53_ r48_ hs55_ hr_ hM_ => ?_), (fun hs44_ h43_ M58_ _ hF62_ r57_ hs64_ h60_ hr_ hM_ => ?_)⟩)⟩), (fun h1_ => ⟨(fun hs69_ h68_ z71_ h72_ M74_ _ hF78_ r73_ hs80_ hr_ hM_ => ?_), (fun hs69_ h68_ M83_ _ hF87_ r82_ hs89_ h85_ hr_ hM_ => ?_)⟩)⟩
  · exact Or.inl ⟨by omega, by rw [hr_]; exact h8_, fun k => by rw [hM_]; exact hF10_ _ _ (by simp [S_c_X12_finding])⟩
  · obtain ⟨a, b⟩ := x12become hs29_; rw [show z20_.toInt.toNat = 6 + v.toInt.toNat by omega] at a b; exact Or.inr ⟨by omega, hr_.trans a, hM_.trans b⟩
  · exact Or.inl ⟨by omega, by rw [hr_]; exact h35_, fun k => by rw [hM_]; exact hF37_ _ _ (by simp [S_c_X12_finding])⟩
  · obtain ⟨a, b⟩ := x12become hs55_; rw [show z46_.toInt.toNat = 6 + v.toInt.toNat by omega] at a b; exact Or.inr ⟨by omega, hr_.trans a, hM_.trans b⟩
  · exact Or.inl ⟨by omega, by rw [hr_]; exact h60_, fun k => by rw [hM_]; exact hF62_ _ _ (by simp [S_c_X12_finding])⟩
  · obtain ⟨a, b⟩ := x12become hs80_; rw [show z71_.toInt.toNat = 6 + v.toInt.toNat by omega] at a b; exact Or.inr ⟨by omega, hr_.trans a, hM_.trans b⟩
  · exact Or.inl ⟨by omega, by rw [hr_]; exact h85_, fun k => by rw [hM_]; exact hF87_ _ _ (by simp [S_c_X12_finding])⟩
/-! kind -/
def KINB (v u t : Int32) : Prop := (0 ≤ v.toInt ∧ v.toInt ≤ 4) ∧ (0 ≤ u.toInt ∧ u.toInt ≤ 1) ∧ 0 ≤ t.toInt ∧ (u.toInt = 0 → t.toInt ≤ 99) ∧ (u.toInt = 1 → t.toInt ≤ 9)
theorem x2kind {b : Nat} {v u t : Int32} {M M1 : mM} {r : Int32} (h : SP_X2_changeKind b v u t M r M1) (hv : 0 ≤ v.toInt ∧ v.toInt ≤ 4) : (u.toInt = 0 ∧ r = M.1 (26, b, 0) v.toInt.toNat ∧ M1 = up M (26, b, 0) v.toInt.toNat t) ∨ (¬ u.toInt = 0 ∧ r = M.1 (27, b, 0) v.toInt.toNat ∧ M1 = up M (27, b, 0) v.toInt.toNat t) := by
  refine xE_SP_X2_changeKind h ⟨(fun h1_ => ⟨(fun h2_ hr_ hM_ => ?_), (fun h2_ => ⟨(fun h3_ j6_ h7_ z4_ e5_ j10_ h11_ M8_ hM9_ hr_ hM_ => ?_), (fun h3_ hr_ hM_ => ?_)⟩)⟩), (fun h1_ => ⟨(fun h14_ hr_ hM_ => ?_), (fun h14_ => ⟨(fun h15_ j18_ h19_ z16_ e17_ j22_ h23_ M20_ hM21_ hr_ hM_ => ?_), (fun h15_ hr_ hM_ => ?_)⟩)⟩)⟩
  · omega
  · obtain rfl : j6_ = v.toInt.toNat := by omega
    obtain rfl : j10_ = v.toInt.toNat := by omega
    exact Or.inr ⟨h1_, hr_.trans e5_, hM_.trans hM9_⟩
  · omega
  · omega
  · obtain rfl : j18_ = v.toInt.toNat := by omega
    obtain rfl : j22_ = v.toInt.toNat := by omega
    exact Or.inl ⟨h1_, hr_.trans e17_, hM_.trans hM21_⟩
  · omega
theorem nnC_kind {v u t : Int32} {M M1 : mM} {r : Int32} (h : SP_X11_kind v u t M r M1) : (¬ KINB v u t ∧ r.toInt = -1000001 ∧ ∀ k, M1.1 (26, 0, 0) k = M.1 (26, 0, 0) k ∧ M1.1 (27, 0, 0) k = M.1 (27, 0, 0) k) ∨ (KINB v u t ∧ ((u.toInt = 0 ∧ r = M.1 (26, 0, 0) v.toInt.toNat ∧ M1 = up M (26, 0, 0) v.toInt.toNat t) ∨ (¬ u.toInt = 0 ∧ r = M.1 (27, 0, 0) v.toInt.toNat ∧ M1 = up M (27, 0, 0) v.toInt.toNat t))) := by
  unfold KINB
  refine xE_SP_X11_kind h ⟨(fun hs5_ h4_ => ⟨(fun hs11_ h10_ => ⟨(fun h13_ => ⟨(fun hs18_ h17_ M21_ _ hF25_ r20_ hs27_ hr_ hM_ => ?_), (fun hs18_ h17_ M30_ _ hF34_ r29_ hs36_ hr_ hM_ => ?_)⟩), (fun h13_ => ⟨(fun hs41_ h40_ M44_ _ hF48_ r43_ hs50_ hr_ hM_ => ?_), (fun hs41_ h40_ M53_ _ hF57_ r52_ hs59_ hr_ hM_ => ?_)⟩)⟩), (fun hs11_ h10_ M62_ _ hF66_ r61_ hs68_ hr_ hM_ => ?_)⟩), (fun hs5_ h4_ M71_ _ hF75_ r70_ hs77_ hr_ hM_ => ?_)⟩
  · refine Or.inr ⟨by omega, ?_⟩; rw [hr_, hM_]; exact x2kind hs27_ h4_
  · exact Or.inl ⟨by omega, by rw [hr_]; exact err1 hs36_, fun k => by rw [hM_]; exact ⟨hF34_ _ _ (by simp [S_c_X11_error]), hF34_ _ _ (by simp [S_c_X11_error])⟩⟩
  · refine Or.inr ⟨by omega, ?_⟩; rw [hr_, hM_]; exact x2kind hs50_ h4_
  · exact Or.inl ⟨by omega, by rw [hr_]; exact err1 hs59_, fun k => by rw [hM_]; exact ⟨hF57_ _ _ (by simp [S_c_X11_error]), hF57_ _ _ (by simp [S_c_X11_error])⟩⟩
  · exact Or.inl ⟨by omega, by rw [hr_]; exact err1 hs68_, fun k => by rw [hM_]; exact ⟨hF66_ _ _ (by simp [S_c_X11_error]), hF66_ _ _ (by simp [S_c_X11_error])⟩⟩
  · exact Or.inl ⟨by omega, by rw [hr_]; exact err1 hs77_, fun k => by rw [hM_]; exact ⟨hF75_ _ _ (by simp [S_c_X11_error]), hF75_ _ _ (by simp [S_c_X11_error])⟩⟩
theorem nnD_kind {v u t : Int32} {M M1 : mM} {r : Int32} (h : SP_X12_kind v u t M r M1) : (¬ KINB v u t ∧ r.toInt = -1000001 ∧ ∀ k, M1.1 (50, 0, 0) k = M.1 (50, 0, 0) k) ∨ (KINB v u t ∧ ((u.toInt = 0 ∧ r = M.1 (50, 0, 0) (9 + v.toInt.toNat) ∧ M1 = up M (50, 0, 0) (9 + v.toInt.toNat) t) ∨ (¬ u.toInt = 0 ∧ r = M.1 (50, 0, 0) (14 + v.toInt.toNat) ∧ M1 = up M (50, 0, 0) (14 + v.toInt.toNat) t))) := by
  unfold KINB
  refine xE_SP_X12_kind h ⟨(fun hs5_ h4_ => ⟨(fun hs11_ h10_ => ⟨(fun h13_ => ⟨(fun hs18_ h17_ h20_ z21_ h22_ M24_ _ hF28_ r23_ hs30_ hr_ hM_ => ?_), (fun hs18_ h17_ M33_ _ hF37_ r32_ hs39_ h35_ hr_ hM_ => ?_)⟩), (fun h13_ => ⟨(fun hs44_ h43_ h46_ z47_ h48_ M50_ _ hF54_ r49_ hs56_ hr_ hM_ => ?_), (fun hs44_ h43_ M59_ _ hF63_ r58_ hs65_ h61_ hr_ hM_ => ?_)⟩)⟩), (fun hs11_ h10_ M68_ _ hF72_ r67_ hs74_ h70_ hr_ hM_ => ?_)⟩), (fun hs5_ h4_ M77_ _ hF81_ r76_ hs83_ h79_ hr_ hM_ => ?_)⟩
  · obtain ⟨a, b⟩ := x12become hs30_; rw [show z21_.toInt.toNat = 14 + v.toInt.toNat by omega] at a b; exact Or.inr ⟨by omega, Or.inr ⟨h13_, hr_.trans a, hM_.trans b⟩⟩
  · exact Or.inl ⟨by omega, by rw [hr_]; exact h35_, fun k => by rw [hM_]; exact hF37_ _ _ (by simp [S_c_X12_finding])⟩
  · obtain ⟨a, b⟩ := x12become hs56_; rw [show z47_.toInt.toNat = 9 + v.toInt.toNat by omega] at a b; exact Or.inr ⟨by omega, Or.inl ⟨h13_, hr_.trans a, hM_.trans b⟩⟩
  · exact Or.inl ⟨by omega, by rw [hr_]; exact h61_, fun k => by rw [hM_]; exact hF63_ _ _ (by simp [S_c_X12_finding])⟩
  · exact Or.inl ⟨by omega, by rw [hr_]; exact h70_, fun k => by rw [hM_]; exact hF72_ _ _ (by simp [S_c_X12_finding])⟩
  · exact Or.inl ⟨by omega, by rw [hr_]; exact h79_, fun k => by rw [hM_]; exact hF81_ _ _ (by simp [S_c_X12_finding])⟩
end
section
/-! feed -/
def FEDN (u : Int32) (n r n' : Int) : Prop := (¬ (1 ≤ u.toInt ∧ u.toInt ≤ 8) ∧ r = -1000001 ∧ n' = n) ∨ ((1 ≤ u.toInt ∧ u.toInt ≤ 8) ∧ ((48 < n + u.toInt ∧ r = -1000004 ∧ n' = n) ∨ (n + u.toInt ≤ 48 ∧ r = n + u.toInt ∧ n' = n + u.toInt)))
theorem nnC_feed {v : Int64} {u : Int32} {M M1 : mM} {r : Int32} (h : SP_X11_feed v u M r M1) (h0 : 0 ≤ (M.1 (5, 0, 0) 1).toInt ∧ (M.1 (5, 0, 0) 1).toInt ≤ 48) : FEDN u (M.1 (5, 0, 0) 1).toInt r.toInt (M1.1 (5, 0, 0) 1).toInt := by
  have hl : rl 0 = 48 := rfl
  have q0 := il_0
  unfold FEDN
  refine xE_SP_X11_feed h ⟨(fun hs5_ h4_ r7_ hs11_ => ⟨(fun h12_ v4_39 hv0_39 M_39 hL_39 _ hF_39 h14_ z15_ e16_ hr_ hM_ => ?_), (fun h12_ M36_ _ hF40_ r35_ hs42_ hr_ hM_ => ?_)⟩), (fun hs5_ h4_ M45_ _ hF49_ r44_ hs51_ hr_ hM_ => ?_)⟩
  · have a := x5room hs11_ h0
    have b := RCH.ind (P := fun x : Int32 × mM => 0 ≤ x.1.toInt ∧ x.1.toInt ≤ u.toInt ∧ (x.2.1 (5, 0, 0) 1).toInt = (M.1 (5, 0, 0) 1).toInt + x.1.toInt) (by dsimp only; omega) (fun x z hp hst => by
      obtain ⟨x1, x2⟩ := x
      obtain ⟨z1, z2⟩ := z
      dsimp only at hp hst ⊢
      refine xE_ST_X11_feed_39 hst (fun hv0_39 _ hF_39 h14_ z17_ h18_ w19_ h20_ z21_ h22_ z23_ h25_ h24_ M26_ _ hF30_ hs32_ z33_ h34_ hq_v4_39y hM_ => ?_)
      have c := x5add hs32_ (by omega) (by omega)
      rw [hq_v4_39y, hM_]; omega) hL_39
    dsimp only at b
    have y := eT e16_
    have := eT hr_
    rw [hM_]; omega
  · have a := x5room hs11_ h0
    rw [hM_, hF40_ (5, 0, 0) 1 (by simp [S_c_X11_error])]
    have := err4 hs42_; have := eT hr_; omega
  · rw [hM_, hF49_ (5, 0, 0) 1 (by simp [S_c_X11_error])]
    have := err1 hs51_; have := eT hr_; omega
theorem nnD_feed {v : Int64} {u : Int32} {M M1 : mM} {r : Int32} (h : SP_X12_feed v u M r M1) : FEDN u (M.1 (50, 0, 0) 4).toInt r.toInt (M1.1 (50, 0, 0) 4).toInt := by
  have q0 := il_0
  unfold FEDN
  refine xE_SP_X12_feed h ⟨(fun hs5_ h4_ z7_ e8_ h9_ z10_ h11_ => ⟨(fun h12_ v4_40 hv0_40 hv1_40 M_40 hv2_40 hL_40 _ hF_40 h14_ z15_ e16_ h17_ hr_ hM_ => ?_), (fun h12_ M53_ _ hF57_ r52_ hs59_ h55_ hr_ hM_ => ?_)⟩), (fun hs5_ h4_ M62_ _ hF66_ r61_ hs68_ h64_ hr_ hM_ => ?_)⟩
  · have y1 := eT e8_
    have b := RCH.ind (P := fun x : Int32 × mM => 0 ≤ x.1.toInt ∧ x.1.toInt ≤ u.toInt ∧ (x.2.1 (50, 0, 0) 4).toInt = (M.1 (50, 0, 0) 4).toInt + x.1.toInt) (by dsimp only; omega) (fun x z hp hst => by
      obtain ⟨x1, x2⟩ := x
      obtain ⟨z1, z2⟩ := z
      dsimp only at hp hst ⊢
      refine xE_ST_X12_feed_40 hst (fun hv0_40 hv1_40 hv2_40 _ hF_40 h14_ z18_ e19_ h21_ z22_ h23_ z24_ h25_ w26_ h27_ w28_ h29_ z30_ h31_ j34_ h35_ M32_ hM33_ z39_ e40_ h41_ h42_ z43_ h44_ M45_ hM46_ z50_ h51_ hq_v4_40y hM_ => ?_)
      have y2 := eT e19_
      rw [hq_v4_40y, hM_, zupE hM46_ rfl rfl]; omega) hL_40
    dsimp only at b
    have y := eT e16_
    have := eT hr_
    rw [hM_]; omega
  · have y1 := eT e8_
    rw [hM_, hF57_ (50, 0, 0) 4 (by simp [S_c_X12_finding])]
    have := eT hr_; omega
  · rw [hM_, hF66_ (50, 0, 0) 4 (by simp [S_c_X12_finding])]
    have := eT hr_; omega
/-! text: the tape is empty behind it -/
def TEXN (v : Int32) (n n' : Int) : Prop := ((0 ≤ v.toInt ∧ v.toInt ≤ 2) ∧ n' = 0) ∨ (¬ (0 ≤ v.toInt ∧ v.toInt ≤ 2) ∧ n' = n)
theorem x5clear {b w : Nat} {M M1 : mM} (h : SP_X5_clear b w M M1) : M1 = up M (5, b, w) 1 0 := by
  refine xE_SP_X5_clear h (fun M1_ hM2_ hM_ => ?_)
  exact hM_.trans hM2_
theorem nnC_text {v : Int32} {M M1 : mM} {r : Int32} (h : SP_X11_text v M r M1) : TEXN v (M.1 (5, 0, 0) 1).toInt (M1.1 (5, 0, 0) 1).toInt := by
  have q0 := il_0
  unfold TEXN
  refine xE_SP_X11_text h ⟨(fun hs5_ h4_ M8_ _ hF12_ r7_ hs14_ => ⟨(fun h15_ M16_ _ hF20_ hs22_ hr_ hM_ => ?_), (fun h15_ j23_ h24_ h25_ h26_ M27_ _ hF31_ hs33_ M34_ _ hF38_ hs40_ hr_ hM_ => ?_)⟩), (fun hs5_ h4_ M43_ _ hF47_ r42_ hs49_ hr_ hM_ => ?_)⟩
  · rw [hM_, zupE (x5clear hs22_) rfl rfl]; omega
  · rw [hM_, zupE (x5clear hs40_) rfl rfl]; omega
  · rw [hM_, hF47_ (5, 0, 0) 1 (by simp [S_c_X11_error])]; omega
theorem nnD_text {v : Int32} {M M1 : mM} {r : Int32} (h : SP_X12_text_ v M r M1) : TEXN v (M.1 (50, 0, 0) 4).toInt (M1.1 (50, 0, 0) 4).toInt := by
  have q0 := il_0
  unfold TEXN
  refine xE_SP_X12_text_ h ⟨(fun hs5_ h4_ M7_ hM8_ M12_ hM13_ M18_ hM19_ M25_ hM26_ M32_ hM33_ M39_ hM40_ _ M48_ _ hF52_ hs54_ z56_ e57_ h58_ => ⟨(fun h60_ M61_ hM62_ h66_ M69_ hM70_ z76_ e77_ h78_ h79_ h80_ h81_ z82_ e83_ h84_ z85_ h86_ hr_ hM_ => ?_), (fun h60_ M88_ _ hF92_ r87_ hs94_ h98_ => ⟨(fun h99_ M100_ hM101_ h105_ h108_ M110_ hM111_ z119_ e120_ h121_ h122_ h123_ h124_ z126_ e127_ h128_ h129_ z130_ h131_ z132_ h133_ z134_ e135_ h136_ h137_ j140_ h141_ M138_ hM139_ v2_117 hv0_117 hv1_117 M_117 hv2_117 hL_117 _ hF_117 z151_ e152_ h153_ h154_ h155_ z157_ e158_ hr_ hM_ => ?_), (fun h99_ M188_ hM189_ h193_ M196_ hM197_ z203_ e204_ h205_ h206_ h207_ h208_ z209_ e210_ h211_ z212_ h213_ hr_ hM_ => ?_)⟩)⟩), (fun hs5_ h4_ M216_ _ hF220_ r215_ hs222_ h218_ hr_ hM_ => ?_)⟩
  · rw [hM_, zupE hM70_ rfl rfl]; omega
  · have b := RCH.ind (P := fun x : Int32 × mM => x.2.1 (50, 0, 0) 4 = 0) (by dsimp only; rw [zupN hM139_ (fun q => by have := q.2; omega), zupE hM111_ rfl rfl]) (fun x z hp hst => by
      obtain ⟨x1, x2⟩ := x
      obtain ⟨z1, z2⟩ := z
      dsimp only at hp hst ⊢
      refine xE_ST_X12_text__117 hst (fun hv0_117 hv1_117 hv2_117 _ hF_117 z151_ e152_ h153_ h154_ h155_ z159_ e160_ h161_ h162_ z163_ h164_ z165_ h166_ z167_ h168_ z169_ h170_ j173_ h174_ z171_ e172_ j177_ h178_ M175_ hM176_ z186_ h187_ hq_v2_117y hM_ => ?_)
      rw [hM_, zupN hM176_ (fun q => by have := q.2; omega)]; exact hp) hL_117
    dsimp only at b
    rw [hM_, b]; omega
  · rw [hM_, zupE hM197_ rfl rfl]; omega
  · rw [hM_, hF220_ (50, 0, 0) 4 (by simp [S_c_X12_finding])]; omega
/-! tenths: NOW alone -/
theorem inc32 {a b x : Int32} (h : b.toInt = a.toInt + 1) (hb : a.toInt < 2147483647) : x + a + (1 : Int32) = x + b := by
  rw [Int32.add_assoc]
  congr 1
  have := rngI a
  exact i32e (by rw [h]; exact addI rfl il_1 (by omega) (by omega))
def TENN (v x r x' : Int32) : Prop := (¬ (1 ≤ v.toInt ∧ v.toInt ≤ 100) ∧ r.toInt = -1000001 ∧ x' = x) ∨ ((1 ≤ v.toInt ∧ v.toInt ≤ 100) ∧ ((9999 < (x + v).toInt ∧ r.toInt = -1000003 ∧ x' = x) ∨ ((x + v).toInt ≤ 9999 ∧ r = x + v ∧ x' = x + v)))
theorem x10now {b : Nat} {M M1 : mM} (h : SP_X10_passTenth b M M1) : M1.1 (10, b, 0) 7 = M.1 (10, b, 0) 7 + (1 : Int32) := by
  refine xE_SP_X10_passTenth h (fun z1_ e2_ z3_ h4_ M5_ hM6_ z9_ e10_ _ M11_ _ hF15_ hs17_ v1_23 hv0_23 M_23 hL_23 _ hF_23 z19_ e20_ => ⟨(fun h21_ hM_ => ?_), (fun h21_ h22_ hM_ => ?_)⟩)
  all_goals
    have b1 := RCH.ind (P := fun x : Int32 × mM => x.2.1 (10, b, 0) 7 = M11_.1 (10, b, 0) 7) rfl (fun x z hp hst => by
      obtain ⟨x1, x2⟩ := x
      obtain ⟨z1, z2⟩ := z
      dsimp only at hp hst ⊢
      refine xE_ST_X10_passTenth_23 hst (fun p_hv0_23 _ p_hF_23 p_z19_ p_e20_ p_h21_ p_h22_ p_j23_ p_h24_ p_h25_ p_z26_ p_e27_ p_h28_ => ⟨(fun p_h29_ p_z30_ p_h31_ p_hq_v1_23y p_hM_ => ?_), (fun p_h29_ p_M32_ _ p_hF36_ p_hs38_ p_z39_ p_h40_ p_hq_v1_23y p_hM_ => ?_)⟩)
      · rw [p_hM_]; exact hp
      · rw [p_hM_, p_hF36_ (10, b, 0) 7 (by simp [S_c_X10_letWalkerGo])]; exact hp) hL_23
    dsimp only at b1
    rw [hM_, b1, hF15_ (10, b, 0) 7 (by simp [S_c_X7_letThingsGo]), zupE hM6_ rfl rfl, h4_, e2_]
theorem nnC_tenths {v : Int32} {M M1 : mM} {r : Int32} (h : SP_X11_tenths v M r M1) : TENN v (M.1 (10, 0, 0) 7) r (M1.1 (10, 0, 0) 7) := by
  have q0 := il_0
  unfold TENN
  refine xE_SP_X11_tenths h ⟨(fun hs5_ h4_ z7_ e8_ z9_ h10_ => ⟨(fun h11_ v2_39 hv0_39 M_39 hL_39 _ hF_39 h13_ z14_ e15_ hr_ hM_ => ?_), (fun h11_ M26_ _ hF30_ r25_ hs32_ hr_ hM_ => ?_)⟩), (fun hs5_ h4_ M35_ _ hF39_ r34_ hs41_ hr_ hM_ => ?_)⟩
  · have b := RCH.ind (P := fun x : Int32 × mM => 0 ≤ x.1.toInt ∧ x.1.toInt ≤ v.toInt ∧ x.2.1 (10, 0, 0) 7 = M.1 (10, 0, 0) 7 + x.1) ⟨by dsimp only; omega, by dsimp only; omega, by dsimp only; rw [Int32.add_zero]⟩ (fun x z hp hst => by
      obtain ⟨x1, x2⟩ := x
      obtain ⟨z1, z2⟩ := z
      dsimp only at hp hst ⊢
      refine xE_ST_X11_tenths_39 hst (fun hv0_39 _ hF_39 h13_ M16_ _ hF20_ hs22_ z23_ h24_ hq_v2_39y hM_ => ?_)
      refine ⟨by rw [hq_v2_39y]; omega, by rw [hq_v2_39y]; omega, ?_⟩
      rw [hq_v2_39y, hM_, x10now hs22_, hp.2.2]; exact inc32 h24_ (by omega)) hL_39
    dsimp only at b
    have e : v2_39 = v := i32e (by omega)
    rw [e] at b
    rw [h10_, e8_] at h11_
    exact Or.inr ⟨h4_, Or.inr ⟨h11_, by rw [hr_, e15_]; exact b.2.2, by rw [hM_]; exact b.2.2⟩⟩
  · rw [h10_, e8_] at h11_
    exact Or.inr ⟨h4_, Or.inl ⟨h11_, by rw [hr_]; exact err3 hs32_, by rw [hM_]; exact hF30_ _ _ (by simp [S_c_X11_error])⟩⟩
  · exact Or.inl ⟨h4_, by rw [hr_]; exact err1 hs41_, by rw [hM_]; exact hF39_ _ _ (by simp [S_c_X11_error])⟩
theorem x12now {M M1 : mM} (h : SP_X12_tenth M M1) : M1.1 (50, 0, 0) 0 = M.1 (50, 0, 0) 0 + (1 : Int32) := by
  refine xE_SP_X12_tenth h (fun z1_ e2_ z3_ h4_ M5_ hM6_ v1_12 hv0_12 M_12 hL_12 _ hF_12 z10_ e11_ h12_ h13_ v1_35 hv0_35 M_35 hL_35 _ hF_35 z15_ e16_ h17_ h18_ hM_ => ?_)
  have b1 := RCH.ind (P := fun x : Int32 × mM => x.2.1 (50, 0, 0) 0 = M5_.1 (50, 0, 0) 0) rfl (fun x z hp hst => by
    obtain ⟨x1, x2⟩ := x
    obtain ⟨z1, z2⟩ := z
    dsimp only at hp hst ⊢
    rw [KST_X12_tenth_12 hst 0 (by decide) (by decide)]; exact hp) hL_12
  have b2 := RCH.ind (P := fun x : Int32 × mM => x.2.1 (50, 0, 0) 0 = M_12.1 (50, 0, 0) 0) rfl (fun x z hp hst => by
    obtain ⟨x1, x2⟩ := x
    obtain ⟨z1, z2⟩ := z
    dsimp only at hp hst ⊢
    rw [KST_X12_tenth_35 hst 0 (by decide) (by decide)]; exact hp) hL_35
  dsimp only at b1 b2
  rw [hM_, b2, b1, zupE hM6_ rfl rfl, h4_, e2_]
theorem nnD_tenths {v : Int32} {M M1 : mM} {r : Int32} (h : SP_X12_tenths v M r M1) : TENN v (M.1 (50, 0, 0) 0) r (M1.1 (50, 0, 0) 0) := by
  have q0 := il_0
  unfold TENN
  refine xE_SP_X12_tenths h ⟨(fun hs5_ h4_ z7_ e8_ z9_ h10_ => ⟨(fun h11_ v2_40 hv0_40 M_40 hL_40 _ hF_40 h13_ z14_ e15_ hr_ hM_ => ?_), (fun h11_ M26_ _ hF30_ r25_ hs32_ h28_ hr_ hM_ => ?_)⟩), (fun hs5_ h4_ M35_ _ hF39_ r34_ hs41_ h37_ hr_ hM_ => ?_)⟩
  · have b := RCH.ind (P := fun x : Int32 × mM => 0 ≤ x.1.toInt ∧ x.1.toInt ≤ v.toInt ∧ x.2.1 (50, 0, 0) 0 = M.1 (50, 0, 0) 0 + x.1) ⟨by dsimp only; omega, by dsimp only; omega, by dsimp only; rw [Int32.add_zero]⟩ (fun x z hp hst => by
      obtain ⟨x1, x2⟩ := x
      obtain ⟨z1, z2⟩ := z
      dsimp only at hp hst ⊢
      refine xE_ST_X12_tenths_40 hst (fun hv0_40 _ hF_40 h13_ M16_ _ hF20_ hs22_ z23_ h24_ hq_v2_40y hM_ => ?_)
      refine ⟨by rw [hq_v2_40y]; omega, by rw [hq_v2_40y]; omega, ?_⟩
      rw [hq_v2_40y, hM_, x12now hs22_, hp.2.2]; exact inc32 h24_ (by omega)) hL_40
    dsimp only at b
    have e : v2_40 = v := i32e (by omega)
    rw [e] at b
    rw [h10_, e8_] at h11_
    exact Or.inr ⟨h4_, Or.inr ⟨h11_, by rw [hr_, e15_]; exact b.2.2, by rw [hM_]; exact b.2.2⟩⟩
  · rw [h10_, e8_] at h11_
    exact Or.inr ⟨h4_, Or.inl ⟨h11_, by rw [hr_]; exact h28_, by rw [hM_]; exact hF30_ _ _ (by simp [S_c_X12_finding])⟩⟩
  · exact Or.inl ⟨h4_, by rw [hr_]; exact h37_, by rw [hM_]; exact hF39_ _ _ (by simp [S_c_X12_finding])⟩
/-! sheet -/
def SHEB (v u t : Int32) : Prop := (0 ≤ v.toInt ∧ v.toInt ≤ 3) ∧ (u.toInt = 0 ∨ ((u.toInt = 8 ∨ u.toInt = 16 ∨ u.toInt = 32) ∧ 0 ≤ t.toInt ∧ t.toInt ≤ 24))
theorem x6drop {w : Nat} {M M1 : mM} (h : SP_X6_drop w M M1) : M1.1 (6, 0, w) 0 = 0 ∧ M1.1 (6, 0, w) 1 = 0 := by
  refine xE_SP_X6_drop h (fun M1_ hM2_ M5_ hM6_ hM_ => ?_)
  rw [hM_, zupE hM6_ rfl rfl, zupN hM6_ (by simp), zupE hM2_ rfl rfl]
  exact ⟨rfl, rfl⟩
theorem x6begin {w : Nat} {v u : Int32} {M M1 : mM} (h : SP_X6_begin w v u M M1) (hu : 0 ≤ u.toInt ∧ u.toInt ≤ 24) : M1.1 (6, 0, w) 0 = v ∧ M1.1 (6, 0, w) 1 = u := by
  refine xE_SP_X6_begin h (fun M1_ hM2_ z5_ h6_ z7_ h8_ M9_ hM10_ v3_21 hv0_21 hv1_21 M_21 hL_21 _ hF_21 h14_ hM_ => ?_)
  have b := RCH.ind (P := fun x : Int32 × mM => ∀ k, x.2.1 (6, 0, w) k = M9_.1 (6, 0, w) k) (fun _ => rfl) (fun x z hp hst => by
    obtain ⟨x1, x2⟩ := x
    obtain ⟨z1, z2⟩ := z
    dsimp only at hp hst ⊢
    refine xE_ST_X6_begin_21 hst (fun p_hv0_21 p_hv1_21 _ p_hF_21 p_h14_ p_j17_ p_h18_ p_M15_ p_hM16_ p_z21_ p_h22_ p_hq_v3_21y p_hM_ => ?_)
    intro k
    rw [p_hM_, zupR p_hM16_ (by simp)]; exact hp k) hL_21
  dsimp only at b
  rw [hM_, b 0, b 1, zupN hM10_ (by simp), zupE hM2_ rfl rfl, zupE hM10_ rfl rfl]
  exact ⟨rfl, i32e (by omega)⟩
theorem nnC_sheet {v u t : Int32} {M M1 : mM} {r : Int32} (h : SP_X11_sheet v u t M r M1) : (¬ SHEB v u t ∧ ∀ w k, M1.1 (6, 0, w) k = M.1 (6, 0, w) k) ∨ (SHEB v u t ∧ M1.1 (6, 0, v.toInt.toNat) 0 = u ∧ M1.1 (6, 0, v.toInt.toNat) 1 = (if u.toInt = 0 then 0 else t) ∧ ∀ w k, ¬ w = v.toInt.toNat → M1.1 (6, 0, w) k = M.1 (6, 0, w) k) := by
  have q0 := il_0
  unfold SHEB
  refine xE_SP_X11_sheet h ⟨(fun hs5_ h4_ => ⟨(fun h7_ h8_ j9_ h10_ h11_ M12_ _ hF16_ hs18_ hr_ hM_ => ?_), (fun h7_ => ⟨(fun h19_ h20_ => ⟨(fun h21_ => ⟨(fun h22_ j23_ h24_ h25_ M26_ _ hF30_ hs32_ hr_ hM_ => ?_), (fun h22_ M34_ _ hF38_ r33_ hs40_ hr_ hM_ => ?_)⟩), (fun h21_ M42_ _ hF46_ r41_ hs48_ hr_ hM_ => ?_)⟩), (fun h19_ => ⟨(fun h49_ h50_ => ⟨(fun h51_ => ⟨(fun h52_ j53_ h54_ h55_ M56_ _ hF60_ hs62_ hr_ hM_ => ?_), (fun h52_ M64_ _ hF68_ r63_ hs70_ hr_ hM_ => ?_)⟩), (fun h51_ M72_ _ hF76_ r71_ hs78_ hr_ hM_ => ?_)⟩), (fun h49_ => ⟨(fun h79_ h80_ => ⟨(fun h81_ => ⟨(fun h82_ j83_ h84_ h85_ M86_ _ hF90_ hs92_ hr_ hM_ => ?_), (fun h82_ M94_ _ hF98_ r93_ hs100_ hr_ hM_ => ?_)⟩), (fun h81_ M102_ _ hF106_ r101_ hs108_ hr_ hM_ => ?_)⟩), (fun h79_ M110_ _ hF114_ r109_ hs116_ hr_ hM_ => ?_)⟩)⟩)⟩)⟩), (fun hs5_ h4_ M119_ _ hF123_ r118_ hs125_ hr_ hM_ => ?_)⟩
  · obtain rfl : j9_ = v.toInt.toNat := by omega
    have a := x6drop hs18_
    refine Or.inr ⟨by omega, ?_, ?_, fun w k hw => ?_⟩
    · rw [hM_, a.1]; exact i32e (by omega)
    · rw [hM_, a.2, if_pos h7_]
    · rw [hM_]; exact hF16_ _ _ (fun q => by simp only [S_c_X6_drop, or_false] at q; omega)
  · obtain rfl : j23_ = v.toInt.toNat := by omega
    have a := x6begin hs32_ ⟨h21_, h22_⟩
    refine Or.inr ⟨by omega, ?_, ?_, fun w k hw => ?_⟩
    · rw [hM_, a.1]
    · rw [hM_, a.2, if_neg h7_]
    · rw [hM_]; exact hF30_ _ _ (fun q => by simp only [S_c_X6_begin, or_false] at q; omega)
  · exact Or.inl ⟨by omega, fun w k => by rw [hM_]; exact hF38_ _ _ (by simp [S_c_X11_error])⟩
  · exact Or.inl ⟨by omega, fun w k => by rw [hM_]; exact hF46_ _ _ (by simp [S_c_X11_error])⟩
  · obtain rfl : j53_ = v.toInt.toNat := by omega
    have a := x6begin hs62_ ⟨h51_, h52_⟩
    refine Or.inr ⟨by omega, ?_, ?_, fun w k hw => ?_⟩
    · rw [hM_, a.1]
    · rw [hM_, a.2, if_neg h7_]
    · rw [hM_]; exact hF60_ _ _ (fun q => by simp only [S_c_X6_begin, or_false] at q; omega)
  · exact Or.inl ⟨by omega, fun w k => by rw [hM_]; exact hF68_ _ _ (by simp [S_c_X11_error])⟩
  · exact Or.inl ⟨by omega, fun w k => by rw [hM_]; exact hF76_ _ _ (by simp [S_c_X11_error])⟩
  · obtain rfl : j83_ = v.toInt.toNat := by omega
    have a := x6begin hs92_ ⟨h81_, h82_⟩
    refine Or.inr ⟨by omega, ?_, ?_, fun w k hw => ?_⟩
    · rw [hM_, a.1]
    · rw [hM_, a.2, if_neg h7_]
    · rw [hM_]; exact hF90_ _ _ (fun q => by simp only [S_c_X6_begin, or_false] at q; omega)
  · exact Or.inl ⟨by omega, fun w k => by rw [hM_]; exact hF98_ _ _ (by simp [S_c_X11_error])⟩
  · exact Or.inl ⟨by omega, fun w k => by rw [hM_]; exact hF106_ _ _ (by simp [S_c_X11_error])⟩
  · exact Or.inl ⟨by omega, fun w k => by rw [hM_]; exact hF114_ _ _ (by simp [S_c_X11_error])⟩
  · exact Or.inl ⟨by omega, fun w k => by rw [hM_]; exact hF123_ _ _ (by simp [S_c_X11_error])⟩
theorem x12shl {v z : Int32} {M M1 M2 : mM} (h : RCH (fun x_ y_ => ST_X12_sheet_93 v M x_.1 x_.2 y_.1 y_.2) ((0 : Int32), M1) (z, M2)) : ∀ r k, ¬ r = 68 → M2.1 (r, 0, 0) k = M1.1 (r, 0, 0) k := by
  have b := RCH.ind (P := fun x : Int32 × mM => ∀ r k, ¬ r = 68 → x.2.1 (r, 0, 0) k = M1.1 (r, 0, 0) k) (fun _ _ _ => rfl) (fun x z hp hst => by
    obtain ⟨x1, x2⟩ := x
    obtain ⟨z1, z2⟩ := z
    dsimp only at hp hst ⊢
    refine xE_ST_X12_sheet_93 hst (fun p_hv0_93 p_hv1_93 _ p_hF_93 p_h24_ p_z25_ p_h26_ p_z27_ p_h28_ p_j31_ p_h32_ p_M29_ p_hM30_ p_z35_ p_h36_ p_hq_v4_93y p_hM_ => ?_)
    intro r k hr; rw [p_hM_, zupR p_hM30_ hr]; exact hp r k hr) h
  exact b
theorem x12shlb {v z : Int32} {M M1 M2 : mM} (h : RCH (fun x_ y_ => ST_X12_sheet_93b v M x_.1 x_.2 y_.1 y_.2) ((0 : Int32), M1) (z, M2)) : ∀ r k, ¬ r = 68 → M2.1 (r, 0, 0) k = M1.1 (r, 0, 0) k := by
  have b := RCH.ind (P := fun x : Int32 × mM => ∀ r k, ¬ r = 68 → x.2.1 (r, 0, 0) k = M1.1 (r, 0, 0) k) (fun _ _ _ => rfl) (fun x z hp hst => by
    obtain ⟨x1, x2⟩ := x
    obtain ⟨z1, z2⟩ := z
    dsimp only at hp hst ⊢
    refine xE_ST_X12_sheet_93b hst (fun p_hv0_93 p_hv1_93 _ p_hF_93 p_h56_ p_z57_ p_h58_ p_z59_ p_h60_ p_j63_ p_h64_ p_M61_ p_hM62_ p_z67_ p_h68_ p_hq_v4_93y p_hM_ => ?_)
    intro r k hr; rw [p_hM_, zupR p_hM62_ hr]; exact hp r k hr) h
  exact b
theorem x12shlc {v z : Int32} {M M1 M2 : mM} (h : RCH (fun x_ y_ => ST_X12_sheet_93c v M x_.1 x_.2 y_.1 y_.2) ((0 : Int32), M1) (z, M2)) : ∀ r k, ¬ r = 68 → M2.1 (r, 0, 0) k = M1.1 (r, 0, 0) k := by
  have b := RCH.ind (P := fun x : Int32 × mM => ∀ r k, ¬ r = 68 → x.2.1 (r, 0, 0) k = M1.1 (r, 0, 0) k) (fun _ _ _ => rfl) (fun x z hp hst => by
    obtain ⟨x1, x2⟩ := x
    obtain ⟨z1, z2⟩ := z
    dsimp only at hp hst ⊢
    refine xE_ST_X12_sheet_93c hst (fun p_hv0_93 p_hv1_93 _ p_hF_93 p_h104_ p_z105_ p_h106_ p_z107_ p_h108_ p_j111_ p_h112_ p_M109_ p_hM110_ p_z115_ p_h116_ p_hq_v4_93y p_hM_ => ?_)
    intro r k hr; rw [p_hM_, zupR p_hM110_ hr]; exact hp r k hr) h
  exact b
theorem x12shld {v z : Int32} {M M1 M2 : mM} (h : RCH (fun x_ y_ => ST_X12_sheet_93d v M x_.1 x_.2 y_.1 y_.2) ((0 : Int32), M1) (z, M2)) : ∀ r k, ¬ r = 68 → M2.1 (r, 0, 0) k = M1.1 (r, 0, 0) k := by
  have b := RCH.ind (P := fun x : Int32 × mM => ∀ r k, ¬ r = 68 → x.2.1 (r, 0, 0) k = M1.1 (r, 0, 0) k) (fun _ _ _ => rfl) (fun x z hp hst => by
    obtain ⟨x1, x2⟩ := x
    obtain ⟨z1, z2⟩ := z
    dsimp only at hp hst ⊢
    refine xE_ST_X12_sheet_93d hst (fun p_hv0_93 p_hv1_93 _ p_hF_93 p_h152_ p_z153_ p_h154_ p_z155_ p_h156_ p_j159_ p_h160_ p_M157_ p_hM158_ p_z163_ p_h164_ p_hq_v4_93y p_hM_ => ?_)
    intro r k hr; rw [p_hM_, zupR p_hM158_ hr]; exact hp r k hr) h
  exact b
theorem x12sh2 {v u t : Int32} {j j' : Nat} {M M1 M2 M3 : mM} (h1 : M1 = up M (66, 0, 0) j u) (h2 : M2 = up M1 (67, 0, 0) j' t) (hj : (j : Int) = v.toInt) (hj' : (j' : Int) = v.toInt) (h : ∀ r k, ¬ r = 68 → M3.1 (r, 0, 0) k = M2.1 (r, 0, 0) k) : M3.1 (66, 0, 0) v.toInt.toNat = u ∧ M3.1 (67, 0, 0) v.toInt.toNat = t ∧ ∀ w, ¬ w = v.toInt.toNat → M3.1 (66, 0, 0) w = M.1 (66, 0, 0) w ∧ M3.1 (67, 0, 0) w = M.1 (67, 0, 0) w := by
  refine ⟨?_, ?_, fun w hw => ⟨?_, ?_⟩⟩
  · rw [h 66 _ (by decide), zupR h2 (by simp), zupE h1 rfl (by omega)]
  · rw [h 67 _ (by decide), zupE h2 rfl (by omega)]
  · rw [h 66 _ (by decide), zupR h2 (by simp), zupN h1 (fun q => hw (by have := q.2; omega))]
  · rw [h 67 _ (by decide), zupN h2 (fun q => hw (by have := q.2; omega)), zupR h1 (by simp)]
theorem nnD_sheet {v u t : Int32} {M M1 : mM} {r : Int32} (h : SP_X12_sheet v u t M r M1) : (¬ SHEB v u t ∧ ∀ w, M1.1 (66, 0, 0) w = M.1 (66, 0, 0) w ∧ M1.1 (67, 0, 0) w = M.1 (67, 0, 0) w) ∨ (SHEB v u t ∧ M1.1 (66, 0, 0) v.toInt.toNat = u ∧ M1.1 (67, 0, 0) v.toInt.toNat = (if u.toInt = 0 then 0 else t) ∧ ∀ w, ¬ w = v.toInt.toNat → M1.1 (66, 0, 0) w = M.1 (66, 0, 0) w ∧ M1.1 (67, 0, 0) w = M.1 (67, 0, 0) w) := by
  unfold SHEB
  refine xE_SP_X12_sheet h ⟨(fun hs5_ h4_ => ⟨(fun h7_ h8_ h9_ j12_ h13_ M10_ hM11_ h16_ j19_ h20_ M17_ hM18_ v4_93 hv0_93 hv1_93 M_93 hL_93 _ hF_93 h24_ hr_ hM_ => ?_), (fun h7_ => ⟨(fun h37_ h38_ => ⟨(fun h39_ h40_ => ⟨(fun h41_ j44_ h45_ M42_ hM43_ h48_ j51_ h52_ M49_ hM50_ v4_93 hv0_93 hv1_93 M_93 hL_93 _ hF_93 h56_ hr_ hM_ => ?_), (fun h41_ M70_ _ hF74_ r69_ hs76_ h72_ hr_ hM_ => ?_)⟩), (fun h39_ M78_ _ hF82_ r77_ hs84_ h80_ hr_ hM_ => ?_)⟩), (fun h37_ => ⟨(fun h85_ h86_ => ⟨(fun h87_ h88_ => ⟨(fun h89_ j92_ h93_ M90_ hM91_ h96_ j99_ h100_ M97_ hM98_ v4_93 hv0_93 hv1_93 M_93 hL_93 _ hF_93 h104_ hr_ hM_ => ?_), (fun h89_ M118_ _ hF122_ r117_ hs124_ h120_ hr_ hM_ => ?_)⟩), (fun h87_ M126_ _ hF130_ r125_ hs132_ h128_ hr_ hM_ => ?_)⟩), (fun h85_ => ⟨(fun h133_ h134_ => ⟨(fun h135_ h136_ => ⟨(fun h137_ j140_ h141_ M138_ hM139_ h144_ j147_ h148_ M145_ hM146_ v4_93 hv0_93 hv1_93 M_93 hL_93 _ hF_93 h152_ hr_ hM_ => ?_), (fun h137_ M166_ _ hF170_ r165_ hs172_ h168_ hr_ hM_ => ?_)⟩), (fun h135_ M174_ _ hF178_ r173_ hs180_ h176_ hr_ hM_ => ?_)⟩), (fun h133_ M182_ _ hF186_ r181_ hs188_ h184_ hr_ hM_ => ?_)⟩)⟩)⟩)⟩), (fun hs5_ h4_ M191_ _ hF195_ r190_ hs197_ h193_ hr_ hM_ => ?_)⟩
  · rw [if_pos h7_, hM_]; exact Or.inr ⟨by omega, x12sh2 hM11_ hM18_ h13_ h20_ (x12shl hL_93)⟩
  · rw [if_neg h7_, hM_]; exact Or.inr ⟨by omega, x12sh2 hM43_ hM50_ h45_ h52_ (x12shlb hL_93)⟩
  · exact Or.inl ⟨by omega, fun w => by rw [hM_]; exact ⟨hF74_ _ _ (by simp [S_c_X12_finding]), hF74_ _ _ (by simp [S_c_X12_finding])⟩⟩
  · exact Or.inl ⟨by omega, fun w => by rw [hM_]; exact ⟨hF82_ _ _ (by simp [S_c_X12_finding]), hF82_ _ _ (by simp [S_c_X12_finding])⟩⟩
  · rw [if_neg h7_, hM_]; exact Or.inr ⟨by omega, x12sh2 hM91_ hM98_ h93_ h100_ (x12shlc hL_93)⟩
  · exact Or.inl ⟨by omega, fun w => by rw [hM_]; exact ⟨hF122_ _ _ (by simp [S_c_X12_finding]), hF122_ _ _ (by simp [S_c_X12_finding])⟩⟩
  · exact Or.inl ⟨by omega, fun w => by rw [hM_]; exact ⟨hF130_ _ _ (by simp [S_c_X12_finding]), hF130_ _ _ (by simp [S_c_X12_finding])⟩⟩
  · rw [if_neg h7_, hM_]; exact Or.inr ⟨by omega, x12sh2 hM139_ hM146_ h141_ h148_ (x12shld hL_93)⟩
  · exact Or.inl ⟨by omega, fun w => by rw [hM_]; exact ⟨hF170_ _ _ (by simp [S_c_X12_finding]), hF170_ _ _ (by simp [S_c_X12_finding])⟩⟩
  · exact Or.inl ⟨by omega, fun w => by rw [hM_]; exact ⟨hF178_ _ _ (by simp [S_c_X12_finding]), hF178_ _ _ (by simp [S_c_X12_finding])⟩⟩
  · exact Or.inl ⟨by omega, fun w => by rw [hM_]; exact ⟨hF186_ _ _ (by simp [S_c_X12_finding]), hF186_ _ _ (by simp [S_c_X12_finding])⟩⟩
  · exact Or.inl ⟨by omega, fun w => by rw [hM_]; exact ⟨hF195_ _ _ (by simp [S_c_X12_finding]), hF195_ _ _ (by simp [S_c_X12_finding])⟩⟩
end
section
/-! image, restore, check -/
theorem cp_at {M M1 : mM} {c0 c1 : rf} {n : Int32} {k : Nat} (h : M1 = cp M c0 c1 (0 : Int32).toNatClampNeg (0 : Int32).toNatClampNeg n.toNatClampNeg) (hk : k < n.toNatClampNeg) : M1.1 c1 k = M.1 c0 k := by
  rw [h, cp_row]
  unfold va_cpy
  rw [if_pos ⟨Nat.zero_le _, by rw [show (0 : Int32).toNatClampNeg = 0 from rfl]; omega⟩, show (0 : Int32).toNatClampNeg = 0 from rfl, Nat.zero_add, Nat.sub_zero]
theorem x9loop {b b2 : Nat} {z : Int32} {M0 M M1 : mM} (h : RCH (fun x_ y_ => ST_X10_takeFrom_73 b b2 M0 x_.1 x_.2 y_.1 y_.2) ((0 : Int32), M) (z, M1)) : ∀ (c : rf) (k : Nat), ¬ (c.1 = 9 ∨ c.1 = 40 ∨ c.1 = 41) → M1.1 c k = M.1 c k := by
  have a := RCH.ind (P := fun x : Int32 × mM => ∀ (c : rf) (k : Nat), ¬ (c.1 = 9 ∨ c.1 = 40 ∨ c.1 = 41) → x.2.1 c k = M.1 c k) (fun _ _ _ => rfl) (fun x z hp hst => by
    obtain ⟨x1, x2⟩ := x
    obtain ⟨z1, z2⟩ := z
    dsimp only at hp hst ⊢
    refine xE_ST_X10_takeFrom_73 hst (fun p_hv0_73 _ p_hF_73 p_z49_ p_e50_ p_h51_ p_h52_ p_j53_ p_h54_ p_h55_ p_j56_ p_h57_ p_h58_ p_M59_ _ p_hF63_ p_hs65_ p_z66_ p_h67_ p_hq_v2_73y p_hM_ => ?_)
    intro c k hc
    rw [p_hM_, p_hF63_ c k (fun q => by simp only [S_c_X9_takeFrom, or_false] at q; omega)]; exact hp c k hc) h
  exact a
theorem x2loop {b b2 : Nat} {z : Int32} {M0 M M1 : mM} (h : RCH (fun x_ y_ => ST_X2_takeFrom_54 b b2 M0 x_.1 x_.2 y_.1 y_.2) ((0 : Int32), M) (z, M1)) : ∀ (c : rf) (k : Nat), ¬ (c.1 = 1 ∨ c.1 = 24) → M1.1 c k = M.1 c k := by
  have a := RCH.ind (P := fun x : Int32 × mM => ∀ (c : rf) (k : Nat), ¬ (c.1 = 1 ∨ c.1 = 24) → x.2.1 c k = M.1 c k) (fun _ _ _ => rfl) (fun x z hp hst => by
    obtain ⟨x1, x2⟩ := x
    obtain ⟨z1, z2⟩ := z
    dsimp only at hp hst ⊢
    refine xE_ST_X2_takeFrom_54 hst (fun p_hv0_54 p_hv1_54 _ p_hF_54 p_h28_ p_j29_ p_h30_ p_h31_ p_h32_ p_j33_ p_h34_ p_h35_ p_h36_ p_M37_ _ p_hF41_ p_hs43_ p_z44_ p_h45_ p_hq_v2_54y p_hM_ => ?_)
    intro c k hc
    rw [p_hM_, p_hF41_ c k (fun q => by simp only [S_c_X1_takeFrom, or_false] at q; omega)]; exact hp c k hc) h
  exact a
theorem x2take {b b2 : Nat} {M M1 : mM} (h : SP_X2_takeFrom b b2 M M1) : (∀ k, k ≤ 2 → M1.1 (2, b, 0) k = M.1 (2, b2, 0) k) ∧ (∀ k, k < 5 → M1.1 (26, b, 0) k = M.1 (26, b2, 0) k ∧ M1.1 (27, b, 0) k = M.1 (27, b2, 0) k) := by
  refine xE_SP_X2_takeFrom h (fun z1_ e2_ M3_ hM4_ z7_ e8_ M9_ hM10_ z13_ e14_ M15_ hM16_ M19_ hM20_ M23_ hM24_ v2_54 hv0_54 hv1_54 M_54 hL_54 _ hF_54 h28_ hM_ => ?_)
  have a := x2loop hL_54
  have c2 : ∀ w k, M_54.1 (2, w, 0) k = M15_.1 (2, w, 0) k := fun w k => by rw [a _ _ (by simp), zcpR hM24_ (by simp), zcpR hM20_ (by simp)]
  have n5 : (5 : Int32).toNatClampNeg = 5 := rfl
  refine ⟨fun k hk => ?_, fun k hk => ⟨?_, ?_⟩⟩
  · rw [hM_, c2]
    by_cases hb : b = b2
    · subst hb
      obtain rfl | rfl | rfl : k = 0 ∨ k = 1 ∨ k = 2 := by omega
      · rw [zupN hM16_ (by simp), zupN hM10_ (by simp), zupE hM4_ rfl rfl, e2_]
      · rw [zupN hM16_ (by simp), zupE hM10_ rfl rfl, e8_, zupN hM4_ (by simp)]
      · rw [zupE hM16_ rfl rfl, e14_, zupN hM10_ (by simp), zupN hM4_ (by simp)]
    · obtain rfl | rfl | rfl : k = 0 ∨ k = 1 ∨ k = 2 := by omega
      · rw [zupN hM16_ (by simp), zupN hM10_ (by simp), zupE hM4_ rfl rfl, e2_]
      · rw [zupN hM16_ (by simp), zupE hM10_ rfl rfl, e8_, zupN hM4_ (by simp)]
      · rw [zupE hM16_ rfl rfl, e14_, zupN hM10_ (by simp), zupN hM4_ (by simp)]
  · rw [hM_, a _ _ (by simp), zcpR hM24_ (by simp), cp_at hM20_ (by omega), zupR hM16_ (by simp), zupR hM10_ (by simp), zupR hM4_ (by simp)]
  · rw [hM_, a _ _ (by simp), cp_at hM24_ (by omega), zcpR hM20_ (by simp), zupR hM16_ (by simp), zupR hM10_ (by simp), zupR hM4_ (by simp)]
theorem x3take {b b2 : Nat} {M M1 : mM} (h : SP_X3_takeFrom b b2 M M1) : M1.1 (3, b, 0) 3 = M.1 (3, b2, 0) 3 := by
  refine xE_SP_X3_takeFrom h (fun M1_ hM2_ M5_ hM6_ M9_ hM10_ z13_ e14_ M15_ hM16_ hM_ => ?_)
  rw [hM_, zupE hM16_ rfl rfl, e14_, zcpR hM10_ (by simp), zcpR hM6_ (by simp), zcpR hM2_ (by simp)]
theorem x5take {b w b2 w2 : Nat} {M M1 : mM} (h : SP_X5_takeFrom b w b2 w2 M M1) (hs : (M.1 (5, b2, w2) 1).toInt ≤ ((rl w : Nat) : Int)) : M1.1 (5, b, w) 1 = M.1 (5, b2, w2) 1 := by
  refine xE_SP_X5_takeFrom h (fun z1_ e2_ z3_ h4_ z5_ h6_ M7_ hM8_ v2_18 hv0_18 M_18 hL_18 _ hF_18 z13_ e14_ h15_ h16_ hM_ => ?_)
  have a := RCH.ind (P := fun x : Int32 × mM => x.2.1 (5, b, w) 1 = M7_.1 (5, b, w) 1) rfl (fun x z hp hst => by
    obtain ⟨x1, x2⟩ := x
    obtain ⟨z1, z2⟩ := z
    dsimp only at hp hst ⊢
    refine xE_ST_X5_takeFrom_18 hst (fun p_hv0_18 _ p_hF_18 p_z13_ p_e14_ p_h15_ p_h16_ p_r17_ p_hs21_ p_j24_ p_h25_ p_M22_ p_hM23_ p_z29_ p_h30_ p_hq_v2_18y p_hM_ => ?_)
    rw [p_hM_, zupR p_hM23_ (by simp)]; exact hp) hL_18
  dsimp only at a
  have y := eT e2_
  rw [hM_, a, zupE hM8_ rfl rfl]
  exact i32e (by omega)
/-- what a world takes from another one, as far as both hold it alike -/
theorem x10take {b b2 : Nat} {M M1 : mM} (h : SP_X10_takeFrom b b2 M M1) (hb : ¬ b = b2) (h0 : (M.1 (5, b2, 0) 1).toInt ≤ 48) (h1 : (M.1 (5, b2, 1) 1).toInt ≤ 24) :
    M1.1 (10, b, 0) 7 = M.1 (10, b2, 0) 7 ∧ M1.1 (3, b, 0) 3 = M.1 (3, b2, 0) 3 ∧ (∀ w, w < 2 → M1.1 (5, b, w) 1 = M.1 (5, b2, w) 1) ∧ (∀ k, k ≤ 2 → M1.1 (2, b, 0) k = M.1 (2, b2, 0) k) ∧ (∀ k, k < 5 → M1.1 (26, b, 0) k = M.1 (26, b2, 0) k ∧ M1.1 (27, b, 0) k = M.1 (27, b2, 0) k) := by
  have hl0 : rl 0 = 48 := rfl
  have hl1 : rl 1 = 24 := rfl
  refine xE_SP_X10_takeFrom h (fun M1_ _ hF5_ hs7_ M8_ _ hF12_ hs14_ M15_ _ hF19_ hs21_ M22_ _ hF26_ hs28_ M29_ _ hF33_ hs35_ z36_ e37_ M38_ hM39_ z42_ e43_ M44_ hM45_ v2_73 hv0_73 M_73 hL_73 _ hF_73 z49_ e50_ => ⟨(fun h51_ hM_ => ?_), (fun h51_ h52_ hM_ => ?_)⟩)
  all_goals
    have a := x9loop hL_73
    have g7 : ∀ (c : rf) (k : Nat), ¬ (c.1 = 35 ∨ c.1 = 36 ∨ c.1 = 37 ∨ c.1 = 38 ∨ c.1 = 39 ∨ c.1 = 7) → M1_.1 c k = M.1 c k := fun c k hc => hF5_ c k (fun q => by simp only [S_c_X7_takeFrom, or_false] at q; omega)
    have g2 : ∀ (c : rf) (k : Nat), ¬ (c.1 = 2 ∨ c.1 = 26 ∨ c.1 = 27 ∨ c.1 = 1 ∨ c.1 = 24) → M8_.1 c k = M1_.1 c k := fun c k hc => hF12_ c k (fun q => by simp only [S_c_X2_takeFrom, or_false] at q; omega)
    have g3 : ∀ (c : rf) (k : Nat), ¬ (c.1 = 3 ∨ c.1 = 30 ∨ c.1 = 31 ∨ c.1 = 32) → M15_.1 c k = M8_.1 c k := fun c k hc => hF19_ c k (fun q => by simp only [S_c_X3_takeFrom, or_false] at q; omega)
    have g5 : ∀ (c : rf) (k : Nat), ¬ ((c.1 = 5 ∨ c.1 = 33) ∧ c.2.1 = b ∧ c.2.2 = 0) → M22_.1 c k = M15_.1 c k := fun c k hc => hF26_ c k (fun q => by simp only [S_c_X5_takeFrom, or_false] at q; omega)
    have g6 : ∀ (c : rf) (k : Nat), ¬ ((c.1 = 5 ∨ c.1 = 33) ∧ c.2.1 = b ∧ c.2.2 = 1) → M29_.1 c k = M22_.1 c k := fun c k hc => hF33_ c k (fun q => by simp only [S_c_X5_takeFrom, or_false] at q; omega)
    have t2 := x2take hs14_
    have t3 := x3take hs21_
    have t5 := x5take hs28_ (by rw [g3 _ _ (by simp), g2 _ _ (by simp), g7 _ _ (by simp)]; omega)
    have t6 := x5take hs35_ (by rw [g5 _ _ (by simp), g3 _ _ (by simp), g2 _ _ (by simp), g7 _ _ (by simp)]; omega)
    rw [hM_]
    refine ⟨?_, ?_, fun w hw => ?_, fun k hk => ?_, fun k hk => ⟨?_, ?_⟩⟩
    · rw [a _ _ (by simp), zupE hM45_ rfl rfl, e43_, zupN hM39_ (by simp), g6 _ _ (by simp), g5 _ _ (by simp), g3 _ _ (by simp), g2 _ _ (by simp), g7 _ _ (by simp)]
    · rw [a _ _ (by simp), zupR hM45_ (by simp), zupR hM39_ (by simp), g6 _ _ (by simp), g5 _ _ (by simp), t3, g2 _ _ (by simp), g7 _ _ (by simp)]
    · rw [a _ _ (by simp), zupR hM45_ (by simp), zupR hM39_ (by simp)]
      obtain rfl | rfl : w = 0 ∨ w = 1 := by omega
      · rw [g6 _ _ (by simp), t5, g3 _ _ (by simp), g2 _ _ (by simp), g7 _ _ (by simp)]
      · rw [t6, g5 _ _ (by simp), g3 _ _ (by simp), g2 _ _ (by simp), g7 _ _ (by simp)]
    · rw [a _ _ (by simp), zupR hM45_ (by simp), zupR hM39_ (by simp), g6 _ _ (by simp), g5 _ _ (by simp), g3 _ _ (by simp), t2.1 k hk, g7 _ _ (by simp)]
    · rw [a _ _ (by simp), zupR hM45_ (by simp), zupR hM39_ (by simp), g6 _ _ (by simp), g5 _ _ (by simp), g3 _ _ (by simp), (t2.2 k hk).1, g7 _ _ (by simp)]
    · rw [a _ _ (by simp), zupR hM45_ (by simp), zupR hM39_ (by simp), g6 _ _ (by simp), g5 _ _ (by simp), g3 _ _ (by simp), (t2.2 k hk).2, g7 _ _ (by simp)]
theorem cpy51 {M M1 : mM} (h : SP_copy_50_51 M M1) (i : Nat) (hi : i < 3567) : M1.1 (51, 0, 0) i = M1.1 (50, 0, 0) i := by
  refine xE_SP_copy_50_51 h (fun v2_2 hv0_2 hv1_2 M_2 hv2_2 hL_2 _ hF_2 h2_ hM_ => ?_)
  rw [hM_]; exact hv2_2 i (by omega)
theorem cpy50 {M M1 : mM} (h : SP_copy_51_50 M M1) (i : Nat) (hi : i < 3567) : M1.1 (50, 0, 0) i = M1.1 (51, 0, 0) i := by
  refine xE_SP_copy_51_50 h (fun v2_2 hv0_2 hv1_2 M_2 hv2_2 hL_2 _ hF_2 h2_ hM_ => ?_)
  rw [hM_]; exact hv2_2 i (by omega)
theorem cpy52 {M M1 : mM} (h : SP_copy_50_52 M M1) (i : Nat) (hi : i < 3567) : M1.1 (52, 0, 0) i = M1.1 (50, 0, 0) i := by
  refine xE_SP_copy_50_52 h (fun v2_2 hv0_2 hv1_2 M_2 hv2_2 hL_2 _ hF_2 h2_ hM_ => ?_)
  rw [hM_]; exact hv2_2 i (by omega)
theorem cpy50b {M M1 : mM} (h : SP_copy_52_50 M M1) (i : Nat) (hi : i < 3567) : M1.1 (50, 0, 0) i = M1.1 (52, 0, 0) i := by
  refine xE_SP_copy_52_50 h (fun v2_2 hv0_2 hv1_2 M_2 hv2_2 hL_2 _ hF_2 h2_ hM_ => ?_)
  rw [hM_]; exact hv2_2 i (by omega)
theorem nnC_image {M M1 : mM} {r : Int32} (h : SP_X11_image M r M1) (h0 : (M.1 (5, 0, 0) 1).toInt ≤ 48) (h1 : (M.1 (5, 0, 1) 1).toInt ≤ 24) :
    (r = M.1 (11, 0, 0) 8 + (1 : Int32) ∧ M1.1 (11, 0, 0) 8 = M.1 (11, 0, 0) 8 + (1 : Int32)) ∧ (M1.1 (10, 1, 0) 7 = M.1 (10, 0, 0) 7 ∧ M1.1 (3, 1, 0) 3 = M.1 (3, 0, 0) 3 ∧ (∀ w, w < 2 → M1.1 (5, 1, w) 1 = M.1 (5, 0, w) 1) ∧ (∀ k, k ≤ 2 → M1.1 (2, 1, 0) k = M.1 (2, 0, 0) k) ∧ (∀ k, k < 5 → M1.1 (26, 1, 0) k = M.1 (26, 0, 0) k ∧ M1.1 (27, 1, 0) k = M.1 (27, 0, 0) k)) := by
  refine xE_SP_X11_image h (fun M1_ _ hF5_ hs7_ z8_ e9_ z10_ h11_ M12_ hM13_ z16_ e17_ hr_ hM_ => ?_)
  have a := x10take hs7_ (by decide) h0 h1
  have e : M1_.1 (11, 0, 0) 8 = M.1 (11, 0, 0) 8 := hF5_ _ _ (by simp [S_c_X10_takeFrom])
  have f : M12_.1 (11, 0, 0) 8 = M.1 (11, 0, 0) 8 + (1 : Int32) := by rw [zupE hM13_ rfl rfl, h11_, e9_, e]
  rw [hr_, e17_, hM_]
  refine ⟨⟨f, f⟩, ?_⟩
  have g : ∀ (c : rf) (k : Nat), ¬ c.1 = 11 → M12_.1 c k = M1_.1 c k := fun c k hc => zupR hM13_ hc
  refine ⟨?_, ?_, fun w hw => ?_, fun k hk => ?_, fun k hk => ⟨?_, ?_⟩⟩
  · rw [g _ _ (by simp)]; exact a.1
  · rw [g _ _ (by simp)]; exact a.2.1
  · rw [g _ _ (by simp)]; exact a.2.2.1 w hw
  · rw [g _ _ (by simp)]; exact a.2.2.2.1 k hk
  · rw [g _ _ (by simp)]; exact (a.2.2.2.2 k hk).1
  · rw [g _ _ (by simp)]; exact (a.2.2.2.2 k hk).2
theorem nnD_image {M M1 : mM} {r : Int32} (h : SP_X12_image M r M1) : (r = M.1 (12, 0, 0) 3 + (1 : Int32) ∧ M1.1 (12, 0, 0) 3 = M.1 (12, 0, 0) 3 + (1 : Int32)) ∧ (∀ i, i < 3567 → M1.1 (51, 0, 0) i = M.1 (50, 0, 0) i) := by
  refine xE_SP_X12_image h (fun M1_ _ hF5_ hs7_ z9_ e10_ z11_ h12_ M13_ hM14_ z17_ e18_ hr_ hM_ => ?_)
  have e : M1_.1 (12, 0, 0) 3 = M.1 (12, 0, 0) 3 := hF5_ _ _ (by simp [S_c_copy_50_51])
  have f : M13_.1 (12, 0, 0) 3 = M.1 (12, 0, 0) 3 + (1 : Int32) := by rw [zupE hM14_ rfl rfl, h12_, e10_, e]
  rw [hr_, e18_, hM_]
  refine ⟨⟨f, f⟩, fun i hi => ?_⟩
  rw [zupR hM14_ (by simp), cpy51 hs7_ i hi, hF5_ (50, 0, 0) i (by simp [S_c_copy_50_51])]
theorem nnC_restore {M M1 : mM} {r : Int32} (h : SP_X11_restore M r M1) (hb : ¬ (M.1 (11, 0, 0) 8).toInt = 0 → (M.1 (5, 1, 0) 1).toInt ≤ 48 ∧ (M.1 (5, 1, 1) 1).toInt ≤ 24) :
    ((M.1 (11, 0, 0) 8).toInt = 0 ∧ r.toInt = -1000002 ∧ ∀ (c : rf) (k : Nat), ¬ c.1 = 44 → M1.1 c k = M.1 c k) ∨ (¬ (M.1 (11, 0, 0) 8).toInt = 0 ∧ r = M.1 (10, 1, 0) 7 ∧ (M1.1 (10, 0, 0) 7 = M.1 (10, 1, 0) 7 ∧ M1.1 (3, 0, 0) 3 = M.1 (3, 1, 0) 3 ∧ (∀ w, w < 2 → M1.1 (5, 0, w) 1 = M.1 (5, 1, w) 1) ∧ (∀ k, k ≤ 2 → M1.1 (2, 0, 0) k = M.1 (2, 1, 0) k) ∧ (∀ k, k < 5 → M1.1 (26, 0, 0) k = M.1 (26, 1, 0) k ∧ M1.1 (27, 0, 0) k = M.1 (27, 1, 0) k))) := by
  refine xE_SP_X11_restore h (fun z1_ e2_ => ⟨(fun h3_ M4_ _ hF8_ hs10_ z11_ e12_ hr_ hM_ => ?_), (fun h3_ M14_ _ hF18_ r13_ hs20_ hr_ hM_ => ?_)⟩)
  · have y := eT e2_
    have a := x10take hs10_ (by decide) (hb (by omega)).1 (hb (by omega)).2
    rw [hr_, e12_, hM_]
    exact Or.inr ⟨by omega, a.1, a⟩
  · have y := eT e2_
    rw [hr_, hM_]
    exact Or.inl ⟨by omega, err2 hs20_, fun c k hc => hF18_ c k (fun q => by simp only [S_c_X11_error, or_false] at q; omega)⟩
theorem nnD_restore {M M1 : mM} {r : Int32} (h : SP_X12_restore M r M1) :
    ((M.1 (12, 0, 0) 3).toInt = 0 ∧ r.toInt = -1000002 ∧ ∀ (c : rf) (k : Nat), ¬ c.1 = 53 → M1.1 c k = M.1 c k) ∨ (¬ (M.1 (12, 0, 0) 3).toInt = 0 ∧ r = M.1 (51, 0, 0) 0 ∧ ∀ i, i < 3567 → M1.1 (50, 0, 0) i = M.1 (51, 0, 0) i) := by
  refine xE_SP_X12_restore h (fun z1_ e2_ => ⟨(fun h3_ M4_ _ hF8_ hs10_ z12_ e13_ hr_ hM_ => ?_), (fun h3_ M15_ _ hF19_ r14_ hs21_ h17_ hr_ hM_ => ?_)⟩)
  · have y := eT e2_
    have g : ∀ i, i < 3567 → M4_.1 (50, 0, 0) i = M.1 (51, 0, 0) i := fun i hi => by rw [cpy50 hs10_ i hi, hF8_ (51, 0, 0) i (by simp [S_c_copy_51_50])]
    rw [hr_, e13_, hM_]
    exact Or.inr ⟨by omega, g 0 (by omega), g⟩
  · have y := eT e2_
    rw [hr_, hM_]
    exact Or.inl ⟨by omega, h17_, fun c k hc => hF19_ c k (fun q => by simp only [S_c_X12_finding, or_false] at q; omega)⟩
theorem nnC_check {v : Int32} {M M1 : mM} {r : Int32} (h : SP_X11_check v M r M1) : M1.1 (5, 0, 1) 1 = 0 := by
  refine xE_SP_X11_check h ⟨(fun hs5_ h4_ M7_ _ hF11_ hs13_ M14_ _ hF18_ hs20_ v2_50 hv0_50 M_50 hL_50 _ hF_50 z22_ e23_ => ⟨(fun h24_ hr_ hM_ => ?_), (fun h24_ M25_ _ hF29_ hs31_ j32_ h33_ h34_ z35_ e36_ r37_ hs41_ h42_ z45_ h46_ hr_ hM_ => ?_)⟩), (fun hs5_ M48_ _ hF52_ hs54_ M56_ _ hF60_ r55_ hs62_ hr_ hM_ => ?_)⟩
  · have a := RCH.ind (P := fun x : Int32 × mM => x.2.1 (5, 0, 1) 1 = 0) (by dsimp only; exact zupE (x5clear hs20_) rfl rfl) (fun x z hp hst => by
      obtain ⟨x1, x2⟩ := x
      obtain ⟨z1, z2⟩ := z
      dsimp only at hp hst ⊢
      refine xE_ST_X11_check_50 hst (fun p_hv0_50 _ p_hF_50 p_z22_ p_e23_ p_h24_ p_M25_ _ p_hF29_ p_hs31_ p_j32_ p_h33_ p_h34_ p_z35_ p_e36_ p_r37_ p_hs41_ p_h42_ p_z43_ p_h44_ p_hq_v2_50y p_hM_ => ?_)
      rw [p_hM_, p_hF29_ (5, 0, 1) 1 (by simp [S_c_X10_passTenth])]; exact hp) hL_50
    rw [hM_]; exact a
  · have a := RCH.ind (P := fun x : Int32 × mM => x.2.1 (5, 0, 1) 1 = 0) (by dsimp only; exact zupE (x5clear hs20_) rfl rfl) (fun x z hp hst => by
      obtain ⟨x1, x2⟩ := x
      obtain ⟨z1, z2⟩ := z
      dsimp only at hp hst ⊢
      refine xE_ST_X11_check_50 hst (fun p_hv0_50 _ p_hF_50 p_z22_ p_e23_ p_h24_ p_M25_ _ p_hF29_ p_hs31_ p_j32_ p_h33_ p_h34_ p_z35_ p_e36_ p_r37_ p_hs41_ p_h42_ p_z43_ p_h44_ p_hq_v2_50y p_hM_ => ?_)
      rw [p_hM_, p_hF29_ (5, 0, 1) 1 (by simp [S_c_X10_passTenth])]; exact hp) hL_50
    rw [hM_, hF29_ (5, 0, 1) 1 (by simp [S_c_X10_passTenth])]; exact a
  · rw [hM_, hF60_ (5, 0, 1) 1 (by simp [S_c_X11_error])]; exact zupE (x5clear hs54_) rfl rfl
theorem nnD_check {v : Int32} {M M1 : mM} {r : Int32} (h : SP_X12_check v M r M1) : M1.1 (50, 0, 0) 5 = 0 ∧ kq [5] M M1 := by
  have key : ∀ {a1 a2 : Int32} {M4 M14 Mh Mf : mM}, M4 = up M (50, 0, 0) 5 0 → SP_copy_50_52 M4 M14 → FR S_c_copy_50_52 M4 M14 → (∀ i, Mh.1 (52, 0, 0) i = M14.1 (52, 0, 0) i) → SP_copy_52_50 Mh Mf → FR S_c_copy_52_50 Mh Mf → Mf.1 (50, 0, 0) 5 = 0 ∧ kq [5] M Mf := fun h4 h14 f14 hh hf ff => by
    have e : ∀ i, i < 3567 → _ := fun i hi => (cpy50b hf i hi).trans ((ff (52, 0, 0) i (by simp [S_c_copy_52_50])).trans ((hh i).trans ((cpy52 h14 i hi).trans (f14 (50, 0, 0) i (by simp [S_c_copy_50_52])))))
    refine ⟨(e 5 (by omega)).trans (zupE h4 rfl rfl), fun j hj hn => (e j (by omega)).trans (zupN h4 (fun q => ?_))⟩
    simp at hn
    exact hn q.2
  refine xE_SP_X12_check h (fun z1_ e2_ h3_ M4_ hM5_ _ => ⟨(fun hs12_ h11_ M14_ _ hF18_ hs20_ v4_46 hv0_46 hv1_46 v3_46 M_46 hL_46 _ hF_46 => ⟨(fun h23_ M24_ _ hF28_ hs30_ hr_ hM_ => ?_), (fun h23_ h32_ M33_ _ hF37_ hs39_ hr_ hM_ => ?_)⟩), (fun hs12_ M75_ _ hF79_ r74_ hs81_ h77_ hr_ hM_ => ?_)⟩)
  all_goals try
    have a := RCH.ind (P := fun x : Int32 × Int32 × mM => ∀ i, x.2.2.1 (52, 0, 0) i = M14_.1 (52, 0, 0) i) (fun _ => rfl) (fun x z hp hst => by
      obtain ⟨x1, x2, x3⟩ := x
      obtain ⟨z1, z2, z3⟩ := z
      dsimp only at hp hst ⊢
      refine xE_ST_X12_check_46 hst (fun p_hv0_46 p_hv1_46 _ p_hF_46 p_h23_ p_h32_ p_M41_ _ p_hF45_ p_hs47_ p_r48_ p_hs52_ p_h51_ p_z53_ p_h54_ p_j57_ p_h58_ p_z55_ p_e56_ p_h59_ p_z60_ p_h61_ p_j64_ p_h65_ p_z62_ p_e63_ => ⟨(fun p_h66_ p_z67_ p_h68_ p_z69_ p_h70_ p_hq_v4_46y p_hq_v3_46y p_hM_ => ?_), (fun p_h66_ p_z71_ p_h72_ p_hq_v4_46y p_hq_v3_46y p_hM_ => ?_)⟩)
      all_goals
        intro i
        rw [p_hM_, p_hF45_ (52, 0, 0) i (by simp [S_c_X12_tenth])]; exact hp i) hL_46
    dsimp only at a
  · rw [hM_]; exact key (a1 := 0) (a2 := 0) hM5_ hs20_ hF18_ a hs30_ hF28_
  · rw [hM_]; exact key (a1 := 0) (a2 := 0) hM5_ hs20_ hF18_ a hs39_ hF37_
  · rw [hM_]
    refine ⟨by rw [hF79_ (50, 0, 0) 5 (by simp [S_c_X12_finding])]; exact zupE hM5_ rfl rfl, fun j hj hn => ?_⟩
    simp at hn
    rw [hF79_ (50, 0, 0) j (by simp [S_c_X12_finding])]; exact zupN hM5_ (fun q => hn q.2)
end
section
/-! the calls step by step: those that touch what both hold alike, or are compared -/
theorem kqx {T : List Nat} {M M' : mM} {i : Nat} {v : Int32} (he : M' = up M (50, 0, 0) i v) (hi : i ∈ T) : kq T M M' := kq_up he (Or.inr hi)
theorem RXz_e {S1 S2 : rf → Nat → Prop} {T : List Nat} {E : rf → Nat → Prop} (s1 : ∀ (c : rf) (k : Nat), S1 c k → ¬ (c.1 = 12 ∨ 50 ≤ c.1)) (s2 : ∀ (c : rf) (k : Nat), S2 c k → c.1 = 12 ∨ 50 ≤ c.1)
    (a10 : ∀ b, b < 2 → ¬ E (10, b, 0) 7 → ¬ S1 (10, b, 0) 7) (a3 : ∀ b, b < 2 → ¬ E (3, b, 0) 3 → ¬ S1 (3, b, 0) 3) (a5 : ∀ b w, b < 2 → w < 2 → ¬ E (5, b, w) 1 → ¬ S1 (5, b, w) 1) (a2 : ∀ b k, b < 2 → k ≤ 2 → ¬ E (2, b, 0) k → ¬ S1 (2, b, 0) k) (a26 : ∀ b k, b < 2 → k < 5 → ¬ E (26, b, 0) k → ¬ S1 (26, b, 0) k) (a27 : ∀ b k, b < 2 → k < 5 → ¬ E (27, b, 0) k → ¬ S1 (27, b, 0) k) (a11 : ¬ E (11, 0, 0) 8 → ¬ S1 (11, 0, 0) 8) (a6 : ∀ w k, w < 4 → k < 2 → ¬ E (6, 0, w) k → ¬ S1 (6, 0, w) k)
    (b51 : ∀ (c : rf) (k j : Nat), PRz c k (51, 0, 0) j → ¬ E c k → ¬ S2 (51, 0, 0) j) (b12 : ¬ E (11, 0, 0) 8 → ¬ S2 (12, 0, 0) 3) (b66 : ∀ w, w < 4 → ¬ E (6, 0, w) 0 → ¬ S2 (66, 0, 0) w) (b67 : ∀ w, w < 4 → ¬ E (6, 0, w) 1 → ¬ S2 (67, 0, 0) w) (b50 : ∀ (c : rf) (k j : Nat), PRz c k (50, 0, 0) j → ¬ E c k → ¬ j ∈ T) :
    ∀ c k d j, PRz c k d j → ¬ E c k → ¬ S1 c k ∧ ¬ S1 d j ∧ ¬ S2 c k ∧ ((d.1 = 50 ∧ d.2.1 = 0 ∧ d.2.2 = 0 ∧ j ≤ 19 ∧ ¬ j ∈ T) ∨ ¬ S2 d j) := fun c k d j p e => by
  have p0 := p
  rcases c with ⟨c1, c2, c3⟩
  rcases d with ⟨d1, d2, d3⟩
  unfold PRz at p
  dsimp only at p ⊢
  have hc : ¬ (c1 = 12 ∨ 50 ≤ c1) ∧ (d1 = 12 ∨ 50 ≤ d1) := by omega
  refine ⟨?_, fun q => s1 _ _ q hc.2, fun q => hc.1 (s2 _ _ q), ?_⟩
  · rcases p with ⟨h0, rfl, rfl, rfl, p⟩ | ⟨rfl, rfl, rfl, rfl, rfl, rfl, rfl, rfl⟩ | ⟨rfl, rfl, h0, rfl, rfl, rfl, p⟩
    · rcases p with ⟨rfl, rfl, rfl, rfl⟩ | ⟨rfl, rfl, rfl, rfl⟩ | ⟨rfl, hk, rfl, rfl⟩ | ⟨rfl, rfl, hk, rfl⟩ | ⟨rfl, rfl, hk, rfl⟩ | ⟨rfl, rfl, hk, rfl⟩
      · exact a10 _ h0 e
      · exact a3 _ h0 e
      · exact a5 _ _ h0 hk e
      · exact a2 _ _ h0 hk e
      · exact a26 _ _ h0 hk e
      · exact a27 _ _ h0 hk e
    · exact a11 e
    · exact a6 _ _ h0 (by omega) e
  · rcases p with ⟨h0, rfl, rfl, rfl, p⟩ | ⟨rfl, rfl, rfl, rfl, rfl, rfl, rfl, rfl⟩ | ⟨rfl, rfl, h0, rfl, rfl, rfl, p⟩
    · rcases (show c2 = 0 ∨ c2 = 1 by omega) with rfl | rfl
      · exact Or.inl ⟨rfl, rfl, rfl, by omega, b50 _ _ _ p0 e⟩
      · exact Or.inr (b51 _ _ _ p0 e)
    · exact Or.inr (b12 e)
    · rcases p with ⟨rfl, rfl⟩ | ⟨rfl, rfl⟩
      · exact Or.inr (b66 _ h0 e)
      · exact Or.inr (b67 _ h0 e)
theorem st_4 {v u t : Int32} {M M1 M2 : mM} {r1 r2 : Int32} (h : RXz M.1) (hD : InvD M) (hF1 : FR (S_c_X11_kind) M M1) (hs1 : SP_X11_kind v u t M r1 M1) (hF2 : FR (S_c_X12_kind) M1 M2) (hs2 : SP_X12_kind v u t M1 r2 M2) : RXz M2.1 ∧ r1 = r2 := by
  have a := nnC_kind hs1
  have b := nnD_kind hs2
  have g1 : ∀ j, M1.1 (50, 0, 0) j = M.1 (50, 0, 0) j := fun j => hF1 _ _ (by simp [S_c_X11_kind])
  have g2 : ∀ r k, r = 26 ∨ r = 27 → M2.1 (r, 0, 0) k = M1.1 (r, 0, 0) k := fun r k hr => hF2 _ _ (by simp [S_c_X12_kind]; omega)
  have hv : KINB v u t → v.toInt.toNat < 5 := fun q => by unfold KINB at q; omega
  have x26 : ∀ k, k < 5 → M.1 (26, 0, 0) k = M.1 (50, 0, 0) (9 + k) := fun k hk => RXzg h (Pz0_26 hk) (by simp)
  have x27 : ∀ k, k < 5 → M.1 (27, 0, 0) k = M.1 (50, 0, 0) (14 + k) := fun k hk => RXzg h (Pz0_27 hk) (by simp)
  have fin : (∀ k, k < 5 → M2.1 (26, 0, 0) k = M2.1 (50, 0, 0) (9 + k) ∧ M2.1 (27, 0, 0) k = M2.1 (50, 0, 0) (14 + k)) → kq [9, 10, 11, 12, 13, 14, 15, 16, 17, 18] M1 M2 → RXz M2.1 := fun hk hq => by
    refine RXz_t (fun c _ => (c.1 = 26 ∨ c.1 = 27) ∧ c.2.1 = 0) h hF1 hF2 hq (Or.inl ((hF2 (12, 0, 0) 3 (by simp [S_c_X12_kind])).trans (hF1 (12, 0, 0) 3 (by simp [S_c_X11_kind])))) (fun c k d j p e g => ?_)
      (RXz_e (fun c k q => by simp only [S_c_X11_kind, or_false] at q; omega)
          (fun c k q => by simp only [S_c_X12_kind, or_false] at q; omega)
          (fun x0_ x1_ e q => by first | (simp [S_c_X11_kind] at q; done) | (exfalso; revert e; simp; done) | (simp [S_c_X11_kind] at q; omega) | (simp [S_c_X11_kind] at q; simp at e; omega))
          (fun x0_ x1_ e q => by first | (simp [S_c_X11_kind] at q; done) | (exfalso; revert e; simp; done) | (simp [S_c_X11_kind] at q; omega) | (simp [S_c_X11_kind] at q; simp at e; omega))
          (fun x0_ x1_ x2_ x3_ e q => by first | (simp [S_c_X11_kind] at q; done) | (exfalso; revert e; simp; done) | (simp [S_c_X11_kind] at q; omega) | (simp [S_c_X11_kind] at q; simp at e; omega))
          (fun x0_ x1_ x2_ x3_ e q => by first | (simp [S_c_X11_kind] at q; done) | (exfalso; revert e; simp; done) | (simp [S_c_X11_kind] at q; omega) | (simp [S_c_X11_kind] at q; simp at e; omega))
          (fun x0_ x1_ x2_ x3_ e q => by first | (simp [S_c_X11_kind] at q; done) | (exfalso; revert e; simp; done) | (simp [S_c_X11_kind] at q; omega) | (simp [S_c_X11_kind] at q; simp at e; omega))
          (fun x0_ x1_ x2_ x3_ e q => by first | (simp [S_c_X11_kind] at q; done) | (exfalso; revert e; simp; done) | (simp [S_c_X11_kind] at q; omega) | (simp [S_c_X11_kind] at q; simp at e; omega))
          (fun e q => by first | (simp [S_c_X11_kind] at q; done) | (exfalso; revert e; simp; done) | (simp [S_c_X11_kind] at q; omega) | (simp [S_c_X11_kind] at q; simp at e; omega))
          (fun x0_ x1_ x2_ x3_ e q => by first | (simp [S_c_X11_kind] at q; done) | (exfalso; revert e; simp; done) | (simp [S_c_X11_kind] at q; omega) | (simp [S_c_X11_kind] at q; simp at e; omega))
          (fun c k j p e q => by first | (simp [S_c_X12_kind] at q; done) | (unfold PRz at p; dsimp only at p e; omega))
          (fun e q => by first | (simp [S_c_X12_kind] at q; done) | (exfalso; revert e; simp; done) | (simp [S_c_X12_kind] at q; omega) | (simp [S_c_X12_kind] at q; simp at e; omega))
          (fun x0_ x1_ e q => by first | (simp [S_c_X12_kind] at q; done) | (exfalso; revert e; simp; done) | (simp [S_c_X12_kind] at q; omega) | (simp [S_c_X12_kind] at q; simp at e; omega))
          (fun x0_ x1_ e q => by first | (simp [S_c_X12_kind] at q; done) | (exfalso; revert e; simp; done) | (simp [S_c_X12_kind] at q; omega) | (simp [S_c_X12_kind] at q; simp at e; omega))
          (fun c k j p e q => by first | (simp at q; done) | (unfold PRz at p; dsimp only at p e; simp at q; omega)))
    replace e : (c.1 = 26 ∨ c.1 = 27) ∧ c.2.1 = 0 := e
    unfold PRz at p
    rw [rfe (d := d) (a := 50) (b := 0) (c := 0) (by omega)]
    rcases e.1 with e1 | e1
    · rw [rfe (d := c) (a := 26) (b := 0) (c := 0) (by omega), show j = 9 + k by omega]; exact (hk k (by omega)).1
    · rw [rfe (d := c) (a := 27) (b := 0) (c := 0) (by omega), show j = 14 + k by omega]; exact (hk k (by omega)).2
  rcases a with a | a <;> rcases b with b | b
  · refine ⟨fin (fun k hk => ⟨?_, ?_⟩) (fun j _ _ => b.2.2 j), i32e (by omega)⟩
    · rw [g2 _ _ (Or.inl rfl), (a.2.2 k).1, b.2.2, g1]; exact x26 k hk
    · rw [g2 _ _ (Or.inr rfl), (a.2.2 k).2, b.2.2, g1]; exact x27 k hk
  · exact absurd b.1 a.1
  · exact absurd a.1 b.1
  · have hn := hv a.1
    rcases a.2 with a | a <;> rcases b.2 with b | b
    · refine ⟨fin (fun k hk => ⟨?_, ?_⟩) (kqx b.2.2 (by simp only [List.mem_cons, List.not_mem_nil, or_false]; omega)), ?_⟩
      · rw [g2 _ _ (Or.inl rfl)]
        by_cases e : k = v.toInt.toNat
        · rw [zupE a.2.2 rfl e, zupE b.2.2 rfl (by omega)]
        · rw [zupN a.2.2 (fun q => e q.2), zupN b.2.2 (fun q => e (by have := q.2; omega)), g1]; exact x26 k hk
      · rw [g2 _ _ (Or.inr rfl), zupR a.2.2 (by simp), zupN b.2.2 (fun q => by have := q.2; omega), g1]; exact x27 k hk
      · rw [a.2.1, b.2.1, g1]; exact x26 _ hn
    · exact absurd a.1 b.1
    · exact absurd b.1 a.1
    · refine ⟨fin (fun k hk => ⟨?_, ?_⟩) (kqx b.2.2 (by simp only [List.mem_cons, List.not_mem_nil, or_false]; omega)), ?_⟩
      · rw [g2 _ _ (Or.inl rfl), zupR a.2.2 (by simp), zupN b.2.2 (fun q => by have := q.2; omega), g1]; exact x26 k hk
      · rw [g2 _ _ (Or.inr rfl)]
        by_cases e : k = v.toInt.toNat
        · rw [zupE a.2.2 rfl e, zupE b.2.2 rfl (by omega)]
        · rw [zupN a.2.2 (fun q => e q.2), zupN b.2.2 (fun q => e (by have := q.2; omega)), g1]; exact x27 k hk
      · rw [a.2.1, b.2.1, g1]; exact x27 _ hn
theorem st_7 {v u : Int32} {M M1 M2 : mM} {r1 r2 : Int32} (h : RXz M.1) (hD : InvD M) (hF1 : FR (S_c_X11_air) M M1) (hs1 : SP_X11_air v u M r1 M1) (hF2 : FR (S_c_X12_air) M1 M2) (hs2 : SP_X12_air v u M1 r2 M2) : RXz M2.1 ∧ r1 = r2 := by
  have a := nnC_air hs1
  have b := nnD_air hs2
  have g1 : ∀ j, M1.1 (50, 0, 0) j = M.1 (50, 0, 0) j := fun j => hF1 _ _ (by simp [S_c_X11_air])
  have g2 : ∀ k, M2.1 (2, 0, 0) k = M1.1 (2, 0, 0) k := fun k => hF2 _ _ (by simp [S_c_X12_air])
  have hv : AIRB v u → v.toInt.toNat ≤ 2 := fun q => by unfold AIRB at q; omega
  have x2 : ∀ k, k ≤ 2 → M.1 (2, 0, 0) k = M.1 (50, 0, 0) (6 + k) := fun k hk => RXzg h (Pz0_2 hk) (by simp)
  have fin : (∀ k, k ≤ 2 → M2.1 (2, 0, 0) k = M2.1 (50, 0, 0) (6 + k)) → kq [6, 7, 8] M1 M2 → RXz M2.1 := fun hk hq => by
    refine RXz_t (fun c _ => c.1 = 2 ∧ c.2.1 = 0) h hF1 hF2 hq (Or.inl ((hF2 (12, 0, 0) 3 (by simp [S_c_X12_air])).trans (hF1 (12, 0, 0) 3 (by simp [S_c_X11_air])))) (fun c k d j p e g => ?_)
      (RXz_e (fun c k q => by simp only [S_c_X11_air, or_false] at q; omega)
          (fun c k q => by simp only [S_c_X12_air, or_false] at q; omega)
          (fun x0_ x1_ e q => by first | (simp [S_c_X11_air] at q; done) | (exfalso; revert e; simp; done) | (simp [S_c_X11_air] at q; omega) | (simp [S_c_X11_air] at q; simp at e; omega))
          (fun x0_ x1_ e q => by first | (simp [S_c_X11_air] at q; done) | (exfalso; revert e; simp; done) | (simp [S_c_X11_air] at q; omega) | (simp [S_c_X11_air] at q; simp at e; omega))
          (fun x0_ x1_ x2_ x3_ e q => by first | (simp [S_c_X11_air] at q; done) | (exfalso; revert e; simp; done) | (simp [S_c_X11_air] at q; omega) | (simp [S_c_X11_air] at q; simp at e; omega))
          (fun x0_ x1_ x2_ x3_ e q => by first | (simp [S_c_X11_air] at q; done) | (exfalso; revert e; simp; done) | (simp [S_c_X11_air] at q; omega) | (simp [S_c_X11_air] at q; simp at e; omega))
          (fun x0_ x1_ x2_ x3_ e q => by first | (simp [S_c_X11_air] at q; done) | (exfalso; revert e; simp; done) | (simp [S_c_X11_air] at q; omega) | (simp [S_c_X11_air] at q; simp at e; omega))
          (fun x0_ x1_ x2_ x3_ e q => by first | (simp [S_c_X11_air] at q; done) | (exfalso; revert e; simp; done) | (simp [S_c_X11_air] at q; omega) | (simp [S_c_X11_air] at q; simp at e; omega))
          (fun e q => by first | (simp [S_c_X11_air] at q; done) | (exfalso; revert e; simp; done) | (simp [S_c_X11_air] at q; omega) | (simp [S_c_X11_air] at q; simp at e; omega))
          (fun x0_ x1_ x2_ x3_ e q => by first | (simp [S_c_X11_air] at q; done) | (exfalso; revert e; simp; done) | (simp [S_c_X11_air] at q; omega) | (simp [S_c_X11_air] at q; simp at e; omega))
          (fun c k j p e q => by first | (simp [S_c_X12_air] at q; done) | (unfold PRz at p; dsimp only at p e; omega))
          (fun e q => by first | (simp [S_c_X12_air] at q; done) | (exfalso; revert e; simp; done) | (simp [S_c_X12_air] at q; omega) | (simp [S_c_X12_air] at q; simp at e; omega))
          (fun x0_ x1_ e q => by first | (simp [S_c_X12_air] at q; done) | (exfalso; revert e; simp; done) | (simp [S_c_X12_air] at q; omega) | (simp [S_c_X12_air] at q; simp at e; omega))
          (fun x0_ x1_ e q => by first | (simp [S_c_X12_air] at q; done) | (exfalso; revert e; simp; done) | (simp [S_c_X12_air] at q; omega) | (simp [S_c_X12_air] at q; simp at e; omega))
          (fun c k j p e q => by first | (simp at q; done) | (unfold PRz at p; dsimp only at p e; simp at q; omega)))
    replace e : c.1 = 2 ∧ c.2.1 = 0 := e
    unfold PRz at p
    rw [rfe (d := d) (a := 50) (b := 0) (c := 0) (by omega), rfe (d := c) (a := 2) (b := 0) (c := 0) (by omega), show j = 6 + k by omega]; exact hk k (by omega)
  rcases a with a | a <;> rcases b with b | b
  · refine ⟨fin (fun k hk => ?_) (fun j _ _ => b.2.2 j), i32e (by omega)⟩
    rw [g2, a.2.2, b.2.2, g1]; exact x2 k hk
  · exact absurd b.1 a.1
  · exact absurd a.1 b.1
  · have hn := hv a.1
    refine ⟨fin (fun k hk => ?_) (kqx b.2.2 (by simp only [List.mem_cons, List.not_mem_nil, or_false]; omega)), ?_⟩
    · rw [g2]
      by_cases e : k = v.toInt.toNat
      · rw [zupE a.2.2 rfl e, zupE b.2.2 rfl (by omega)]
      · rw [zupN a.2.2 (fun q => e q.2), zupN b.2.2 (fun q => e (by have := q.2; omega)), g1]; exact x2 k hk
    · rw [a.2.1, b.2.1, g1]; exact x2 _ hn
theorem bnd5 {M : mM} (h : RXz M.1) (hD : InvD M) : (0 ≤ (M.1 (5, 0, 0) 1).toInt ∧ (M.1 (5, 0, 0) 1).toInt ≤ 48) ∧ (0 ≤ (M.1 (5, 0, 1) 1).toInt ∧ (M.1 (5, 0, 1) 1).toInt ≤ 24) ∧ (0 ≤ (M.1 (3, 0, 0) 3).toInt ∧ (M.1 (3, 0, 0) 3).toInt ≤ 7) := by
  have e1 := RXzi h (c := (5, 0, 0)) (k := 1) (d := (50, 0, 0)) (j := 4) (Pz0_5 (w := 0) (by decide))
  have e2 := RXzi h (c := (5, 0, 1)) (k := 1) (d := (50, 0, 0)) (j := 5) (Pz0_5 (w := 1) (by decide))
  have e3 := RXzi h (c := (3, 0, 0)) (k := 3) (d := (50, 0, 0)) (j := 3) Pz0_3
  have p4 := (hD.2.1.1 4).2.2.2.1 rfl
  have p5 := (hD.2.1.1 5).2.2.2.2.1 rfl
  have p3 := (hD.2.1.1 3).2.2.1 rfl
  omega
theorem bnd5k {M : mM} (h : RXz M.1) (hD : InvD M) (hne : ¬ (M.1 (12, 0, 0) 3).toInt = 0) : (M.1 (5, 1, 0) 1).toInt ≤ 48 ∧ (M.1 (5, 1, 1) 1).toInt ≤ 24 := by
  have e1 := eT (h (5, 1, 0) 1 (51, 0, 0) 4 (Pz1_5 (w := 0) (by decide)) (fun _ => hne))
  have e2 := eT (h (5, 1, 1) 1 (51, 0, 0) 5 (Pz1_5 (w := 1) (by decide)) (fun _ => hne))
  have p4 := (hD.2.2.1.1 4).2.2.2.1 rfl
  have p5 := (hD.2.2.1.1 5).2.2.2.2.1 rfl
  omega
theorem st_14 {v v' : Int64} {u : Int32} {M M1 M2 : mM} {r1 r2 : Int32} (h : RXz M.1) (hD : InvD M) (hF1 : FR (S_c_X11_feed) M M1) (hs1 : SP_X11_feed v u M r1 M1) (hF2 : FR (S_c_X12_feed) M1 M2) (hs2 : SP_X12_feed v' u M1 r2 M2) : RXz M2.1 ∧ r1 = r2 := by
  have bb := bnd5 h hD
  have a := nnC_feed hs1 bb.1
  have b := nnD_feed hs2
  rw [hF1 (50, 0, 0) 4 (by simp [S_c_X11_feed])] at b
  have e1 := RXzi h (c := (5, 0, 0)) (k := 1) (d := (50, 0, 0)) (j := 4) (Pz0_5 (w := 0) (by decide))
  unfold FEDN at a b
  refine ⟨RXz_t (fun c _ => c.1 = 5 ∧ c.2.1 = 0 ∧ c.2.2 = 0) h hF1 hF2 (KSP_X12_feed hs2) (Or.inl ((hF2 (12, 0, 0) 3 (by simp [S_c_X12_feed])).trans (hF1 (12, 0, 0) 3 (by simp [S_c_X11_feed])))) (fun c k d j p e g => ?_)
      (RXz_e (fun c k q => by simp only [S_c_X11_feed, or_false] at q; omega)
          (fun c k q => by simp only [S_c_X12_feed, or_false] at q; omega)
          (fun x0_ x1_ e q => by first | (simp [S_c_X11_feed] at q; done) | (exfalso; revert e; simp; done) | (simp [S_c_X11_feed] at q; omega) | (simp [S_c_X11_feed] at q; simp at e; omega))
          (fun x0_ x1_ e q => by first | (simp [S_c_X11_feed] at q; done) | (exfalso; revert e; simp; done) | (simp [S_c_X11_feed] at q; omega) | (simp [S_c_X11_feed] at q; simp at e; omega))
          (fun x0_ x1_ x2_ x3_ e q => by first | (simp [S_c_X11_feed] at q; done) | (exfalso; revert e; simp; done) | (simp [S_c_X11_feed] at q; omega) | (simp [S_c_X11_feed] at q; simp at e; omega))
          (fun x0_ x1_ x2_ x3_ e q => by first | (simp [S_c_X11_feed] at q; done) | (exfalso; revert e; simp; done) | (simp [S_c_X11_feed] at q; omega) | (simp [S_c_X11_feed] at q; simp at e; omega))
          (fun x0_ x1_ x2_ x3_ e q => by first | (simp [S_c_X11_feed] at q; done) | (exfalso; revert e; simp; done) | (simp [S_c_X11_feed] at q; omega) | (simp [S_c_X11_feed] at q; simp at e; omega))
          (fun x0_ x1_ x2_ x3_ e q => by first | (simp [S_c_X11_feed] at q; done) | (exfalso; revert e; simp; done) | (simp [S_c_X11_feed] at q; omega) | (simp [S_c_X11_feed] at q; simp at e; omega))
          (fun e q => by first | (simp [S_c_X11_feed] at q; done) | (exfalso; revert e; simp; done) | (simp [S_c_X11_feed] at q; omega) | (simp [S_c_X11_feed] at q; simp at e; omega))
          (fun x0_ x1_ x2_ x3_ e q => by first | (simp [S_c_X11_feed] at q; done) | (exfalso; revert e; simp; done) | (simp [S_c_X11_feed] at q; omega) | (simp [S_c_X11_feed] at q; simp at e; omega))
          (fun c k j p e q => by first | (simp [S_c_X12_feed] at q; done) | (unfold PRz at p; dsimp only at p e; omega))
          (fun e q => by first | (simp [S_c_X12_feed] at q; done) | (exfalso; revert e; simp; done) | (simp [S_c_X12_feed] at q; omega) | (simp [S_c_X12_feed] at q; simp at e; omega))
          (fun x0_ x1_ e q => by first | (simp [S_c_X12_feed] at q; done) | (exfalso; revert e; simp; done) | (simp [S_c_X12_feed] at q; omega) | (simp [S_c_X12_feed] at q; simp at e; omega))
          (fun x0_ x1_ e q => by first | (simp [S_c_X12_feed] at q; done) | (exfalso; revert e; simp; done) | (simp [S_c_X12_feed] at q; omega) | (simp [S_c_X12_feed] at q; simp at e; omega))
          (fun c k j p e q => by first | (simp at q; done) | (unfold PRz at p; dsimp only at p e; simp at q; omega)))
    , i32e (by omega)⟩
  replace e : c.1 = 5 ∧ c.2.1 = 0 ∧ c.2.2 = 0 := e
  unfold PRz at p
  rw [rfe (d := d) (a := 50) (b := 0) (c := 0) (by omega), rfe (d := c) (a := 5) (b := 0) (c := 0) (by omega), show j = 4 by omega, show k = 1 by omega, hF2 (5, 0, 0) 1 (by simp [S_c_X12_feed])]
  exact i32e (by omega)
theorem st_15 {v : Int32} {M M1 M2 : mM} {r1 r2 : Int32} (h : RXz M.1) (hD : InvD M) (hF1 : FR (S_c_X11_text) M M1) (hs1 : SP_X11_text v M r1 M1) (hF2 : FR (S_c_X12_text_) M1 M2) (hs2 : SP_X12_text_ v M1 r2 M2) : RXz M2.1 ∧ True := by
  have a := nnC_text hs1
  have b := nnD_text hs2
  rw [hF1 (50, 0, 0) 4 (by simp [S_c_X11_text])] at b
  have e1 := RXzi h (c := (5, 0, 0)) (k := 1) (d := (50, 0, 0)) (j := 4) (Pz0_5 (w := 0) (by decide))
  unfold TEXN at a b
  refine ⟨RXz_t (fun c _ => c.1 = 5 ∧ c.2.1 = 0 ∧ c.2.2 = 0) h hF1 hF2 (KSP_X12_text_ hs2) (Or.inl ((hF2 (12, 0, 0) 3 (by simp [S_c_X12_text_])).trans (hF1 (12, 0, 0) 3 (by simp [S_c_X11_text])))) (fun c k d j p e g => ?_)
      (RXz_e (fun c k q => by simp only [S_c_X11_text, or_false] at q; omega)
          (fun c k q => by simp only [S_c_X12_text_, or_false] at q; omega)
          (fun x0_ x1_ e q => by first | (simp [S_c_X11_text] at q; done) | (exfalso; revert e; simp; done) | (simp [S_c_X11_text] at q; omega) | (simp [S_c_X11_text] at q; simp at e; omega))
          (fun x0_ x1_ e q => by first | (simp [S_c_X11_text] at q; done) | (exfalso; revert e; simp; done) | (simp [S_c_X11_text] at q; omega) | (simp [S_c_X11_text] at q; simp at e; omega))
          (fun x0_ x1_ x2_ x3_ e q => by first | (simp [S_c_X11_text] at q; done) | (exfalso; revert e; simp; done) | (simp [S_c_X11_text] at q; omega) | (simp [S_c_X11_text] at q; simp at e; omega))
          (fun x0_ x1_ x2_ x3_ e q => by first | (simp [S_c_X11_text] at q; done) | (exfalso; revert e; simp; done) | (simp [S_c_X11_text] at q; omega) | (simp [S_c_X11_text] at q; simp at e; omega))
          (fun x0_ x1_ x2_ x3_ e q => by first | (simp [S_c_X11_text] at q; done) | (exfalso; revert e; simp; done) | (simp [S_c_X11_text] at q; omega) | (simp [S_c_X11_text] at q; simp at e; omega))
          (fun x0_ x1_ x2_ x3_ e q => by first | (simp [S_c_X11_text] at q; done) | (exfalso; revert e; simp; done) | (simp [S_c_X11_text] at q; omega) | (simp [S_c_X11_text] at q; simp at e; omega))
          (fun e q => by first | (simp [S_c_X11_text] at q; done) | (exfalso; revert e; simp; done) | (simp [S_c_X11_text] at q; omega) | (simp [S_c_X11_text] at q; simp at e; omega))
          (fun x0_ x1_ x2_ x3_ e q => by first | (simp [S_c_X11_text] at q; done) | (exfalso; revert e; simp; done) | (simp [S_c_X11_text] at q; omega) | (simp [S_c_X11_text] at q; simp at e; omega))
          (fun c k j p e q => by first | (simp [S_c_X12_text_] at q; done) | (unfold PRz at p; dsimp only at p e; omega))
          (fun e q => by first | (simp [S_c_X12_text_] at q; done) | (exfalso; revert e; simp; done) | (simp [S_c_X12_text_] at q; omega) | (simp [S_c_X12_text_] at q; simp at e; omega))
          (fun x0_ x1_ e q => by first | (simp [S_c_X12_text_] at q; done) | (exfalso; revert e; simp; done) | (simp [S_c_X12_text_] at q; omega) | (simp [S_c_X12_text_] at q; simp at e; omega))
          (fun x0_ x1_ e q => by first | (simp [S_c_X12_text_] at q; done) | (exfalso; revert e; simp; done) | (simp [S_c_X12_text_] at q; omega) | (simp [S_c_X12_text_] at q; simp at e; omega))
          (fun c k j p e q => by first | (simp at q; done) | (unfold PRz at p; dsimp only at p e; simp at q; omega)))
    , trivial⟩
  replace e : c.1 = 5 ∧ c.2.1 = 0 ∧ c.2.2 = 0 := e
  unfold PRz at p
  rw [rfe (d := d) (a := 50) (b := 0) (c := 0) (by omega), rfe (d := c) (a := 5) (b := 0) (c := 0) (by omega), show j = 4 by omega, show k = 1 by omega, hF2 (5, 0, 0) 1 (by simp [S_c_X12_text_])]
  exact i32e (by omega)
theorem st_24 {v : Int32} {M M1 M2 : mM} {r1 r2 : Int32} (h : RXz M.1) (hD : InvD M) (hF1 : FR (S_c_X11_tenths) M M1) (hs1 : SP_X11_tenths v M r1 M1) (hF2 : FR (S_c_X12_tenths) M1 M2) (hs2 : SP_X12_tenths v M1 r2 M2) : RXz M2.1 ∧ r1 = r2 := by
  have a := nnC_tenths hs1
  have b := nnD_tenths hs2
  rw [hF1 (50, 0, 0) 0 (by simp [S_c_X11_tenths]), ← RXzg (c := (10, 0, 0)) (k := 7) (d := (50, 0, 0)) (j := 0) h Pz0_10 (by simp)] at b
  have both : r1 = r2 ∧ M1.1 (10, 0, 0) 7 = M2.1 (50, 0, 0) 0 := by
    unfold TENN at a b
    rcases a with a | ⟨a0, a | a⟩ <;> rcases b with b | ⟨b0, b | b⟩ <;> first | exact absurd b0 a.1 | exact absurd a0 b.1 | (exfalso; omega) | exact ⟨i32e (by omega), a.2.2.trans b.2.2.symm⟩ | exact ⟨a.2.1.trans b.2.1.symm, a.2.2.trans b.2.2.symm⟩
  refine ⟨RXz_t (fun c _ => c.1 = 10 ∧ c.2.1 = 0) h hF1 hF2 (KSP_X12_tenths hs2) (Or.inl ((hF2 (12, 0, 0) 3 (by simp [S_c_X12_tenths])).trans (hF1 (12, 0, 0) 3 (by simp [S_c_X11_tenths])))) (fun c k d j p e g => ?_)
      (RXz_e (fun c k q => by simp only [S_c_X11_tenths, or_false] at q; omega)
          (fun c k q => by simp only [S_c_X12_tenths, or_false] at q; omega)
          (fun x0_ x1_ e q => by first | (simp [S_c_X11_tenths] at q; done) | (exfalso; revert e; simp; done) | (simp [S_c_X11_tenths] at q; omega) | (simp [S_c_X11_tenths] at q; simp at e; omega))
          (fun x0_ x1_ e q => by first | (simp [S_c_X11_tenths] at q; done) | (exfalso; revert e; simp; done) | (simp [S_c_X11_tenths] at q; omega) | (simp [S_c_X11_tenths] at q; simp at e; omega))
          (fun x0_ x1_ x2_ x3_ e q => by first | (simp [S_c_X11_tenths] at q; done) | (exfalso; revert e; simp; done) | (simp [S_c_X11_tenths] at q; omega) | (simp [S_c_X11_tenths] at q; simp at e; omega))
          (fun x0_ x1_ x2_ x3_ e q => by first | (simp [S_c_X11_tenths] at q; done) | (exfalso; revert e; simp; done) | (simp [S_c_X11_tenths] at q; omega) | (simp [S_c_X11_tenths] at q; simp at e; omega))
          (fun x0_ x1_ x2_ x3_ e q => by first | (simp [S_c_X11_tenths] at q; done) | (exfalso; revert e; simp; done) | (simp [S_c_X11_tenths] at q; omega) | (simp [S_c_X11_tenths] at q; simp at e; omega))
          (fun x0_ x1_ x2_ x3_ e q => by first | (simp [S_c_X11_tenths] at q; done) | (exfalso; revert e; simp; done) | (simp [S_c_X11_tenths] at q; omega) | (simp [S_c_X11_tenths] at q; simp at e; omega))
          (fun e q => by first | (simp [S_c_X11_tenths] at q; done) | (exfalso; revert e; simp; done) | (simp [S_c_X11_tenths] at q; omega) | (simp [S_c_X11_tenths] at q; simp at e; omega))
          (fun x0_ x1_ x2_ x3_ e q => by first | (simp [S_c_X11_tenths] at q; done) | (exfalso; revert e; simp; done) | (simp [S_c_X11_tenths] at q; omega) | (simp [S_c_X11_tenths] at q; simp at e; omega))
          (fun c k j p e q => by first | (simp [S_c_X12_tenths] at q; done) | (unfold PRz at p; dsimp only at p e; omega))
          (fun e q => by first | (simp [S_c_X12_tenths] at q; done) | (exfalso; revert e; simp; done) | (simp [S_c_X12_tenths] at q; omega) | (simp [S_c_X12_tenths] at q; simp at e; omega))
          (fun x0_ x1_ e q => by first | (simp [S_c_X12_tenths] at q; done) | (exfalso; revert e; simp; done) | (simp [S_c_X12_tenths] at q; omega) | (simp [S_c_X12_tenths] at q; simp at e; omega))
          (fun x0_ x1_ e q => by first | (simp [S_c_X12_tenths] at q; done) | (exfalso; revert e; simp; done) | (simp [S_c_X12_tenths] at q; omega) | (simp [S_c_X12_tenths] at q; simp at e; omega))
          (fun c k j p e q => by first | (simp at q; done) | (unfold PRz at p; dsimp only at p e; simp at q; omega)))
    , both.1⟩
  replace e : c.1 = 10 ∧ c.2.1 = 0 := e
  unfold PRz at p
  rw [rfe (d := d) (a := 50) (b := 0) (c := 0) (by omega), rfe (d := c) (a := 10) (b := 0) (c := 0) (by omega), show j = 0 by omega, show k = 7 by omega, hF2 (10, 0, 0) 7 (by simp [S_c_X12_tenths])]
  exact both.2
theorem st_27 {v u t : Int32} {M M1 M2 : mM} {r1 r2 : Int32} (h : RXz M.1) (hD : InvD M) (hF1 : FR (S_c_X11_lesson) M M1) (hs1 : SP_X11_lesson v u t M r1 M1) (hF2 : FR (S_c_X12_lesson) M1 M2) (hs2 : SP_X12_lesson v u t M1 r2 M2) : RXz M2.1 ∧ r1 = r2 := by
  have bb := bnd5 h hD
  have a := nnC_lesson hs1 bb.2.2
  have b := nnD_lesson hs2
  rw [hF1 (50, 0, 0) 3 (by simp [S_c_X11_lesson])] at b
  have e1 := RXzi h (c := (3, 0, 0)) (k := 3) (d := (50, 0, 0)) (j := 3) Pz0_3
  unfold LESN at a b
  refine ⟨RXz_t (fun c _ => c.1 = 3 ∧ c.2.1 = 0) h hF1 hF2 (KSP_X12_lesson hs2) (Or.inl ((hF2 (12, 0, 0) 3 (by simp [S_c_X12_lesson])).trans (hF1 (12, 0, 0) 3 (by simp [S_c_X11_lesson])))) (fun c k d j p e g => ?_)
      (RXz_e (fun c k q => by simp only [S_c_X11_lesson, or_false] at q; omega)
          (fun c k q => by simp only [S_c_X12_lesson, or_false] at q; omega)
          (fun x0_ x1_ e q => by first | (simp [S_c_X11_lesson] at q; done) | (exfalso; revert e; simp; done) | (simp [S_c_X11_lesson] at q; omega) | (simp [S_c_X11_lesson] at q; simp at e; omega))
          (fun x0_ x1_ e q => by first | (simp [S_c_X11_lesson] at q; done) | (exfalso; revert e; simp; done) | (simp [S_c_X11_lesson] at q; omega) | (simp [S_c_X11_lesson] at q; simp at e; omega))
          (fun x0_ x1_ x2_ x3_ e q => by first | (simp [S_c_X11_lesson] at q; done) | (exfalso; revert e; simp; done) | (simp [S_c_X11_lesson] at q; omega) | (simp [S_c_X11_lesson] at q; simp at e; omega))
          (fun x0_ x1_ x2_ x3_ e q => by first | (simp [S_c_X11_lesson] at q; done) | (exfalso; revert e; simp; done) | (simp [S_c_X11_lesson] at q; omega) | (simp [S_c_X11_lesson] at q; simp at e; omega))
          (fun x0_ x1_ x2_ x3_ e q => by first | (simp [S_c_X11_lesson] at q; done) | (exfalso; revert e; simp; done) | (simp [S_c_X11_lesson] at q; omega) | (simp [S_c_X11_lesson] at q; simp at e; omega))
          (fun x0_ x1_ x2_ x3_ e q => by first | (simp [S_c_X11_lesson] at q; done) | (exfalso; revert e; simp; done) | (simp [S_c_X11_lesson] at q; omega) | (simp [S_c_X11_lesson] at q; simp at e; omega))
          (fun e q => by first | (simp [S_c_X11_lesson] at q; done) | (exfalso; revert e; simp; done) | (simp [S_c_X11_lesson] at q; omega) | (simp [S_c_X11_lesson] at q; simp at e; omega))
          (fun x0_ x1_ x2_ x3_ e q => by first | (simp [S_c_X11_lesson] at q; done) | (exfalso; revert e; simp; done) | (simp [S_c_X11_lesson] at q; omega) | (simp [S_c_X11_lesson] at q; simp at e; omega))
          (fun c k j p e q => by first | (simp [S_c_X12_lesson] at q; done) | (unfold PRz at p; dsimp only at p e; omega))
          (fun e q => by first | (simp [S_c_X12_lesson] at q; done) | (exfalso; revert e; simp; done) | (simp [S_c_X12_lesson] at q; omega) | (simp [S_c_X12_lesson] at q; simp at e; omega))
          (fun x0_ x1_ e q => by first | (simp [S_c_X12_lesson] at q; done) | (exfalso; revert e; simp; done) | (simp [S_c_X12_lesson] at q; omega) | (simp [S_c_X12_lesson] at q; simp at e; omega))
          (fun x0_ x1_ e q => by first | (simp [S_c_X12_lesson] at q; done) | (exfalso; revert e; simp; done) | (simp [S_c_X12_lesson] at q; omega) | (simp [S_c_X12_lesson] at q; simp at e; omega))
          (fun c k j p e q => by first | (simp at q; done) | (unfold PRz at p; dsimp only at p e; simp at q; omega)))
    , i32e (by omega)⟩
  replace e : c.1 = 3 ∧ c.2.1 = 0 := e
  unfold PRz at p
  rw [rfe (d := d) (a := 50) (b := 0) (c := 0) (by omega), rfe (d := c) (a := 3) (b := 0) (c := 0) (by omega), show j = 3 by omega, show k = 3 by omega, hF2 (3, 0, 0) 3 (by simp [S_c_X12_lesson])]
  exact i32e (by omega)
theorem st_32 {v u t : Int32} {M M1 M2 : mM} {r1 r2 : Int32} (h : RXz M.1) (hD : InvD M) (hF1 : FR (S_c_X11_sheet) M M1) (hs1 : SP_X11_sheet v u t M r1 M1) (hF2 : FR (S_c_X12_sheet) M1 M2) (hs2 : SP_X12_sheet v u t M1 r2 M2) : RXz M2.1 ∧ True := by
  have a := nnC_sheet hs1
  have b := nnD_sheet hs2
  have g1 : ∀ w, M1.1 (66, 0, 0) w = M.1 (66, 0, 0) w ∧ M1.1 (67, 0, 0) w = M.1 (67, 0, 0) w := fun w => ⟨hF1 _ _ (by simp [S_c_X11_sheet]), hF1 _ _ (by simp [S_c_X11_sheet])⟩
  have g2 : ∀ w k, M2.1 (6, 0, w) k = M1.1 (6, 0, w) k := fun w k => hF2 _ _ (by simp [S_c_X12_sheet])
  have x6 : ∀ w, w < 4 → M.1 (6, 0, w) 0 = M.1 (66, 0, 0) w ∧ M.1 (6, 0, w) 1 = M.1 (67, 0, 0) w := fun w hw => ⟨RXzg h (Pz_6a hw) (by simp), RXzg h (Pz_6b hw) (by simp)⟩
  have key : ∀ w, w < 4 → M2.1 (6, 0, w) 0 = M2.1 (66, 0, 0) w ∧ M2.1 (6, 0, w) 1 = M2.1 (67, 0, 0) w := fun w hw => by
    rw [g2, g2]
    rcases a with a | a <;> rcases b with b | b
    · rw [a.2, a.2, (b.2 w).1, (b.2 w).2, (g1 w).1, (g1 w).2]; exact x6 w hw
    · exact absurd b.1 a.1
    · exact absurd a.1 b.1
    · by_cases e : w = v.toInt.toNat
      · rw [e, a.2.1, a.2.2.1, b.2.1, b.2.2.1]; exact ⟨rfl, rfl⟩
      · rw [a.2.2.2 w 0 e, a.2.2.2 w 1 e, (b.2.2.2 w e).1, (b.2.2.2 w e).2, (g1 w).1, (g1 w).2]; exact x6 w hw
  refine ⟨RXz_t (T := []) (fun c _ => c.1 = 6) h hF1 hF2 (kq_FR hF2 (by intro j q; simp [S_c_X12_sheet] at q)) (Or.inl ((hF2 (12, 0, 0) 3 (by simp [S_c_X12_sheet])).trans (hF1 (12, 0, 0) 3 (by simp [S_c_X11_sheet])))) (fun c k d j p e g => ?_)
      (RXz_e (fun c k q => by simp only [S_c_X11_sheet, or_false] at q; omega)
          (fun c k q => by simp only [S_c_X12_sheet, or_false] at q; omega)
          (fun x0_ x1_ e q => by first | (simp [S_c_X11_sheet] at q; done) | (exfalso; revert e; simp; done) | (simp [S_c_X11_sheet] at q; omega) | (simp [S_c_X11_sheet] at q; simp at e; omega))
          (fun x0_ x1_ e q => by first | (simp [S_c_X11_sheet] at q; done) | (exfalso; revert e; simp; done) | (simp [S_c_X11_sheet] at q; omega) | (simp [S_c_X11_sheet] at q; simp at e; omega))
          (fun x0_ x1_ x2_ x3_ e q => by first | (simp [S_c_X11_sheet] at q; done) | (exfalso; revert e; simp; done) | (simp [S_c_X11_sheet] at q; omega) | (simp [S_c_X11_sheet] at q; simp at e; omega))
          (fun x0_ x1_ x2_ x3_ e q => by first | (simp [S_c_X11_sheet] at q; done) | (exfalso; revert e; simp; done) | (simp [S_c_X11_sheet] at q; omega) | (simp [S_c_X11_sheet] at q; simp at e; omega))
          (fun x0_ x1_ x2_ x3_ e q => by first | (simp [S_c_X11_sheet] at q; done) | (exfalso; revert e; simp; done) | (simp [S_c_X11_sheet] at q; omega) | (simp [S_c_X11_sheet] at q; simp at e; omega))
          (fun x0_ x1_ x2_ x3_ e q => by first | (simp [S_c_X11_sheet] at q; done) | (exfalso; revert e; simp; done) | (simp [S_c_X11_sheet] at q; omega) | (simp [S_c_X11_sheet] at q; simp at e; omega))
          (fun e q => by first | (simp [S_c_X11_sheet] at q; done) | (exfalso; revert e; simp; done) | (simp [S_c_X11_sheet] at q; omega) | (simp [S_c_X11_sheet] at q; simp at e; omega))
          (fun x0_ x1_ x2_ x3_ e q => by first | (simp [S_c_X11_sheet] at q; done) | (exfalso; revert e; simp; done) | (simp [S_c_X11_sheet] at q; omega) | (simp [S_c_X11_sheet] at q; simp at e; omega))
          (fun c k j p e q => by first | (simp [S_c_X12_sheet] at q; done) | (unfold PRz at p; dsimp only at p e; omega))
          (fun e q => by first | (simp [S_c_X12_sheet] at q; done) | (exfalso; revert e; simp; done) | (simp [S_c_X12_sheet] at q; omega) | (simp [S_c_X12_sheet] at q; simp at e; omega))
          (fun x0_ x1_ e q => by first | (simp [S_c_X12_sheet] at q; done) | (exfalso; revert e; simp; done) | (simp [S_c_X12_sheet] at q; omega) | (simp [S_c_X12_sheet] at q; simp at e; omega))
          (fun x0_ x1_ e q => by first | (simp [S_c_X12_sheet] at q; done) | (exfalso; revert e; simp; done) | (simp [S_c_X12_sheet] at q; omega) | (simp [S_c_X12_sheet] at q; simp at e; omega))
          (fun c k j p e q => by first | (simp at q; done) | (unfold PRz at p; dsimp only at p e; simp at q; omega)))
    , trivial⟩
  replace e : c.1 = 6 := e
  unfold PRz at p
  rw [rfe (d := c) (a := 6) (b := 0) (c := c.2.2) (by omega)]
  by_cases hk : k = 0
  · rw [rfe (d := d) (a := 66) (b := 0) (c := 0) (by omega), hk, show j = c.2.2 by omega]; exact (key _ (by omega)).1
  · rw [rfe (d := d) (a := 67) (b := 0) (c := 0) (by omega), show k = 1 by omega, show j = c.2.2 by omega]; exact (key _ (by omega)).2
theorem st_33 {v u t : Int32} {M M1 M2 : mM} {r1 r2 : Int32} (h : RXz M.1) (hD : InvD M) (hF1 : FR (S_c_X11_put) M M1) (hs1 : SP_X11_put v u t M r1 M1) (hF2 : FR (S_c_X12_put) M1 M2) (hs2 : SP_X12_put v u t M1 r2 M2) : RXz M2.1 ∧ r1 = r2 := by
  refine ⟨RXz_t (T := []) (fun _ _ => False) h hF1 hF2 (kq_FR hF2 (by intro j q; simp [S_c_X12_put] at q)) (Or.inl ((hF2 (12, 0, 0) 3 (by simp [S_c_X12_put])).trans (hF1 (12, 0, 0) 3 (by simp [S_c_X11_put])))) (fun _ _ _ _ _ e _ => e.elim)
      (RXz_e (fun c k q => by simp only [S_c_X11_put, or_false] at q; omega)
          (fun c k q => by simp only [S_c_X12_put, or_false] at q; omega)
          (fun x0_ x1_ e q => by first | (simp [S_c_X11_put] at q; done) | (exfalso; revert e; simp; done) | (simp [S_c_X11_put] at q; omega) | (simp [S_c_X11_put] at q; simp at e; omega))
          (fun x0_ x1_ e q => by first | (simp [S_c_X11_put] at q; done) | (exfalso; revert e; simp; done) | (simp [S_c_X11_put] at q; omega) | (simp [S_c_X11_put] at q; simp at e; omega))
          (fun x0_ x1_ x2_ x3_ e q => by first | (simp [S_c_X11_put] at q; done) | (exfalso; revert e; simp; done) | (simp [S_c_X11_put] at q; omega) | (simp [S_c_X11_put] at q; simp at e; omega))
          (fun x0_ x1_ x2_ x3_ e q => by first | (simp [S_c_X11_put] at q; done) | (exfalso; revert e; simp; done) | (simp [S_c_X11_put] at q; omega) | (simp [S_c_X11_put] at q; simp at e; omega))
          (fun x0_ x1_ x2_ x3_ e q => by first | (simp [S_c_X11_put] at q; done) | (exfalso; revert e; simp; done) | (simp [S_c_X11_put] at q; omega) | (simp [S_c_X11_put] at q; simp at e; omega))
          (fun x0_ x1_ x2_ x3_ e q => by first | (simp [S_c_X11_put] at q; done) | (exfalso; revert e; simp; done) | (simp [S_c_X11_put] at q; omega) | (simp [S_c_X11_put] at q; simp at e; omega))
          (fun e q => by first | (simp [S_c_X11_put] at q; done) | (exfalso; revert e; simp; done) | (simp [S_c_X11_put] at q; omega) | (simp [S_c_X11_put] at q; simp at e; omega))
          (fun x0_ x1_ x2_ x3_ e q => by first | (simp [S_c_X11_put] at q; done) | (exfalso; revert e; simp; done) | (simp [S_c_X11_put] at q; omega) | (simp [S_c_X11_put] at q; simp at e; omega))
          (fun c k j p e q => by first | (simp [S_c_X12_put] at q; done) | (unfold PRz at p; dsimp only at p e; omega))
          (fun e q => by first | (simp [S_c_X12_put] at q; done) | (exfalso; revert e; simp; done) | (simp [S_c_X12_put] at q; omega) | (simp [S_c_X12_put] at q; simp at e; omega))
          (fun x0_ x1_ e q => by first | (simp [S_c_X12_put] at q; done) | (exfalso; revert e; simp; done) | (simp [S_c_X12_put] at q; omega) | (simp [S_c_X12_put] at q; simp at e; omega))
          (fun x0_ x1_ e q => by first | (simp [S_c_X12_put] at q; done) | (exfalso; revert e; simp; done) | (simp [S_c_X12_put] at q; omega) | (simp [S_c_X12_put] at q; simp at e; omega))
          (fun c k j p e q => by first | (simp at q; done) | (unfold PRz at p; dsimp only at p e; simp at q; omega)))
    , eq_put h hF1 (fun k => ⟨by simp [S_c_X11_put], by simp [S_c_X11_put]⟩) hs1 hs2⟩
theorem st_34 {v u t s q : Int32} {M M1 M2 : mM} {r1 r2 : Int32} (h : RXz M.1) (hD : InvD M) (hF1 : FR (S_c_X11_move) M M1) (hs1 : SP_X11_move v u t s q M r1 M1) (hF2 : FR (S_c_X12_move) M1 M2) (hs2 : SP_X12_move v u t s q M1 r2 M2) : RXz M2.1 ∧ r1 = r2 := by
  refine ⟨RXz_t (T := []) (fun _ _ => False) h hF1 hF2 (kq_FR hF2 (by intro j q; simp [S_c_X12_move] at q)) (Or.inl ((hF2 (12, 0, 0) 3 (by simp [S_c_X12_move])).trans (hF1 (12, 0, 0) 3 (by simp [S_c_X11_move])))) (fun _ _ _ _ _ e _ => e.elim)
      (RXz_e (fun c k q => by simp only [S_c_X11_move, or_false] at q; omega)
          (fun c k q => by simp only [S_c_X12_move, or_false] at q; omega)
          (fun x0_ x1_ e q => by first | (simp [S_c_X11_move] at q; done) | (exfalso; revert e; simp; done) | (simp [S_c_X11_move] at q; omega) | (simp [S_c_X11_move] at q; simp at e; omega))
          (fun x0_ x1_ e q => by first | (simp [S_c_X11_move] at q; done) | (exfalso; revert e; simp; done) | (simp [S_c_X11_move] at q; omega) | (simp [S_c_X11_move] at q; simp at e; omega))
          (fun x0_ x1_ x2_ x3_ e q => by first | (simp [S_c_X11_move] at q; done) | (exfalso; revert e; simp; done) | (simp [S_c_X11_move] at q; omega) | (simp [S_c_X11_move] at q; simp at e; omega))
          (fun x0_ x1_ x2_ x3_ e q => by first | (simp [S_c_X11_move] at q; done) | (exfalso; revert e; simp; done) | (simp [S_c_X11_move] at q; omega) | (simp [S_c_X11_move] at q; simp at e; omega))
          (fun x0_ x1_ x2_ x3_ e q => by first | (simp [S_c_X11_move] at q; done) | (exfalso; revert e; simp; done) | (simp [S_c_X11_move] at q; omega) | (simp [S_c_X11_move] at q; simp at e; omega))
          (fun x0_ x1_ x2_ x3_ e q => by first | (simp [S_c_X11_move] at q; done) | (exfalso; revert e; simp; done) | (simp [S_c_X11_move] at q; omega) | (simp [S_c_X11_move] at q; simp at e; omega))
          (fun e q => by first | (simp [S_c_X11_move] at q; done) | (exfalso; revert e; simp; done) | (simp [S_c_X11_move] at q; omega) | (simp [S_c_X11_move] at q; simp at e; omega))
          (fun x0_ x1_ x2_ x3_ e q => by first | (simp [S_c_X11_move] at q; done) | (exfalso; revert e; simp; done) | (simp [S_c_X11_move] at q; omega) | (simp [S_c_X11_move] at q; simp at e; omega))
          (fun c k j p e q => by first | (simp [S_c_X12_move] at q; done) | (unfold PRz at p; dsimp only at p e; omega))
          (fun e q => by first | (simp [S_c_X12_move] at q; done) | (exfalso; revert e; simp; done) | (simp [S_c_X12_move] at q; omega) | (simp [S_c_X12_move] at q; simp at e; omega))
          (fun x0_ x1_ e q => by first | (simp [S_c_X12_move] at q; done) | (exfalso; revert e; simp; done) | (simp [S_c_X12_move] at q; omega) | (simp [S_c_X12_move] at q; simp at e; omega))
          (fun x0_ x1_ e q => by first | (simp [S_c_X12_move] at q; done) | (exfalso; revert e; simp; done) | (simp [S_c_X12_move] at q; omega) | (simp [S_c_X12_move] at q; simp at e; omega))
          (fun c k j p e q => by first | (simp at q; done) | (unfold PRz at p; dsimp only at p e; simp at q; omega)))
    , eq_move h hF1 (fun k => ⟨by simp [S_c_X11_move], by simp [S_c_X11_move]⟩) hs1 hs2⟩
theorem st_35 {M M1 M2 : mM} {r1 r2 : Int32} (h : RXz M.1) (hD : InvD M) (hF1 : FR (S_c_X11_image) M M1) (hs1 : SP_X11_image M r1 M1) (hF2 : FR (S_c_X12_image) M1 M2) (hs2 : SP_X12_image M1 r2 M2) : RXz M2.1 ∧ r1 = r2 := by
  have bb := bnd5 h hD
  have a := nnC_image hs1 bb.1.2 bb.2.1.2
  have b := nnD_image hs2
  have e3 : M1.1 (12, 0, 0) 3 = M.1 (12, 0, 0) 3 := hF1 _ _ (by simp [S_c_X11_image])
  have e8 : M.1 (11, 0, 0) 8 = M.1 (12, 0, 0) 3 := RXzg h Pz_11 (by simp)
  have g1 : ∀ j, M1.1 (50, 0, 0) j = M.1 (50, 0, 0) j := fun j => hF1 _ _ (by simp [S_c_X11_image])
  have g2 : ∀ (c : rf) (k : Nat), c.1 < 12 ∨ c.1 = 26 ∨ c.1 = 27 → M2.1 c k = M1.1 c k := fun c k hc => hF2 c k (fun q => by simp only [S_c_X12_image, or_false] at q; omega)
  have y10 : M.1 (10, 0, 0) 7 = M.1 (50, 0, 0) 0 := RXzg h Pz0_10 (by simp)
  have y3 : M.1 (3, 0, 0) 3 = M.1 (50, 0, 0) 3 := RXzg h Pz0_3 (by simp)
  have y5 : ∀ w, w < 2 → M.1 (5, 0, w) 1 = M.1 (50, 0, 0) (4 + w) := fun w hw => RXzg h (Pz0_5 hw) (by simp)
  have y2 : ∀ k, k ≤ 2 → M.1 (2, 0, 0) k = M.1 (50, 0, 0) (6 + k) := fun k hk => RXzg h (Pz0_2 hk) (by simp)
  have y26 : ∀ k, k < 5 → M.1 (26, 0, 0) k = M.1 (50, 0, 0) (9 + k) := fun k hk => RXzg h (Pz0_26 hk) (by simp)
  have y27 : ∀ k, k < 5 → M.1 (27, 0, 0) k = M.1 (50, 0, 0) (14 + k) := fun k hk => RXzg h (Pz0_27 hk) (by simp)
  refine ⟨RXz_t (T := []) (fun c _ => c.1 = 11 ∨ c.2.1 = 1) h hF1 hF2 (kq_FR hF2 (by intro j q; simp [S_c_X12_image] at q)) (Or.inr (fun _ _ q => Or.inr q)) (fun c k d j p e g => ?_)
      (RXz_e (fun c k q => by simp only [S_c_X11_image, or_false] at q; omega)
          (fun c k q => by simp only [S_c_X12_image, or_false] at q; omega)
          (fun x0_ x1_ e q => by first | (simp [S_c_X11_image] at q; done) | (exfalso; revert e; simp; done) | (simp [S_c_X11_image] at q; omega) | (simp [S_c_X11_image] at q; simp at e; omega))
          (fun x0_ x1_ e q => by first | (simp [S_c_X11_image] at q; done) | (exfalso; revert e; simp; done) | (simp [S_c_X11_image] at q; omega) | (simp [S_c_X11_image] at q; simp at e; omega))
          (fun x0_ x1_ x2_ x3_ e q => by first | (simp [S_c_X11_image] at q; done) | (exfalso; revert e; simp; done) | (simp [S_c_X11_image] at q; omega) | (simp [S_c_X11_image] at q; simp at e; omega))
          (fun x0_ x1_ x2_ x3_ e q => by first | (simp [S_c_X11_image] at q; done) | (exfalso; revert e; simp; done) | (simp [S_c_X11_image] at q; omega) | (simp [S_c_X11_image] at q; simp at e; omega))
          (fun x0_ x1_ x2_ x3_ e q => by first | (simp [S_c_X11_image] at q; done) | (exfalso; revert e; simp; done) | (simp [S_c_X11_image] at q; omega) | (simp [S_c_X11_image] at q; simp at e; omega))
          (fun x0_ x1_ x2_ x3_ e q => by first | (simp [S_c_X11_image] at q; done) | (exfalso; revert e; simp; done) | (simp [S_c_X11_image] at q; omega) | (simp [S_c_X11_image] at q; simp at e; omega))
          (fun e q => by first | (simp [S_c_X11_image] at q; done) | (exfalso; revert e; simp; done) | (simp [S_c_X11_image] at q; omega) | (simp [S_c_X11_image] at q; simp at e; omega))
          (fun x0_ x1_ x2_ x3_ e q => by first | (simp [S_c_X11_image] at q; done) | (exfalso; revert e; simp; done) | (simp [S_c_X11_image] at q; omega) | (simp [S_c_X11_image] at q; simp at e; omega))
          (fun c k j p e q => by first | (simp [S_c_X12_image] at q; done) | (unfold PRz at p; dsimp only at p e; omega))
          (fun e q => by first | (simp [S_c_X12_image] at q; done) | (exfalso; revert e; simp; done) | (simp [S_c_X12_image] at q; omega) | (simp [S_c_X12_image] at q; simp at e; omega))
          (fun x0_ x1_ e q => by first | (simp [S_c_X12_image] at q; done) | (exfalso; revert e; simp; done) | (simp [S_c_X12_image] at q; omega) | (simp [S_c_X12_image] at q; simp at e; omega))
          (fun x0_ x1_ e q => by first | (simp [S_c_X12_image] at q; done) | (exfalso; revert e; simp; done) | (simp [S_c_X12_image] at q; omega) | (simp [S_c_X12_image] at q; simp at e; omega))
          (fun c k j p e q => by first | (simp at q; done) | (unfold PRz at p; dsimp only at p e; simp at q; omega)))
    , ?_⟩
  · rcases c with ⟨c1, c2, c3⟩
    rcases d with ⟨d1, d2, d3⟩
    replace e : (c1, c2, c3).1 = 11 ∨ (c1, c2, c3).2.1 = 1 := e
    dsimp only at e
    unfold PRz at p
    dsimp only at p
    rcases p with ⟨h0, rfl, rfl, rfl, p⟩ | ⟨rfl, rfl, rfl, rfl, rfl, rfl, rfl, rfl⟩ | ⟨rfl, rfl, h0, rfl, rfl, rfl, ⟨rfl, rfl⟩ | ⟨rfl, rfl⟩⟩
    · obtain rfl : c2 = 1 := by
        rcases p with p | p | p | p | p | p <;> omega
      rw [g2 _ _ (by dsimp only; omega), b.2 j (by omega), g1]
      rcases p with ⟨rfl, rfl, rfl, rfl⟩ | ⟨rfl, rfl, rfl, rfl⟩ | ⟨rfl, hk, rfl, rfl⟩ | ⟨rfl, rfl, hk, rfl⟩ | ⟨rfl, rfl, hk, rfl⟩ | ⟨rfl, rfl, hk, rfl⟩
      · exact a.2.1.trans y10
      · exact a.2.2.1.trans y3
      · exact (a.2.2.2.1 c3 hk).trans (y5 c3 hk)
      · exact (a.2.2.2.2.1 k hk).trans (y2 k hk)
      · exact (a.2.2.2.2.2 k hk).1.trans (y26 k hk)
      · exact (a.2.2.2.2.2 k hk).2.trans (y27 k hk)
    · rw [g2 _ _ (by dsimp only; omega), a.1.2, b.1.2, e3, e8]
    · omega
    · omega
  · rw [a.1.1, b.1.1, e3, e8]
theorem st_36 {M M1 M2 : mM} {r1 r2 : Int32} (h : RXz M.1) (hD : InvD M) (hF1 : FR (S_c_X11_restore) M M1) (hs1 : SP_X11_restore M r1 M1) (hF2 : FR (S_c_X12_restore) M1 M2) (hs2 : SP_X12_restore M1 r2 M2) : RXz M2.1 ∧ r1 = r2 := by
  have b := nnD_restore hs2
  have e3 : M1.1 (12, 0, 0) 3 = M.1 (12, 0, 0) 3 := hF1 _ _ (by simp [S_c_X11_restore])
  have e8 : M.1 (11, 0, 0) 8 = M.1 (12, 0, 0) 3 := RXzg h Pz_11 (by simp)
  have g2 : ∀ (c : rf) (k : Nat), c.1 < 12 ∨ c.1 = 26 ∨ c.1 = 27 → M2.1 c k = M1.1 c k := fun c k hc => hF2 c k (fun q => by simp only [S_c_X12_restore, or_false] at q; omega)
  have g1 : ∀ j, M1.1 (51, 0, 0) j = M.1 (51, 0, 0) j := fun j => hF1 _ _ (by simp [S_c_X11_restore])
  have a := nnC_restore hs1 (fun q => bnd5k h hD (by rw [← e8]; exact q))
  rw [e3, ← e8] at b
  rcases a with a | a <;> rcases b with b | b
  · refine ⟨fun c k d j p g => ?_, i32e (by omega)⟩
    have p' := p
    unfold PRz at p'
    rw [b.2.2 c k (by omega), a.2.2 c k (by omega), b.2.2 d j (by omega), a.2.2 d j (by omega)]
    exact h c k d j p (fun q => by have := g q; rw [b.2.2 (12, 0, 0) 3 (by decide), a.2.2 (12, 0, 0) 3 (by decide)] at this; exact this)
  · exact absurd a.1 b.1
  · exact absurd b.1 a.1
  · have hne : ¬ (M.1 (12, 0, 0) 3).toInt = 0 := by rw [← e8]; exact a.1
    refine ⟨RXz_t (T := [0, 1, 2, 3, 4, 5, 6, 7, 8, 9, 10, 11, 12, 13, 14, 15, 16, 17, 18, 19]) (fun c _ => c.2.1 = 0 ∧ ¬ c.1 = 11 ∧ ¬ c.1 = 6) h hF1 hF2 (fun j hj hn => absurd (by simp; omega) hn) (Or.inl ((hF2 (12, 0, 0) 3 (by simp [S_c_X12_restore])).trans (hF1 (12, 0, 0) 3 (by simp [S_c_X11_restore])))) (fun c k d j p e g => ?_)
      (RXz_e (fun c k q => by simp only [S_c_X11_restore, or_false] at q; omega)
          (fun c k q => by simp only [S_c_X12_restore, or_false] at q; omega)
          (fun x0_ x1_ e q => by first | (simp [S_c_X11_restore] at q; done) | (exfalso; revert e; simp; done) | (simp [S_c_X11_restore] at q; omega) | (simp [S_c_X11_restore] at q; simp at e; omega))
          (fun x0_ x1_ e q => by first | (simp [S_c_X11_restore] at q; done) | (exfalso; revert e; simp; done) | (simp [S_c_X11_restore] at q; omega) | (simp [S_c_X11_restore] at q; simp at e; omega))
          (fun x0_ x1_ x2_ x3_ e q => by first | (simp [S_c_X11_restore] at q; done) | (exfalso; revert e; simp; done) | (simp [S_c_X11_restore] at q; omega) | (simp [S_c_X11_restore] at q; simp at e; omega))
          (fun x0_ x1_ x2_ x3_ e q => by first | (simp [S_c_X11_restore] at q; done) | (exfalso; revert e; simp; done) | (simp [S_c_X11_restore] at q; omega) | (simp [S_c_X11_restore] at q; simp at e; omega))
          (fun x0_ x1_ x2_ x3_ e q => by first | (simp [S_c_X11_restore] at q; done) | (exfalso; revert e; simp; done) | (simp [S_c_X11_restore] at q; omega) | (simp [S_c_X11_restore] at q; simp at e; omega))
          (fun x0_ x1_ x2_ x3_ e q => by first | (simp [S_c_X11_restore] at q; done) | (exfalso; revert e; simp; done) | (simp [S_c_X11_restore] at q; omega) | (simp [S_c_X11_restore] at q; simp at e; omega))
          (fun e q => by first | (simp [S_c_X11_restore] at q; done) | (exfalso; revert e; simp; done) | (simp [S_c_X11_restore] at q; omega) | (simp [S_c_X11_restore] at q; simp at e; omega))
          (fun x0_ x1_ x2_ x3_ e q => by first | (simp [S_c_X11_restore] at q; done) | (exfalso; revert e; simp; done) | (simp [S_c_X11_restore] at q; omega) | (simp [S_c_X11_restore] at q; simp at e; omega))
          (fun c k j p e q => by first | (simp [S_c_X12_restore] at q; done) | (unfold PRz at p; dsimp only at p e; omega))
          (fun e q => by first | (simp [S_c_X12_restore] at q; done) | (exfalso; revert e; simp; done) | (simp [S_c_X12_restore] at q; omega) | (simp [S_c_X12_restore] at q; simp at e; omega))
          (fun x0_ x1_ e q => by first | (simp [S_c_X12_restore] at q; done) | (exfalso; revert e; simp; done) | (simp [S_c_X12_restore] at q; omega) | (simp [S_c_X12_restore] at q; simp at e; omega))
          (fun x0_ x1_ e q => by first | (simp [S_c_X12_restore] at q; done) | (exfalso; revert e; simp; done) | (simp [S_c_X12_restore] at q; omega) | (simp [S_c_X12_restore] at q; simp at e; omega))
          (fun c k j p e q => by first | (simp at q; done) | (unfold PRz at p; dsimp only at p e; simp at q; omega)))
      , ?_⟩
    · rcases c with ⟨c1, c2, c3⟩
      rcases d with ⟨d1, d2, d3⟩
      replace e : (c1, c2, c3).2.1 = 0 ∧ ¬ (c1, c2, c3).1 = 11 ∧ ¬ (c1, c2, c3).1 = 6 := e
      dsimp only at e
      unfold PRz at p
      dsimp only at p
      rcases p with ⟨h0, rfl, rfl, rfl, p⟩ | ⟨rfl, rfl, rfl, rfl, rfl, rfl, rfl, rfl⟩ | ⟨rfl, rfl, h0, rfl, rfl, rfl, ⟨rfl, rfl⟩ | ⟨rfl, rfl⟩⟩
      · obtain rfl : c2 = 0 := e.1
        rw [g2 _ _ (by dsimp only; omega), b.2.2 j (by omega), g1]
        rcases p with ⟨rfl, rfl, rfl, rfl⟩ | ⟨rfl, rfl, rfl, rfl⟩ | ⟨rfl, hk, rfl, rfl⟩ | ⟨rfl, rfl, hk, rfl⟩ | ⟨rfl, rfl, hk, rfl⟩ | ⟨rfl, rfl, hk, rfl⟩
        · exact a.2.2.1.trans (h _ _ _ _ Pz1_10 (fun _ => hne))
        · exact a.2.2.2.1.trans (h _ _ _ _ Pz1_3 (fun _ => hne))
        · exact (a.2.2.2.2.1 c3 hk).trans (h _ _ _ _ (Pz1_5 hk) (fun _ => hne))
        · exact (a.2.2.2.2.2.1 k hk).trans (h _ _ _ _ (Pz1_2 hk) (fun _ => hne))
        · exact (a.2.2.2.2.2.2 k hk).1.trans (h _ _ _ _ (Pz1_26 hk) (fun _ => hne))
        · exact (a.2.2.2.2.2.2 k hk).2.trans (h _ _ _ _ (Pz1_27 hk) (fun _ => hne))
      · exact absurd rfl e.2.1
      · exact absurd rfl e.2.2
      · exact absurd rfl e.2.2
    · rw [a.2.1, b.2.1, g1]; exact h _ _ _ _ (by first | exact Pz1_10 | exact Pz1_3 | (unfold PRz; dsimp only; omega)) (fun _ => hne)
theorem st_37 {v : Int32} {M M1 M2 : mM} {r1 r2 : Int32} (h : RXz M.1) (hD : InvD M) (hF1 : FR (S_c_X11_tell) M M1) (hs1 : SP_X11_tell v M r1 M1) (hF2 : FR (S_c_X12_tell) M1 M2) (hs2 : SP_X12_tell v M1 r2 M2) : RXz M2.1 ∧ r1 = r2 := by
  have bb := bnd5 h hD
  have a := nnC_tell hs1 bb.2.1
  have b := nnD_tell hs2
  rw [hF1 (50, 0, 0) 5 (by simp [S_c_X11_tell])] at b
  have e1 := RXzi h (c := (5, 0, 1)) (k := 1) (d := (50, 0, 0)) (j := 5) (Pz0_5 (w := 1) (by decide))
  unfold TELN at a b
  refine ⟨RXz_t (fun c _ => c.1 = 5 ∧ c.2.1 = 0 ∧ c.2.2 = 1) h hF1 hF2 (KSP_X12_tell hs2) (Or.inl ((hF2 (12, 0, 0) 3 (by simp [S_c_X12_tell])).trans (hF1 (12, 0, 0) 3 (by simp [S_c_X11_tell])))) (fun c k d j p e g => ?_)
      (RXz_e (fun c k q => by simp only [S_c_X11_tell, or_false] at q; omega)
          (fun c k q => by simp only [S_c_X12_tell, or_false] at q; omega)
          (fun x0_ x1_ e q => by first | (simp [S_c_X11_tell] at q; done) | (exfalso; revert e; simp; done) | (simp [S_c_X11_tell] at q; omega) | (simp [S_c_X11_tell] at q; simp at e; omega))
          (fun x0_ x1_ e q => by first | (simp [S_c_X11_tell] at q; done) | (exfalso; revert e; simp; done) | (simp [S_c_X11_tell] at q; omega) | (simp [S_c_X11_tell] at q; simp at e; omega))
          (fun x0_ x1_ x2_ x3_ e q => by first | (simp [S_c_X11_tell] at q; done) | (exfalso; revert e; simp; done) | (simp [S_c_X11_tell] at q; omega) | (simp [S_c_X11_tell] at q; simp at e; omega))
          (fun x0_ x1_ x2_ x3_ e q => by first | (simp [S_c_X11_tell] at q; done) | (exfalso; revert e; simp; done) | (simp [S_c_X11_tell] at q; omega) | (simp [S_c_X11_tell] at q; simp at e; omega))
          (fun x0_ x1_ x2_ x3_ e q => by first | (simp [S_c_X11_tell] at q; done) | (exfalso; revert e; simp; done) | (simp [S_c_X11_tell] at q; omega) | (simp [S_c_X11_tell] at q; simp at e; omega))
          (fun x0_ x1_ x2_ x3_ e q => by first | (simp [S_c_X11_tell] at q; done) | (exfalso; revert e; simp; done) | (simp [S_c_X11_tell] at q; omega) | (simp [S_c_X11_tell] at q; simp at e; omega))
          (fun e q => by first | (simp [S_c_X11_tell] at q; done) | (exfalso; revert e; simp; done) | (simp [S_c_X11_tell] at q; omega) | (simp [S_c_X11_tell] at q; simp at e; omega))
          (fun x0_ x1_ x2_ x3_ e q => by first | (simp [S_c_X11_tell] at q; done) | (exfalso; revert e; simp; done) | (simp [S_c_X11_tell] at q; omega) | (simp [S_c_X11_tell] at q; simp at e; omega))
          (fun c k j p e q => by first | (simp [S_c_X12_tell] at q; done) | (unfold PRz at p; dsimp only at p e; omega))
          (fun e q => by first | (simp [S_c_X12_tell] at q; done) | (exfalso; revert e; simp; done) | (simp [S_c_X12_tell] at q; omega) | (simp [S_c_X12_tell] at q; simp at e; omega))
          (fun x0_ x1_ e q => by first | (simp [S_c_X12_tell] at q; done) | (exfalso; revert e; simp; done) | (simp [S_c_X12_tell] at q; omega) | (simp [S_c_X12_tell] at q; simp at e; omega))
          (fun x0_ x1_ e q => by first | (simp [S_c_X12_tell] at q; done) | (exfalso; revert e; simp; done) | (simp [S_c_X12_tell] at q; omega) | (simp [S_c_X12_tell] at q; simp at e; omega))
          (fun c k j p e q => by first | (simp at q; done) | (unfold PRz at p; dsimp only at p e; simp at q; omega)))
    , i32e (by omega)⟩
  replace e : c.1 = 5 ∧ c.2.1 = 0 ∧ c.2.2 = 1 := e
  unfold PRz at p
  rw [rfe (d := d) (a := 50) (b := 0) (c := 0) (by omega), rfe (d := c) (a := 5) (b := 0) (c := 1) (by omega), show j = 5 by omega, show k = 1 by omega, hF2 (5, 0, 1) 1 (by simp [S_c_X12_tell])]
  exact i32e (by omega)
theorem st_38 {v : Int32} {M M1 M2 : mM} {r1 r2 : Int32} (h : RXz M.1) (hD : InvD M) (hF1 : FR (S_c_X11_check) M M1) (hs1 : SP_X11_check v M r1 M1) (hF2 : FR (S_c_X12_check) M1 M2) (hs2 : SP_X12_check v M1 r2 M2) : RXz M2.1 ∧ True := by
  have a := nnC_check hs1
  have b := nnD_check hs2
  refine ⟨RXz_t (fun c _ => c.1 = 5 ∧ c.2.1 = 0 ∧ c.2.2 = 1) h hF1 hF2 b.2 (Or.inl ((hF2 (12, 0, 0) 3 (by simp [S_c_X12_check])).trans (hF1 (12, 0, 0) 3 (by simp [S_c_X11_check])))) (fun c k d j p e g => ?_)
      (RXz_e (fun c k q => by simp only [S_c_X11_check, or_false] at q; omega)
          (fun c k q => by simp only [S_c_X12_check, or_false] at q; omega)
          (fun x0_ x1_ e q => by first | (simp [S_c_X11_check] at q; done) | (exfalso; revert e; simp; done) | (simp [S_c_X11_check] at q; omega) | (simp [S_c_X11_check] at q; simp at e; omega))
          (fun x0_ x1_ e q => by first | (simp [S_c_X11_check] at q; done) | (exfalso; revert e; simp; done) | (simp [S_c_X11_check] at q; omega) | (simp [S_c_X11_check] at q; simp at e; omega))
          (fun x0_ x1_ x2_ x3_ e q => by first | (simp [S_c_X11_check] at q; done) | (exfalso; revert e; simp; done) | (simp [S_c_X11_check] at q; omega) | (simp [S_c_X11_check] at q; simp at e; omega))
          (fun x0_ x1_ x2_ x3_ e q => by first | (simp [S_c_X11_check] at q; done) | (exfalso; revert e; simp; done) | (simp [S_c_X11_check] at q; omega) | (simp [S_c_X11_check] at q; simp at e; omega))
          (fun x0_ x1_ x2_ x3_ e q => by first | (simp [S_c_X11_check] at q; done) | (exfalso; revert e; simp; done) | (simp [S_c_X11_check] at q; omega) | (simp [S_c_X11_check] at q; simp at e; omega))
          (fun x0_ x1_ x2_ x3_ e q => by first | (simp [S_c_X11_check] at q; done) | (exfalso; revert e; simp; done) | (simp [S_c_X11_check] at q; omega) | (simp [S_c_X11_check] at q; simp at e; omega))
          (fun e q => by first | (simp [S_c_X11_check] at q; done) | (exfalso; revert e; simp; done) | (simp [S_c_X11_check] at q; omega) | (simp [S_c_X11_check] at q; simp at e; omega))
          (fun x0_ x1_ x2_ x3_ e q => by first | (simp [S_c_X11_check] at q; done) | (exfalso; revert e; simp; done) | (simp [S_c_X11_check] at q; omega) | (simp [S_c_X11_check] at q; simp at e; omega))
          (fun c k j p e q => by first | (simp [S_c_X12_check] at q; done) | (unfold PRz at p; dsimp only at p e; omega))
          (fun e q => by first | (simp [S_c_X12_check] at q; done) | (exfalso; revert e; simp; done) | (simp [S_c_X12_check] at q; omega) | (simp [S_c_X12_check] at q; simp at e; omega))
          (fun x0_ x1_ e q => by first | (simp [S_c_X12_check] at q; done) | (exfalso; revert e; simp; done) | (simp [S_c_X12_check] at q; omega) | (simp [S_c_X12_check] at q; simp at e; omega))
          (fun x0_ x1_ e q => by first | (simp [S_c_X12_check] at q; done) | (exfalso; revert e; simp; done) | (simp [S_c_X12_check] at q; omega) | (simp [S_c_X12_check] at q; simp at e; omega))
          (fun c k j p e q => by first | (simp at q; done) | (unfold PRz at p; dsimp only at p e; simp at q; omega)))
    , trivial⟩
  replace e : c.1 = 5 ∧ c.2.1 = 0 ∧ c.2.2 = 1 := e
  unfold PRz at p
  rw [rfe (d := d) (a := 50) (b := 0) (c := 0) (by omega), rfe (d := c) (a := 5) (b := 0) (c := 1) (by omega), show j = 5 by omega, show k = 1 by omega, hF2 (5, 0, 1) 1 (by simp [S_c_X12_check]), a, b.1]
end
section
/-! the calls step by step: those that touch nothing of it -/
theorem RXz_n {S1 S2 : rf → Nat → Prop} {T : List Nat} (s1 : ∀ (c : rf) (k : Nat), S1 c k → ¬ (c.1 = 12 ∨ 50 ≤ c.1)) (s2 : ∀ (c : rf) (k : Nat), S2 c k → c.1 = 12 ∨ 50 ≤ c.1)
    (a10 : ∀ b, b < 2 → ¬ S1 (10, b, 0) 7) (a3 : ∀ b, b < 2 → ¬ S1 (3, b, 0) 3) (a5 : ∀ b w, b < 2 → w < 2 → ¬ S1 (5, b, w) 1) (a2 : ∀ b k, b < 2 → k ≤ 2 → ¬ S1 (2, b, 0) k) (a26 : ∀ b k, b < 2 → k < 5 → ¬ S1 (26, b, 0) k) (a27 : ∀ b k, b < 2 → k < 5 → ¬ S1 (27, b, 0) k) (a11 : ¬ S1 (11, 0, 0) 8) (a6 : ∀ w k, w < 4 → k < 2 → ¬ S1 (6, 0, w) k)
    (b51 : ∀ k, k ≤ 19 → ¬ S2 (51, 0, 0) k) (b12 : ¬ S2 (12, 0, 0) 3) (b66 : ∀ w, w < 4 → ¬ S2 (66, 0, 0) w) (b67 : ∀ w, w < 4 → ¬ S2 (67, 0, 0) w) (b50 : ∀ j, j = 0 ∨ (3 ≤ j ∧ j ≤ 18) → ¬ j ∈ T) :
    ∀ c k d j, PRz c k d j → ¬ False → ¬ S1 c k ∧ ¬ S1 d j ∧ ¬ S2 c k ∧ ((d.1 = 50 ∧ d.2.1 = 0 ∧ d.2.2 = 0 ∧ j ≤ 19 ∧ ¬ j ∈ T) ∨ ¬ S2 d j) := fun c k d j p _ => by
  rcases c with ⟨c1, c2, c3⟩
  rcases d with ⟨d1, d2, d3⟩
  unfold PRz at p
  dsimp only at p ⊢
  have hc : ¬ (c1 = 12 ∨ 50 ≤ c1) ∧ (d1 = 12 ∨ 50 ≤ d1) := by omega
  refine ⟨?_, fun q => s1 _ _ q hc.2, fun q => hc.1 (s2 _ _ q), ?_⟩
  · rcases p with ⟨h0, rfl, rfl, rfl, p⟩ | ⟨rfl, rfl, rfl, rfl, rfl, rfl, rfl, rfl⟩ | ⟨rfl, rfl, h0, rfl, rfl, rfl, p⟩
    · rcases p with ⟨rfl, rfl, rfl, rfl⟩ | ⟨rfl, rfl, rfl, rfl⟩ | ⟨rfl, hk, rfl, rfl⟩ | ⟨rfl, rfl, hk, rfl⟩ | ⟨rfl, rfl, hk, rfl⟩ | ⟨rfl, rfl, hk, rfl⟩
      · exact a10 _ h0
      · exact a3 _ h0
      · exact a5 _ _ h0 hk
      · exact a2 _ _ h0 hk
      · exact a26 _ _ h0 hk
      · exact a27 _ _ h0 hk
    · exact a11
    · exact a6 _ _ h0 (by omega)
  · rcases p with ⟨h0, rfl, rfl, rfl, p⟩ | ⟨rfl, rfl, rfl, rfl, rfl, rfl, rfl, rfl⟩ | ⟨rfl, rfl, h0, rfl, rfl, rfl, p⟩
    · rcases (show c2 = 0 ∨ c2 = 1 by omega) with rfl | rfl
      · exact Or.inl ⟨rfl, rfl, rfl, by omega, b50 _ (by omega)⟩
      · exact Or.inr (b51 _ (by omega))
    · exact Or.inr b12
    · rcases p with ⟨rfl, rfl⟩ | ⟨rfl, rfl⟩
      · exact Or.inr (b66 _ h0)
      · exact Or.inr (b67 _ h0)
theorem KSQ_X12_goes {v : Int32} {u : Int32} {Mz : mM} {r_ : Int32} {M_ : mM} (h : SP_X12_goes v u Mz r_ M_) : kq [] Mz M_ := by
  refine xE_SP_X12_goes h ⟨(fun hs5_ h4_ r7_ hs11_ h10_ z12_ h13_ => ⟨(fun h14_ M16_ _ hF20_ r15_ hs22_ hr_ hM_ => ?_), (fun h14_ M24_ _ hF28_ r23_ hs30_ hr_ hM_ => ?_)⟩), (fun hs5_ M33_ _ hF37_ r32_ hs39_ h35_ hr_ hM_ => ?_)⟩
  · rw [hM_]
    exact (KSP_X12_become hs22_ (by omega)).mono (by decide)
  · rw [hM_]
    exact (KSP_X12_become hs30_ (by omega)).mono (by decide)
  · rw [hM_]
    exact kq_FR hF37_ (by intro j q; simp [S_c_X12_finding] at q)
theorem st_0 {v1 : Int32} {u1 : Int32} {v2 : Int32} {u2 : Int32} {M M1 M2 : mM} {r1 r2 : Int32} (h : RXz M.1) (hD : InvD M) (hF1 : FR S_c_X11_thing M M1) (hs1 : SP_X11_thing v1 u1 M r1 M1) (hF2 : FR S_c_X12_thing_ M1 M2) (hs2 : SP_X12_thing_ v2 u2 M1 r2 M2) : RXz M2.1 ∧ True := by
  refine ⟨RXz_t (T := [1]) (fun _ _ => False) h hF1 hF2 (KSP_X12_thing_ hs2) (Or.inl ((hF2 (12, 0, 0) 3 (by simp [S_c_X12_thing_])).trans (hF1 (12, 0, 0) 3 (by simp [S_c_X11_thing])))) (fun _ _ _ _ _ e _ => e.elim) (RXz_n (fun c k q => by simp only [S_c_X11_thing, or_false] at q; omega) (fun c k q => by simp only [S_c_X12_thing_, or_false] at q; omega) (fun x0_ x1_ q => by first | (simp [S_c_X11_thing] at q; done) | (simp [S_c_X11_thing] at q; omega)) (fun x0_ x1_ q => by first | (simp [S_c_X11_thing] at q; done) | (simp [S_c_X11_thing] at q; omega)) (fun x0_ x1_ x2_ x3_ q => by first | (simp [S_c_X11_thing] at q; done) | (simp [S_c_X11_thing] at q; omega)) (fun x0_ x1_ x2_ x3_ q => by first | (simp [S_c_X11_thing] at q; done) | (simp [S_c_X11_thing] at q; omega)) (fun x0_ x1_ x2_ x3_ q => by first | (simp [S_c_X11_thing] at q; done) | (simp [S_c_X11_thing] at q; omega)) (fun x0_ x1_ x2_ x3_ q => by first | (simp [S_c_X11_thing] at q; done) | (simp [S_c_X11_thing] at q; omega)) (fun q => by simp [S_c_X11_thing] at q) (fun x0_ x1_ x2_ x3_ q => by first | (simp [S_c_X11_thing] at q; done) | (simp [S_c_X11_thing] at q; omega)) (fun x0_ x1_ q => by first | (simp [S_c_X12_thing_] at q; done) | (simp [S_c_X12_thing_] at q; omega)) (fun q => by simp [S_c_X12_thing_] at q) (fun x0_ x1_ q => by first | (simp [S_c_X12_thing_] at q; done) | (simp [S_c_X12_thing_] at q; omega)) (fun x0_ x1_ q => by first | (simp [S_c_X12_thing_] at q; done) | (simp [S_c_X12_thing_] at q; omega)) (fun j hj q => by first | (simp at q; done) | (simp at q; omega))), trivial⟩
theorem st_1 {v1 : Int32} {u1 : Int32} {v2 : Int32} {u2 : Int32} {M M1 M2 : mM} {r1 r2 : Int32} (h : RXz M.1) (hD : InvD M) (hF1 : FR S_c_X11_thingIs M M1) (hs1 : SP_X11_thingIs v1 u1 M r1 M1) (hF2 : FR S_c_X12_thingIs M1 M2) (hs2 : SP_X12_thingIs v2 u2 M1 r2 M2) : RXz M2.1 ∧ True := by
  refine ⟨RXz_t (T := []) (fun _ _ => False) h hF1 hF2 (kq_FR hF2 (by intro j q; simp [S_c_X12_thingIs] at q)) (Or.inl ((hF2 (12, 0, 0) 3 (by simp [S_c_X12_thingIs])).trans (hF1 (12, 0, 0) 3 (by simp [S_c_X11_thingIs])))) (fun _ _ _ _ _ e _ => e.elim) (RXz_n (fun c k q => by simp only [S_c_X11_thingIs, or_false] at q; omega) (fun c k q => by simp only [S_c_X12_thingIs, or_false] at q; omega) (fun x0_ x1_ q => by first | (simp [S_c_X11_thingIs] at q; done) | (simp [S_c_X11_thingIs] at q; omega)) (fun x0_ x1_ q => by first | (simp [S_c_X11_thingIs] at q; done) | (simp [S_c_X11_thingIs] at q; omega)) (fun x0_ x1_ x2_ x3_ q => by first | (simp [S_c_X11_thingIs] at q; done) | (simp [S_c_X11_thingIs] at q; omega)) (fun x0_ x1_ x2_ x3_ q => by first | (simp [S_c_X11_thingIs] at q; done) | (simp [S_c_X11_thingIs] at q; omega)) (fun x0_ x1_ x2_ x3_ q => by first | (simp [S_c_X11_thingIs] at q; done) | (simp [S_c_X11_thingIs] at q; omega)) (fun x0_ x1_ x2_ x3_ q => by first | (simp [S_c_X11_thingIs] at q; done) | (simp [S_c_X11_thingIs] at q; omega)) (fun q => by simp [S_c_X11_thingIs] at q) (fun x0_ x1_ x2_ x3_ q => by first | (simp [S_c_X11_thingIs] at q; done) | (simp [S_c_X11_thingIs] at q; omega)) (fun x0_ x1_ q => by first | (simp [S_c_X12_thingIs] at q; done) | (simp [S_c_X12_thingIs] at q; omega)) (fun q => by simp [S_c_X12_thingIs] at q) (fun x0_ x1_ q => by first | (simp [S_c_X12_thingIs] at q; done) | (simp [S_c_X12_thingIs] at q; omega)) (fun x0_ x1_ q => by first | (simp [S_c_X12_thingIs] at q; done) | (simp [S_c_X12_thingIs] at q; omega)) (fun j hj q => by first | (simp at q; done) | (simp at q; omega))), trivial⟩
theorem st_2 {v1 : Int32} {u1 : Int32} {t1 : Int32} {v2 : Int32} {u2 : Int32} {t2 : Int32} {M M1 M2 : mM} {r1 r2 : Int32} (h : RXz M.1) (hD : InvD M) (hF1 : FR S_c_X11_moves M M1) (hs1 : SP_X11_moves v1 u1 t1 M r1 M1) (hF2 : FR S_c_X12_moves M1 M2) (hs2 : SP_X12_moves v2 u2 t2 M1 r2 M2) : RXz M2.1 ∧ True := by
  refine ⟨RXz_t (T := []) (fun _ _ => False) h hF1 hF2 (KSP_X12_moves hs2) (Or.inl ((hF2 (12, 0, 0) 3 (by simp [S_c_X12_moves])).trans (hF1 (12, 0, 0) 3 (by simp [S_c_X11_moves])))) (fun _ _ _ _ _ e _ => e.elim) (RXz_n (fun c k q => by simp only [S_c_X11_moves, or_false] at q; omega) (fun c k q => by simp only [S_c_X12_moves, or_false] at q; omega) (fun x0_ x1_ q => by first | (simp [S_c_X11_moves] at q; done) | (simp [S_c_X11_moves] at q; omega)) (fun x0_ x1_ q => by first | (simp [S_c_X11_moves] at q; done) | (simp [S_c_X11_moves] at q; omega)) (fun x0_ x1_ x2_ x3_ q => by first | (simp [S_c_X11_moves] at q; done) | (simp [S_c_X11_moves] at q; omega)) (fun x0_ x1_ x2_ x3_ q => by first | (simp [S_c_X11_moves] at q; done) | (simp [S_c_X11_moves] at q; omega)) (fun x0_ x1_ x2_ x3_ q => by first | (simp [S_c_X11_moves] at q; done) | (simp [S_c_X11_moves] at q; omega)) (fun x0_ x1_ x2_ x3_ q => by first | (simp [S_c_X11_moves] at q; done) | (simp [S_c_X11_moves] at q; omega)) (fun q => by simp [S_c_X11_moves] at q) (fun x0_ x1_ x2_ x3_ q => by first | (simp [S_c_X11_moves] at q; done) | (simp [S_c_X11_moves] at q; omega)) (fun x0_ x1_ q => by first | (simp [S_c_X12_moves] at q; done) | (simp [S_c_X12_moves] at q; omega)) (fun q => by simp [S_c_X12_moves] at q) (fun x0_ x1_ q => by first | (simp [S_c_X12_moves] at q; done) | (simp [S_c_X12_moves] at q; omega)) (fun x0_ x1_ q => by first | (simp [S_c_X12_moves] at q; done) | (simp [S_c_X12_moves] at q; omega)) (fun j hj q => by first | (simp at q; done) | (simp at q; omega))), trivial⟩
theorem st_3 {v1 : Int32} {v2 : Int32} {M M1 M2 : mM} {r1 r2 : Int32} (h : RXz M.1) (hD : InvD M) (hF1 : FR S_c_X11_away M M1) (hs1 : SP_X11_away v1 M r1 M1) (hF2 : FR S_c_X12_away M1 M2) (hs2 : SP_X12_away v2 M1 r2 M2) : RXz M2.1 ∧ True := by
  refine ⟨RXz_t (T := []) (fun _ _ => False) h hF1 hF2 (KSP_X12_away hs2) (Or.inl ((hF2 (12, 0, 0) 3 (by simp [S_c_X12_away])).trans (hF1 (12, 0, 0) 3 (by simp [S_c_X11_away])))) (fun _ _ _ _ _ e _ => e.elim) (RXz_n (fun c k q => by simp only [S_c_X11_away, or_false] at q; omega) (fun c k q => by simp only [S_c_X12_away, or_false] at q; omega) (fun x0_ x1_ q => by first | (simp [S_c_X11_away] at q; done) | (simp [S_c_X11_away] at q; omega)) (fun x0_ x1_ q => by first | (simp [S_c_X11_away] at q; done) | (simp [S_c_X11_away] at q; omega)) (fun x0_ x1_ x2_ x3_ q => by first | (simp [S_c_X11_away] at q; done) | (simp [S_c_X11_away] at q; omega)) (fun x0_ x1_ x2_ x3_ q => by first | (simp [S_c_X11_away] at q; done) | (simp [S_c_X11_away] at q; omega)) (fun x0_ x1_ x2_ x3_ q => by first | (simp [S_c_X11_away] at q; done) | (simp [S_c_X11_away] at q; omega)) (fun x0_ x1_ x2_ x3_ q => by first | (simp [S_c_X11_away] at q; done) | (simp [S_c_X11_away] at q; omega)) (fun q => by simp [S_c_X11_away] at q) (fun x0_ x1_ x2_ x3_ q => by first | (simp [S_c_X11_away] at q; done) | (simp [S_c_X11_away] at q; omega)) (fun x0_ x1_ q => by first | (simp [S_c_X12_away] at q; done) | (simp [S_c_X12_away] at q; omega)) (fun q => by simp [S_c_X12_away] at q) (fun x0_ x1_ q => by first | (simp [S_c_X12_away] at q; done) | (simp [S_c_X12_away] at q; omega)) (fun x0_ x1_ q => by first | (simp [S_c_X12_away] at q; done) | (simp [S_c_X12_away] at q; omega)) (fun j hj q => by first | (simp at q; done) | (simp at q; omega))), trivial⟩
theorem st_5 {v1 : Int32} {v2 : Int32} {M M1 M2 : mM} {r1 r2 : Int32} (h : RXz M.1) (hD : InvD M) (hF1 : FR S_c_X11_at M M1) (hs1 : SP_X11_at v1 M r1 M1) (hF2 : FR S_c_X12_at M1 M2) (hs2 : SP_X12_at v2 M1 r2 M2) : RXz M2.1 ∧ True := by
  refine ⟨RXz_t (T := []) (fun _ _ => False) h hF1 hF2 (kq_FR hF2 (by intro j q; simp [S_c_X12_at] at q)) (Or.inl ((hF2 (12, 0, 0) 3 (by simp [S_c_X12_at])).trans (hF1 (12, 0, 0) 3 (by simp [S_c_X11_at])))) (fun _ _ _ _ _ e _ => e.elim) (RXz_n (fun c k q => by simp only [S_c_X11_at, or_false] at q; omega) (fun c k q => by simp only [S_c_X12_at, or_false] at q; omega) (fun x0_ x1_ q => by first | (simp [S_c_X11_at] at q; done) | (simp [S_c_X11_at] at q; omega)) (fun x0_ x1_ q => by first | (simp [S_c_X11_at] at q; done) | (simp [S_c_X11_at] at q; omega)) (fun x0_ x1_ x2_ x3_ q => by first | (simp [S_c_X11_at] at q; done) | (simp [S_c_X11_at] at q; omega)) (fun x0_ x1_ x2_ x3_ q => by first | (simp [S_c_X11_at] at q; done) | (simp [S_c_X11_at] at q; omega)) (fun x0_ x1_ x2_ x3_ q => by first | (simp [S_c_X11_at] at q; done) | (simp [S_c_X11_at] at q; omega)) (fun x0_ x1_ x2_ x3_ q => by first | (simp [S_c_X11_at] at q; done) | (simp [S_c_X11_at] at q; omega)) (fun q => by simp [S_c_X11_at] at q) (fun x0_ x1_ x2_ x3_ q => by first | (simp [S_c_X11_at] at q; done) | (simp [S_c_X11_at] at q; omega)) (fun x0_ x1_ q => by first | (simp [S_c_X12_at] at q; done) | (simp [S_c_X12_at] at q; omega)) (fun q => by simp [S_c_X12_at] at q) (fun x0_ x1_ q => by first | (simp [S_c_X12_at] at q; done) | (simp [S_c_X12_at] at q; omega)) (fun x0_ x1_ q => by first | (simp [S_c_X12_at] at q; done) | (simp [S_c_X12_at] at q; omega)) (fun j hj q => by first | (simp at q; done) | (simp at q; omega))), trivial⟩
theorem st_6 {v1 : Int32} {u1 : Int32} {v2 : Int32} {u2 : Int32} {M M1 M2 : mM} {r1 r2 : Int32} (h : RXz M.1) (hD : InvD M) (hF1 : FR S_c_X11_lays M M1) (hs1 : SP_X11_lays v1 u1 M r1 M1) (hF2 : FR S_c_X12_lays M1 M2) (hs2 : SP_X12_lays v2 u2 M1 r2 M2) : RXz M2.1 ∧ True := by
  refine ⟨RXz_t (T := [1]) (fun _ _ => False) h hF1 hF2 (KSP_X12_lays hs2) (Or.inl ((hF2 (12, 0, 0) 3 (by simp [S_c_X12_lays])).trans (hF1 (12, 0, 0) 3 (by simp [S_c_X11_lays])))) (fun _ _ _ _ _ e _ => e.elim) (RXz_n (fun c k q => by simp only [S_c_X11_lays, or_false] at q; omega) (fun c k q => by simp only [S_c_X12_lays, or_false] at q; omega) (fun x0_ x1_ q => by first | (simp [S_c_X11_lays] at q; done) | (simp [S_c_X11_lays] at q; omega)) (fun x0_ x1_ q => by first | (simp [S_c_X11_lays] at q; done) | (simp [S_c_X11_lays] at q; omega)) (fun x0_ x1_ x2_ x3_ q => by first | (simp [S_c_X11_lays] at q; done) | (simp [S_c_X11_lays] at q; omega)) (fun x0_ x1_ x2_ x3_ q => by first | (simp [S_c_X11_lays] at q; done) | (simp [S_c_X11_lays] at q; omega)) (fun x0_ x1_ x2_ x3_ q => by first | (simp [S_c_X11_lays] at q; done) | (simp [S_c_X11_lays] at q; omega)) (fun x0_ x1_ x2_ x3_ q => by first | (simp [S_c_X11_lays] at q; done) | (simp [S_c_X11_lays] at q; omega)) (fun q => by simp [S_c_X11_lays] at q) (fun x0_ x1_ x2_ x3_ q => by first | (simp [S_c_X11_lays] at q; done) | (simp [S_c_X11_lays] at q; omega)) (fun x0_ x1_ q => by first | (simp [S_c_X12_lays] at q; done) | (simp [S_c_X12_lays] at q; omega)) (fun q => by simp [S_c_X12_lays] at q) (fun x0_ x1_ q => by first | (simp [S_c_X12_lays] at q; done) | (simp [S_c_X12_lays] at q; omega)) (fun x0_ x1_ q => by first | (simp [S_c_X12_lays] at q; done) | (simp [S_c_X12_lays] at q; omega)) (fun j hj q => by first | (simp at q; done) | (simp at q; omega))), trivial⟩
theorem st_8 {v1 : Int32} {u1 : Int32} {t1 : Int32} {v2 : Int32} {u2 : Int32} {t2 : Int32} {M M1 M2 : mM} {r1 r2 : Int32} (h : RXz M.1) (hD : InvD M) (hF1 : FR S_c_X11_walker M M1) (hs1 : SP_X11_walker v1 u1 t1 M r1 M1) (hF2 : FR S_c_X12_walker M1 M2) (hs2 : SP_X12_walker v2 u2 t2 M1 r2 M2) : RXz M2.1 ∧ True := by
  refine ⟨RXz_t (T := [2]) (fun _ _ => False) h hF1 hF2 (KSP_X12_walker hs2) (Or.inl ((hF2 (12, 0, 0) 3 (by simp [S_c_X12_walker])).trans (hF1 (12, 0, 0) 3 (by simp [S_c_X11_walker])))) (fun _ _ _ _ _ e _ => e.elim) (RXz_n (fun c k q => by simp only [S_c_X11_walker, or_false] at q; omega) (fun c k q => by simp only [S_c_X12_walker, or_false] at q; omega) (fun x0_ x1_ q => by first | (simp [S_c_X11_walker] at q; done) | (simp [S_c_X11_walker] at q; omega)) (fun x0_ x1_ q => by first | (simp [S_c_X11_walker] at q; done) | (simp [S_c_X11_walker] at q; omega)) (fun x0_ x1_ x2_ x3_ q => by first | (simp [S_c_X11_walker] at q; done) | (simp [S_c_X11_walker] at q; omega)) (fun x0_ x1_ x2_ x3_ q => by first | (simp [S_c_X11_walker] at q; done) | (simp [S_c_X11_walker] at q; omega)) (fun x0_ x1_ x2_ x3_ q => by first | (simp [S_c_X11_walker] at q; done) | (simp [S_c_X11_walker] at q; omega)) (fun x0_ x1_ x2_ x3_ q => by first | (simp [S_c_X11_walker] at q; done) | (simp [S_c_X11_walker] at q; omega)) (fun q => by simp [S_c_X11_walker] at q) (fun x0_ x1_ x2_ x3_ q => by first | (simp [S_c_X11_walker] at q; done) | (simp [S_c_X11_walker] at q; omega)) (fun x0_ x1_ q => by first | (simp [S_c_X12_walker] at q; done) | (simp [S_c_X12_walker] at q; omega)) (fun q => by simp [S_c_X12_walker] at q) (fun x0_ x1_ q => by first | (simp [S_c_X12_walker] at q; done) | (simp [S_c_X12_walker] at q; omega)) (fun x0_ x1_ q => by first | (simp [S_c_X12_walker] at q; done) | (simp [S_c_X12_walker] at q; omega)) (fun j hj q => by first | (simp at q; done) | (simp at q; omega))), trivial⟩
theorem st_9 {v1 : Int32} {u1 : Int32} {v2 : Int32} {u2 : Int32} {M M1 M2 : mM} {r1 r2 : Int32} (h : RXz M.1) (hD : InvD M) (hF1 : FR S_c_X11_walkerIs M M1) (hs1 : SP_X11_walkerIs v1 u1 M r1 M1) (hF2 : FR S_c_X12_walkerIs M1 M2) (hs2 : SP_X12_walkerIs v2 u2 M1 r2 M2) : RXz M2.1 ∧ True := by
  refine ⟨RXz_t (T := []) (fun _ _ => False) h hF1 hF2 (kq_FR hF2 (by intro j q; simp [S_c_X12_walkerIs] at q)) (Or.inl ((hF2 (12, 0, 0) 3 (by simp [S_c_X12_walkerIs])).trans (hF1 (12, 0, 0) 3 (by simp [S_c_X11_walkerIs])))) (fun _ _ _ _ _ e _ => e.elim) (RXz_n (fun c k q => by simp only [S_c_X11_walkerIs, or_false] at q; omega) (fun c k q => by simp only [S_c_X12_walkerIs, or_false] at q; omega) (fun x0_ x1_ q => by first | (simp [S_c_X11_walkerIs] at q; done) | (simp [S_c_X11_walkerIs] at q; omega)) (fun x0_ x1_ q => by first | (simp [S_c_X11_walkerIs] at q; done) | (simp [S_c_X11_walkerIs] at q; omega)) (fun x0_ x1_ x2_ x3_ q => by first | (simp [S_c_X11_walkerIs] at q; done) | (simp [S_c_X11_walkerIs] at q; omega)) (fun x0_ x1_ x2_ x3_ q => by first | (simp [S_c_X11_walkerIs] at q; done) | (simp [S_c_X11_walkerIs] at q; omega)) (fun x0_ x1_ x2_ x3_ q => by first | (simp [S_c_X11_walkerIs] at q; done) | (simp [S_c_X11_walkerIs] at q; omega)) (fun x0_ x1_ x2_ x3_ q => by first | (simp [S_c_X11_walkerIs] at q; done) | (simp [S_c_X11_walkerIs] at q; omega)) (fun q => by simp [S_c_X11_walkerIs] at q) (fun x0_ x1_ x2_ x3_ q => by first | (simp [S_c_X11_walkerIs] at q; done) | (simp [S_c_X11_walkerIs] at q; omega)) (fun x0_ x1_ q => by first | (simp [S_c_X12_walkerIs] at q; done) | (simp [S_c_X12_walkerIs] at q; omega)) (fun q => by simp [S_c_X12_walkerIs] at q) (fun x0_ x1_ q => by first | (simp [S_c_X12_walkerIs] at q; done) | (simp [S_c_X12_walkerIs] at q; omega)) (fun x0_ x1_ q => by first | (simp [S_c_X12_walkerIs] at q; done) | (simp [S_c_X12_walkerIs] at q; omega)) (fun j hj q => by first | (simp at q; done) | (simp at q; omega))), trivial⟩
theorem st_10 {v1 : Int32} {u1 : Int32} {v2 : Int32} {u2 : Int32} {M M1 M2 : mM} {r1 r2 : Int32} (h : RXz M.1) (hD : InvD M) (hF1 : FR S_c_X11_as M M1) (hs1 : SP_X11_as v1 u1 M r1 M1) (hF2 : FR S_c_X12_as M1 M2) (hs2 : SP_X12_as v2 u2 M1 r2 M2) : RXz M2.1 ∧ True := by
  refine ⟨RXz_t (T := []) (fun _ _ => False) h hF1 hF2 (kq_FR hF2 (by intro j q; simp [S_c_X12_as] at q)) (Or.inl ((hF2 (12, 0, 0) 3 (by simp [S_c_X12_as])).trans (hF1 (12, 0, 0) 3 (by simp [S_c_X11_as])))) (fun _ _ _ _ _ e _ => e.elim) (RXz_n (fun c k q => by simp only [S_c_X11_as, or_false] at q; omega) (fun c k q => by simp only [S_c_X12_as, or_false] at q; omega) (fun x0_ x1_ q => by first | (simp [S_c_X11_as] at q; done) | (simp [S_c_X11_as] at q; omega)) (fun x0_ x1_ q => by first | (simp [S_c_X11_as] at q; done) | (simp [S_c_X11_as] at q; omega)) (fun x0_ x1_ x2_ x3_ q => by first | (simp [S_c_X11_as] at q; done) | (simp [S_c_X11_as] at q; omega)) (fun x0_ x1_ x2_ x3_ q => by first | (simp [S_c_X11_as] at q; done) | (simp [S_c_X11_as] at q; omega)) (fun x0_ x1_ x2_ x3_ q => by first | (simp [S_c_X11_as] at q; done) | (simp [S_c_X11_as] at q; omega)) (fun x0_ x1_ x2_ x3_ q => by first | (simp [S_c_X11_as] at q; done) | (simp [S_c_X11_as] at q; omega)) (fun q => by simp [S_c_X11_as] at q) (fun x0_ x1_ x2_ x3_ q => by first | (simp [S_c_X11_as] at q; done) | (simp [S_c_X11_as] at q; omega)) (fun x0_ x1_ q => by first | (simp [S_c_X12_as] at q; done) | (simp [S_c_X12_as] at q; omega)) (fun q => by simp [S_c_X12_as] at q) (fun x0_ x1_ q => by first | (simp [S_c_X12_as] at q; done) | (simp [S_c_X12_as] at q; omega)) (fun x0_ x1_ q => by first | (simp [S_c_X12_as] at q; done) | (simp [S_c_X12_as] at q; omega)) (fun j hj q => by first | (simp at q; done) | (simp at q; omega))), trivial⟩
theorem st_11 {v1 : Int32} {u1 : Int32} {t1 : Int32} {s1 : Int32} {v2 : Int32} {u2 : Int32} {t2 : Int32} {s2 : Int32} {M M1 M2 : mM} {r1 r2 : Int32} (h : RXz M.1) (hD : InvD M) (hF1 : FR S_c_X11_habit M M1) (hs1 : SP_X11_habit v1 u1 t1 s1 M r1 M1) (hF2 : FR S_c_X12_habit M1 M2) (hs2 : SP_X12_habit v2 u2 t2 s2 M1 r2 M2) : RXz M2.1 ∧ True := by
  refine ⟨RXz_t (T := []) (fun _ _ => False) h hF1 hF2 (KSP_X12_habit hs2) (Or.inl ((hF2 (12, 0, 0) 3 (by simp [S_c_X12_habit])).trans (hF1 (12, 0, 0) 3 (by simp [S_c_X11_habit])))) (fun _ _ _ _ _ e _ => e.elim) (RXz_n (fun c k q => by simp only [S_c_X11_habit, or_false] at q; omega) (fun c k q => by simp only [S_c_X12_habit, or_false] at q; omega) (fun x0_ x1_ q => by first | (simp [S_c_X11_habit] at q; done) | (simp [S_c_X11_habit] at q; omega)) (fun x0_ x1_ q => by first | (simp [S_c_X11_habit] at q; done) | (simp [S_c_X11_habit] at q; omega)) (fun x0_ x1_ x2_ x3_ q => by first | (simp [S_c_X11_habit] at q; done) | (simp [S_c_X11_habit] at q; omega)) (fun x0_ x1_ x2_ x3_ q => by first | (simp [S_c_X11_habit] at q; done) | (simp [S_c_X11_habit] at q; omega)) (fun x0_ x1_ x2_ x3_ q => by first | (simp [S_c_X11_habit] at q; done) | (simp [S_c_X11_habit] at q; omega)) (fun x0_ x1_ x2_ x3_ q => by first | (simp [S_c_X11_habit] at q; done) | (simp [S_c_X11_habit] at q; omega)) (fun q => by simp [S_c_X11_habit] at q) (fun x0_ x1_ x2_ x3_ q => by first | (simp [S_c_X11_habit] at q; done) | (simp [S_c_X11_habit] at q; omega)) (fun x0_ x1_ q => by first | (simp [S_c_X12_habit] at q; done) | (simp [S_c_X12_habit] at q; omega)) (fun q => by simp [S_c_X12_habit] at q) (fun x0_ x1_ q => by first | (simp [S_c_X12_habit] at q; done) | (simp [S_c_X12_habit] at q; omega)) (fun x0_ x1_ q => by first | (simp [S_c_X12_habit] at q; done) | (simp [S_c_X12_habit] at q; omega)) (fun j hj q => by first | (simp at q; done) | (simp at q; omega))), trivial⟩
theorem st_12 {v1 : Int32} {u1 : Int32} {v2 : Int32} {u2 : Int32} {M M1 M2 : mM} {r1 r2 : Int32} (h : RXz M.1) (hD : InvD M) (hF1 : FR S_c_X11_face M M1) (hs1 : SP_X11_face v1 u1 M r1 M1) (hF2 : FR S_c_X12_face M1 M2) (hs2 : SP_X12_face v2 u2 M1 r2 M2) : RXz M2.1 ∧ True := by
  refine ⟨RXz_t (T := []) (fun _ _ => False) h hF1 hF2 (KSP_X12_face hs2) (Or.inl ((hF2 (12, 0, 0) 3 (by simp [S_c_X12_face])).trans (hF1 (12, 0, 0) 3 (by simp [S_c_X11_face])))) (fun _ _ _ _ _ e _ => e.elim) (RXz_n (fun c k q => by simp only [S_c_X11_face, or_false] at q; omega) (fun c k q => by simp only [S_c_X12_face, or_false] at q; omega) (fun x0_ x1_ q => by first | (simp [S_c_X11_face] at q; done) | (simp [S_c_X11_face] at q; omega)) (fun x0_ x1_ q => by first | (simp [S_c_X11_face] at q; done) | (simp [S_c_X11_face] at q; omega)) (fun x0_ x1_ x2_ x3_ q => by first | (simp [S_c_X11_face] at q; done) | (simp [S_c_X11_face] at q; omega)) (fun x0_ x1_ x2_ x3_ q => by first | (simp [S_c_X11_face] at q; done) | (simp [S_c_X11_face] at q; omega)) (fun x0_ x1_ x2_ x3_ q => by first | (simp [S_c_X11_face] at q; done) | (simp [S_c_X11_face] at q; omega)) (fun x0_ x1_ x2_ x3_ q => by first | (simp [S_c_X11_face] at q; done) | (simp [S_c_X11_face] at q; omega)) (fun q => by simp [S_c_X11_face] at q) (fun x0_ x1_ x2_ x3_ q => by first | (simp [S_c_X11_face] at q; done) | (simp [S_c_X11_face] at q; omega)) (fun x0_ x1_ q => by first | (simp [S_c_X12_face] at q; done) | (simp [S_c_X12_face] at q; omega)) (fun q => by simp [S_c_X12_face] at q) (fun x0_ x1_ q => by first | (simp [S_c_X12_face] at q; done) | (simp [S_c_X12_face] at q; omega)) (fun x0_ x1_ q => by first | (simp [S_c_X12_face] at q; done) | (simp [S_c_X12_face] at q; omega)) (fun j hj q => by first | (simp at q; done) | (simp at q; omega))), trivial⟩
theorem st_13 {v1 : Int32} {u1 : Int32} {v2 : Int32} {u2 : Int32} {M M1 M2 : mM} {r1 r2 : Int32} (h : RXz M.1) (hD : InvD M) (hF1 : FR S_c_X11_goes M M1) (hs1 : SP_X11_goes v1 u1 M r1 M1) (hF2 : FR S_c_X12_goes M1 M2) (hs2 : SP_X12_goes v2 u2 M1 r2 M2) : RXz M2.1 ∧ True := by
  refine ⟨RXz_t (T := []) (fun _ _ => False) h hF1 hF2 (KSQ_X12_goes hs2) (Or.inl ((hF2 (12, 0, 0) 3 (by simp [S_c_X12_goes])).trans (hF1 (12, 0, 0) 3 (by simp [S_c_X11_goes])))) (fun _ _ _ _ _ e _ => e.elim) (RXz_n (fun c k q => by simp only [S_c_X11_goes, or_false] at q; omega) (fun c k q => by simp only [S_c_X12_goes, or_false] at q; omega) (fun x0_ x1_ q => by first | (simp [S_c_X11_goes] at q; done) | (simp [S_c_X11_goes] at q; omega)) (fun x0_ x1_ q => by first | (simp [S_c_X11_goes] at q; done) | (simp [S_c_X11_goes] at q; omega)) (fun x0_ x1_ x2_ x3_ q => by first | (simp [S_c_X11_goes] at q; done) | (simp [S_c_X11_goes] at q; omega)) (fun x0_ x1_ x2_ x3_ q => by first | (simp [S_c_X11_goes] at q; done) | (simp [S_c_X11_goes] at q; omega)) (fun x0_ x1_ x2_ x3_ q => by first | (simp [S_c_X11_goes] at q; done) | (simp [S_c_X11_goes] at q; omega)) (fun x0_ x1_ x2_ x3_ q => by first | (simp [S_c_X11_goes] at q; done) | (simp [S_c_X11_goes] at q; omega)) (fun q => by simp [S_c_X11_goes] at q) (fun x0_ x1_ x2_ x3_ q => by first | (simp [S_c_X11_goes] at q; done) | (simp [S_c_X11_goes] at q; omega)) (fun x0_ x1_ q => by first | (simp [S_c_X12_goes] at q; done) | (simp [S_c_X12_goes] at q; omega)) (fun q => by simp [S_c_X12_goes] at q) (fun x0_ x1_ q => by first | (simp [S_c_X12_goes] at q; done) | (simp [S_c_X12_goes] at q; omega)) (fun x0_ x1_ q => by first | (simp [S_c_X12_goes] at q; done) | (simp [S_c_X12_goes] at q; omega)) (fun j hj q => by first | (simp at q; done) | (simp at q; omega))), trivial⟩
theorem st_16 {v1 : Int32} {u1 : Int32} {t1 : Int32} {s1 : Int32} {v2 : Int32} {u2 : Int32} {t2 : Int32} {s2 : Int32} {M M1 M2 : mM} {r1 r2 : Int32} (h : RXz M.1) (hD : InvD M) (hF1 : FR S_c_X11_echo M M1) (hs1 : SP_X11_echo v1 u1 t1 s1 M r1 M1) (hF2 : FR S_c_X12_echo M1 M2) (hs2 : SP_X12_echo v2 u2 t2 s2 M1 r2 M2) : RXz M2.1 ∧ True := by
  refine ⟨RXz_t (T := []) (fun _ _ => False) h hF1 hF2 (kq_FR hF2 (by intro j q; simp [S_c_X12_echo] at q)) (Or.inl ((hF2 (12, 0, 0) 3 (by simp [S_c_X12_echo])).trans (hF1 (12, 0, 0) 3 (by simp [S_c_X11_echo])))) (fun _ _ _ _ _ e _ => e.elim) (RXz_n (fun c k q => by simp only [S_c_X11_echo, or_false] at q; omega) (fun c k q => by simp only [S_c_X12_echo, or_false] at q; omega) (fun x0_ x1_ q => by first | (simp [S_c_X11_echo] at q; done) | (simp [S_c_X11_echo] at q; omega)) (fun x0_ x1_ q => by first | (simp [S_c_X11_echo] at q; done) | (simp [S_c_X11_echo] at q; omega)) (fun x0_ x1_ x2_ x3_ q => by first | (simp [S_c_X11_echo] at q; done) | (simp [S_c_X11_echo] at q; omega)) (fun x0_ x1_ x2_ x3_ q => by first | (simp [S_c_X11_echo] at q; done) | (simp [S_c_X11_echo] at q; omega)) (fun x0_ x1_ x2_ x3_ q => by first | (simp [S_c_X11_echo] at q; done) | (simp [S_c_X11_echo] at q; omega)) (fun x0_ x1_ x2_ x3_ q => by first | (simp [S_c_X11_echo] at q; done) | (simp [S_c_X11_echo] at q; omega)) (fun q => by simp [S_c_X11_echo] at q) (fun x0_ x1_ x2_ x3_ q => by first | (simp [S_c_X11_echo] at q; done) | (simp [S_c_X11_echo] at q; omega)) (fun x0_ x1_ q => by first | (simp [S_c_X12_echo] at q; done) | (simp [S_c_X12_echo] at q; omega)) (fun q => by simp [S_c_X12_echo] at q) (fun x0_ x1_ q => by first | (simp [S_c_X12_echo] at q; done) | (simp [S_c_X12_echo] at q; omega)) (fun x0_ x1_ q => by first | (simp [S_c_X12_echo] at q; done) | (simp [S_c_X12_echo] at q; omega)) (fun j hj q => by first | (simp at q; done) | (simp at q; omega))), trivial⟩
theorem st_17 {v1 : Int32} {v2 : Int32} {M M1 M2 : mM} {r1 r2 : Int32} (h : RXz M.1) (hD : InvD M) (hF1 : FR S_c_X11_click M M1) (hs1 : SP_X11_click v1 M r1 M1) (hF2 : FR S_c_X12_click M1 M2) (hs2 : SP_X12_click v2 M1 r2 M2) : RXz M2.1 ∧ True := by
  refine ⟨RXz_t (T := []) (fun _ _ => False) h hF1 hF2 (KSP_X12_click hs2) (Or.inl ((hF2 (12, 0, 0) 3 (by simp [S_c_X12_click])).trans (hF1 (12, 0, 0) 3 (by simp [S_c_X11_click])))) (fun _ _ _ _ _ e _ => e.elim) (RXz_n (fun c k q => by simp only [S_c_X11_click, or_false] at q; omega) (fun c k q => by simp only [S_c_X12_click, or_false] at q; omega) (fun x0_ x1_ q => by first | (simp [S_c_X11_click] at q; done) | (simp [S_c_X11_click] at q; omega)) (fun x0_ x1_ q => by first | (simp [S_c_X11_click] at q; done) | (simp [S_c_X11_click] at q; omega)) (fun x0_ x1_ x2_ x3_ q => by first | (simp [S_c_X11_click] at q; done) | (simp [S_c_X11_click] at q; omega)) (fun x0_ x1_ x2_ x3_ q => by first | (simp [S_c_X11_click] at q; done) | (simp [S_c_X11_click] at q; omega)) (fun x0_ x1_ x2_ x3_ q => by first | (simp [S_c_X11_click] at q; done) | (simp [S_c_X11_click] at q; omega)) (fun x0_ x1_ x2_ x3_ q => by first | (simp [S_c_X11_click] at q; done) | (simp [S_c_X11_click] at q; omega)) (fun q => by simp [S_c_X11_click] at q) (fun x0_ x1_ x2_ x3_ q => by first | (simp [S_c_X11_click] at q; done) | (simp [S_c_X11_click] at q; omega)) (fun x0_ x1_ q => by first | (simp [S_c_X12_click] at q; done) | (simp [S_c_X12_click] at q; omega)) (fun q => by simp [S_c_X12_click] at q) (fun x0_ x1_ q => by first | (simp [S_c_X12_click] at q; done) | (simp [S_c_X12_click] at q; omega)) (fun x0_ x1_ q => by first | (simp [S_c_X12_click] at q; done) | (simp [S_c_X12_click] at q; omega)) (fun j hj q => by first | (simp at q; done) | (simp at q; omega))), trivial⟩
theorem st_18 {v1 : Int32} {u1 : Int32} {t1 : Int32} {v2 : Int32} {u2 : Int32} {t2 : Int32} {M M1 M2 : mM} {r1 r2 : Int32} (h : RXz M.1) (hD : InvD M) (hF1 : FR S_c_X11_head M M1) (hs1 : SP_X11_head v1 u1 t1 M r1 M1) (hF2 : FR S_c_X12_head M1 M2) (hs2 : SP_X12_head v2 u2 t2 M1 r2 M2) : RXz M2.1 ∧ True := by
  refine ⟨RXz_t (T := []) (fun _ _ => False) h hF1 hF2 (kq_FR hF2 (by intro j q; simp [S_c_X12_head] at q)) (Or.inl ((hF2 (12, 0, 0) 3 (by simp [S_c_X12_head])).trans (hF1 (12, 0, 0) 3 (by simp [S_c_X11_head])))) (fun _ _ _ _ _ e _ => e.elim) (RXz_n (fun c k q => by simp only [S_c_X11_head, or_false] at q; omega) (fun c k q => by simp only [S_c_X12_head, or_false] at q; omega) (fun x0_ x1_ q => by first | (simp [S_c_X11_head] at q; done) | (simp [S_c_X11_head] at q; omega)) (fun x0_ x1_ q => by first | (simp [S_c_X11_head] at q; done) | (simp [S_c_X11_head] at q; omega)) (fun x0_ x1_ x2_ x3_ q => by first | (simp [S_c_X11_head] at q; done) | (simp [S_c_X11_head] at q; omega)) (fun x0_ x1_ x2_ x3_ q => by first | (simp [S_c_X11_head] at q; done) | (simp [S_c_X11_head] at q; omega)) (fun x0_ x1_ x2_ x3_ q => by first | (simp [S_c_X11_head] at q; done) | (simp [S_c_X11_head] at q; omega)) (fun x0_ x1_ x2_ x3_ q => by first | (simp [S_c_X11_head] at q; done) | (simp [S_c_X11_head] at q; omega)) (fun q => by simp [S_c_X11_head] at q) (fun x0_ x1_ x2_ x3_ q => by first | (simp [S_c_X11_head] at q; done) | (simp [S_c_X11_head] at q; omega)) (fun x0_ x1_ q => by first | (simp [S_c_X12_head] at q; done) | (simp [S_c_X12_head] at q; omega)) (fun q => by simp [S_c_X12_head] at q) (fun x0_ x1_ q => by first | (simp [S_c_X12_head] at q; done) | (simp [S_c_X12_head] at q; omega)) (fun x0_ x1_ q => by first | (simp [S_c_X12_head] at q; done) | (simp [S_c_X12_head] at q; omega)) (fun j hj q => by first | (simp at q; done) | (simp at q; omega))), trivial⟩
theorem st_19 {v1 : Int32} {u1 : Int32} {v2 : Int32} {u2 : Int32} {M M1 M2 : mM} {r1 r2 : Int32} (h : RXz M.1) (hD : InvD M) (hF1 : FR S_c_X11_heads M M1) (hs1 : SP_X11_heads v1 u1 M r1 M1) (hF2 : FR S_c_X12_heads M1 M2) (hs2 : SP_X12_heads v2 u2 M1 r2 M2) : RXz M2.1 ∧ True := by
  refine ⟨RXz_t (T := []) (fun _ _ => False) h hF1 hF2 (kq_FR hF2 (by intro j q; simp [S_c_X12_heads] at q)) (Or.inl ((hF2 (12, 0, 0) 3 (by simp [S_c_X12_heads])).trans (hF1 (12, 0, 0) 3 (by simp [S_c_X11_heads])))) (fun _ _ _ _ _ e _ => e.elim) (RXz_n (fun c k q => by simp only [S_c_X11_heads, or_false] at q; omega) (fun c k q => by simp only [S_c_X12_heads, or_false] at q; omega) (fun x0_ x1_ q => by first | (simp [S_c_X11_heads] at q; done) | (simp [S_c_X11_heads] at q; omega)) (fun x0_ x1_ q => by first | (simp [S_c_X11_heads] at q; done) | (simp [S_c_X11_heads] at q; omega)) (fun x0_ x1_ x2_ x3_ q => by first | (simp [S_c_X11_heads] at q; done) | (simp [S_c_X11_heads] at q; omega)) (fun x0_ x1_ x2_ x3_ q => by first | (simp [S_c_X11_heads] at q; done) | (simp [S_c_X11_heads] at q; omega)) (fun x0_ x1_ x2_ x3_ q => by first | (simp [S_c_X11_heads] at q; done) | (simp [S_c_X11_heads] at q; omega)) (fun x0_ x1_ x2_ x3_ q => by first | (simp [S_c_X11_heads] at q; done) | (simp [S_c_X11_heads] at q; omega)) (fun q => by simp [S_c_X11_heads] at q) (fun x0_ x1_ x2_ x3_ q => by first | (simp [S_c_X11_heads] at q; done) | (simp [S_c_X11_heads] at q; omega)) (fun x0_ x1_ q => by first | (simp [S_c_X12_heads] at q; done) | (simp [S_c_X12_heads] at q; omega)) (fun q => by simp [S_c_X12_heads] at q) (fun x0_ x1_ q => by first | (simp [S_c_X12_heads] at q; done) | (simp [S_c_X12_heads] at q; omega)) (fun x0_ x1_ q => by first | (simp [S_c_X12_heads] at q; done) | (simp [S_c_X12_heads] at q; omega)) (fun j hj q => by first | (simp at q; done) | (simp at q; omega))), trivial⟩
theorem st_20 {v1 : Int32} {u1 : Int32} {t1 : Int32} {s1 : Int32} {q1 : Int32} {v2 : Int32} {u2 : Int32} {t2 : Int32} {s2 : Int32} {q2 : Int32} {M M1 M2 : mM} {r1 r2 : Int32} (h : RXz M.1) (hD : InvD M) (hF1 : FR S_c_X11_alike M M1) (hs1 : SP_X11_alike v1 u1 t1 s1 q1 M r1 M1) (hF2 : FR S_c_X12_alike M1 M2) (hs2 : SP_X12_alike v2 u2 t2 s2 q2 M1 r2 M2) : RXz M2.1 ∧ True := by
  refine ⟨RXz_t (T := []) (fun _ _ => False) h hF1 hF2 (kq_FR hF2 (by intro j q; simp [S_c_X12_alike] at q)) (Or.inl ((hF2 (12, 0, 0) 3 (by simp [S_c_X12_alike])).trans (hF1 (12, 0, 0) 3 (by simp [S_c_X11_alike])))) (fun _ _ _ _ _ e _ => e.elim) (RXz_n (fun c k q => by simp only [S_c_X11_alike, or_false] at q; omega) (fun c k q => by simp only [S_c_X12_alike, or_false] at q; omega) (fun x0_ x1_ q => by first | (simp [S_c_X11_alike] at q; done) | (simp [S_c_X11_alike] at q; omega)) (fun x0_ x1_ q => by first | (simp [S_c_X11_alike] at q; done) | (simp [S_c_X11_alike] at q; omega)) (fun x0_ x1_ x2_ x3_ q => by first | (simp [S_c_X11_alike] at q; done) | (simp [S_c_X11_alike] at q; omega)) (fun x0_ x1_ x2_ x3_ q => by first | (simp [S_c_X11_alike] at q; done) | (simp [S_c_X11_alike] at q; omega)) (fun x0_ x1_ x2_ x3_ q => by first | (simp [S_c_X11_alike] at q; done) | (simp [S_c_X11_alike] at q; omega)) (fun x0_ x1_ x2_ x3_ q => by first | (simp [S_c_X11_alike] at q; done) | (simp [S_c_X11_alike] at q; omega)) (fun q => by simp [S_c_X11_alike] at q) (fun x0_ x1_ x2_ x3_ q => by first | (simp [S_c_X11_alike] at q; done) | (simp [S_c_X11_alike] at q; omega)) (fun x0_ x1_ q => by first | (simp [S_c_X12_alike] at q; done) | (simp [S_c_X12_alike] at q; omega)) (fun q => by simp [S_c_X12_alike] at q) (fun x0_ x1_ q => by first | (simp [S_c_X12_alike] at q; done) | (simp [S_c_X12_alike] at q; omega)) (fun x0_ x1_ q => by first | (simp [S_c_X12_alike] at q; done) | (simp [S_c_X12_alike] at q; omega)) (fun j hj q => by first | (simp at q; done) | (simp at q; omega))), trivial⟩
theorem st_21 {v1 : Int32} {u1 : Int32} {t1 : Int32} {s1 : Int32} {v2 : Int32} {u2 : Int32} {t2 : Int32} {s2 : Int32} {M M1 M2 : mM} {r1 r2 : Int32} (h : RXz M.1) (hD : InvD M) (hF1 : FR S_c_X11_least M M1) (hs1 : SP_X11_least v1 u1 t1 s1 M r1 M1) (hF2 : FR S_c_X12_least M1 M2) (hs2 : SP_X12_least v2 u2 t2 s2 M1 r2 M2) : RXz M2.1 ∧ True := by
  refine ⟨RXz_t (T := []) (fun _ _ => False) h hF1 hF2 (kq_FR hF2 (by intro j q; simp [S_c_X12_least] at q)) (Or.inl ((hF2 (12, 0, 0) 3 (by simp [S_c_X12_least])).trans (hF1 (12, 0, 0) 3 (by simp [S_c_X11_least])))) (fun _ _ _ _ _ e _ => e.elim) (RXz_n (fun c k q => by simp only [S_c_X11_least, or_false] at q; omega) (fun c k q => by simp only [S_c_X12_least, or_false] at q; omega) (fun x0_ x1_ q => by first | (simp [S_c_X11_least] at q; done) | (simp [S_c_X11_least] at q; omega)) (fun x0_ x1_ q => by first | (simp [S_c_X11_least] at q; done) | (simp [S_c_X11_least] at q; omega)) (fun x0_ x1_ x2_ x3_ q => by first | (simp [S_c_X11_least] at q; done) | (simp [S_c_X11_least] at q; omega)) (fun x0_ x1_ x2_ x3_ q => by first | (simp [S_c_X11_least] at q; done) | (simp [S_c_X11_least] at q; omega)) (fun x0_ x1_ x2_ x3_ q => by first | (simp [S_c_X11_least] at q; done) | (simp [S_c_X11_least] at q; omega)) (fun x0_ x1_ x2_ x3_ q => by first | (simp [S_c_X11_least] at q; done) | (simp [S_c_X11_least] at q; omega)) (fun q => by simp [S_c_X11_least] at q) (fun x0_ x1_ x2_ x3_ q => by first | (simp [S_c_X11_least] at q; done) | (simp [S_c_X11_least] at q; omega)) (fun x0_ x1_ q => by first | (simp [S_c_X12_least] at q; done) | (simp [S_c_X12_least] at q; omega)) (fun q => by simp [S_c_X12_least] at q) (fun x0_ x1_ q => by first | (simp [S_c_X12_least] at q; done) | (simp [S_c_X12_least] at q; omega)) (fun x0_ x1_ q => by first | (simp [S_c_X12_least] at q; done) | (simp [S_c_X12_least] at q; omega)) (fun j hj q => by first | (simp at q; done) | (simp at q; omega))), trivial⟩
theorem st_22 {v1 : Int32} {u1 : Int32} {t1 : Int32} {v2 : Int32} {u2 : Int32} {t2 : Int32} {M M1 M2 : mM} {r1 r2 : Int32} (h : RXz M.1) (hD : InvD M) (hF1 : FR S_c_X11_farthest M M1) (hs1 : SP_X11_farthest v1 u1 t1 M r1 M1) (hF2 : FR S_c_X12_farthest M1 M2) (hs2 : SP_X12_farthest v2 u2 t2 M1 r2 M2) : RXz M2.1 ∧ True := by
  refine ⟨RXz_t (T := []) (fun _ _ => False) h hF1 hF2 (kq_FR hF2 (by intro j q; simp [S_c_X12_farthest] at q)) (Or.inl ((hF2 (12, 0, 0) 3 (by simp [S_c_X12_farthest])).trans (hF1 (12, 0, 0) 3 (by simp [S_c_X11_farthest])))) (fun _ _ _ _ _ e _ => e.elim) (RXz_n (fun c k q => by simp only [S_c_X11_farthest, or_false] at q; omega) (fun c k q => by simp only [S_c_X12_farthest, or_false] at q; omega) (fun x0_ x1_ q => by first | (simp [S_c_X11_farthest] at q; done) | (simp [S_c_X11_farthest] at q; omega)) (fun x0_ x1_ q => by first | (simp [S_c_X11_farthest] at q; done) | (simp [S_c_X11_farthest] at q; omega)) (fun x0_ x1_ x2_ x3_ q => by first | (simp [S_c_X11_farthest] at q; done) | (simp [S_c_X11_farthest] at q; omega)) (fun x0_ x1_ x2_ x3_ q => by first | (simp [S_c_X11_farthest] at q; done) | (simp [S_c_X11_farthest] at q; omega)) (fun x0_ x1_ x2_ x3_ q => by first | (simp [S_c_X11_farthest] at q; done) | (simp [S_c_X11_farthest] at q; omega)) (fun x0_ x1_ x2_ x3_ q => by first | (simp [S_c_X11_farthest] at q; done) | (simp [S_c_X11_farthest] at q; omega)) (fun q => by simp [S_c_X11_farthest] at q) (fun x0_ x1_ x2_ x3_ q => by first | (simp [S_c_X11_farthest] at q; done) | (simp [S_c_X11_farthest] at q; omega)) (fun x0_ x1_ q => by first | (simp [S_c_X12_farthest] at q; done) | (simp [S_c_X12_farthest] at q; omega)) (fun q => by simp [S_c_X12_farthest] at q) (fun x0_ x1_ q => by first | (simp [S_c_X12_farthest] at q; done) | (simp [S_c_X12_farthest] at q; omega)) (fun x0_ x1_ q => by first | (simp [S_c_X12_farthest] at q; done) | (simp [S_c_X12_farthest] at q; omega)) (fun j hj q => by first | (simp at q; done) | (simp at q; omega))), trivial⟩
theorem st_23 {v1 : Int32} {u1 : Int32} {t1 : Int32} {s1 : Int32} {v2 : Int32} {u2 : Int32} {t2 : Int32} {s2 : Int32} {M M1 M2 : mM} {r1 r2 : Int32} (h : RXz M.1) (hD : InvD M) (hF1 : FR S_c_X11_spots M M1) (hs1 : SP_X11_spots v1 u1 t1 s1 M r1 M1) (hF2 : FR S_c_X12_spots M1 M2) (hs2 : SP_X12_spots v2 u2 t2 s2 M1 r2 M2) : RXz M2.1 ∧ True := by
  refine ⟨RXz_t (T := []) (fun _ _ => False) h hF1 hF2 (kq_FR hF2 (by intro j q; simp [S_c_X12_spots] at q)) (Or.inl ((hF2 (12, 0, 0) 3 (by simp [S_c_X12_spots])).trans (hF1 (12, 0, 0) 3 (by simp [S_c_X11_spots])))) (fun _ _ _ _ _ e _ => e.elim) (RXz_n (fun c k q => by simp only [S_c_X11_spots, or_false] at q; omega) (fun c k q => by simp only [S_c_X12_spots, or_false] at q; omega) (fun x0_ x1_ q => by first | (simp [S_c_X11_spots] at q; done) | (simp [S_c_X11_spots] at q; omega)) (fun x0_ x1_ q => by first | (simp [S_c_X11_spots] at q; done) | (simp [S_c_X11_spots] at q; omega)) (fun x0_ x1_ x2_ x3_ q => by first | (simp [S_c_X11_spots] at q; done) | (simp [S_c_X11_spots] at q; omega)) (fun x0_ x1_ x2_ x3_ q => by first | (simp [S_c_X11_spots] at q; done) | (simp [S_c_X11_spots] at q; omega)) (fun x0_ x1_ x2_ x3_ q => by first | (simp [S_c_X11_spots] at q; done) | (simp [S_c_X11_spots] at q; omega)) (fun x0_ x1_ x2_ x3_ q => by first | (simp [S_c_X11_spots] at q; done) | (simp [S_c_X11_spots] at q; omega)) (fun q => by simp [S_c_X11_spots] at q) (fun x0_ x1_ x2_ x3_ q => by first | (simp [S_c_X11_spots] at q; done) | (simp [S_c_X11_spots] at q; omega)) (fun x0_ x1_ q => by first | (simp [S_c_X12_spots] at q; done) | (simp [S_c_X12_spots] at q; omega)) (fun q => by simp [S_c_X12_spots] at q) (fun x0_ x1_ q => by first | (simp [S_c_X12_spots] at q; done) | (simp [S_c_X12_spots] at q; omega)) (fun x0_ x1_ q => by first | (simp [S_c_X12_spots] at q; done) | (simp [S_c_X12_spots] at q; omega)) (fun j hj q => by first | (simp at q; done) | (simp at q; omega))), trivial⟩
theorem st_25 {v1 : Int32} {u1 : Int32} {t1 : Int32} {v2 : Int32} {u2 : Int32} {t2 : Int32} {M M1 M2 : mM} {r1 r2 : Int32} (h : RXz M.1) (hD : InvD M) (hF1 : FR S_c_X11_way M M1) (hs1 : SP_X11_way v1 u1 t1 M r1 M1) (hF2 : FR S_c_X12_way M1 M2) (hs2 : SP_X12_way v2 u2 t2 M1 r2 M2) : RXz M2.1 ∧ True := by
  refine ⟨RXz_t (T := []) (fun _ _ => False) h hF1 hF2 (kq_FR hF2 (by intro j q; simp [S_c_X12_way] at q)) (Or.inl ((hF2 (12, 0, 0) 3 (by simp [S_c_X12_way])).trans (hF1 (12, 0, 0) 3 (by simp [S_c_X11_way])))) (fun _ _ _ _ _ e _ => e.elim) (RXz_n (fun c k q => by simp only [S_c_X11_way, or_false] at q; omega) (fun c k q => by simp only [S_c_X12_way, or_false] at q; omega) (fun x0_ x1_ q => by first | (simp [S_c_X11_way] at q; done) | (simp [S_c_X11_way] at q; omega)) (fun x0_ x1_ q => by first | (simp [S_c_X11_way] at q; done) | (simp [S_c_X11_way] at q; omega)) (fun x0_ x1_ x2_ x3_ q => by first | (simp [S_c_X11_way] at q; done) | (simp [S_c_X11_way] at q; omega)) (fun x0_ x1_ x2_ x3_ q => by first | (simp [S_c_X11_way] at q; done) | (simp [S_c_X11_way] at q; omega)) (fun x0_ x1_ x2_ x3_ q => by first | (simp [S_c_X11_way] at q; done) | (simp [S_c_X11_way] at q; omega)) (fun x0_ x1_ x2_ x3_ q => by first | (simp [S_c_X11_way] at q; done) | (simp [S_c_X11_way] at q; omega)) (fun q => by simp [S_c_X11_way] at q) (fun x0_ x1_ x2_ x3_ q => by first | (simp [S_c_X11_way] at q; done) | (simp [S_c_X11_way] at q; omega)) (fun x0_ x1_ q => by first | (simp [S_c_X12_way] at q; done) | (simp [S_c_X12_way] at q; omega)) (fun q => by simp [S_c_X12_way] at q) (fun x0_ x1_ q => by first | (simp [S_c_X12_way] at q; done) | (simp [S_c_X12_way] at q; omega)) (fun x0_ x1_ q => by first | (simp [S_c_X12_way] at q; done) | (simp [S_c_X12_way] at q; omega)) (fun j hj q => by first | (simp at q; done) | (simp at q; omega))), trivial⟩
theorem st_26 {v1 : Int32} {v2 : Int32} {M M1 M2 : mM} {r1 r2 : Int32} (h : RXz M.1) (hD : InvD M) (hF1 : FR S_c_X11_safe M M1) (hs1 : SP_X11_safe v1 M r1 M1) (hF2 : FR S_c_X12_safe M1 M2) (hs2 : SP_X12_safe v2 M1 r2 M2) : RXz M2.1 ∧ True := by
  refine ⟨RXz_t (T := []) (fun _ _ => False) h hF1 hF2 (kq_FR hF2 (by intro j q; simp [S_c_X12_safe] at q)) (Or.inl ((hF2 (12, 0, 0) 3 (by simp [S_c_X12_safe])).trans (hF1 (12, 0, 0) 3 (by simp [S_c_X11_safe])))) (fun _ _ _ _ _ e _ => e.elim) (RXz_n (fun c k q => by simp only [S_c_X11_safe, or_false] at q; omega) (fun c k q => by simp only [S_c_X12_safe, or_false] at q; omega) (fun x0_ x1_ q => by first | (simp [S_c_X11_safe] at q; done) | (simp [S_c_X11_safe] at q; omega)) (fun x0_ x1_ q => by first | (simp [S_c_X11_safe] at q; done) | (simp [S_c_X11_safe] at q; omega)) (fun x0_ x1_ x2_ x3_ q => by first | (simp [S_c_X11_safe] at q; done) | (simp [S_c_X11_safe] at q; omega)) (fun x0_ x1_ x2_ x3_ q => by first | (simp [S_c_X11_safe] at q; done) | (simp [S_c_X11_safe] at q; omega)) (fun x0_ x1_ x2_ x3_ q => by first | (simp [S_c_X11_safe] at q; done) | (simp [S_c_X11_safe] at q; omega)) (fun x0_ x1_ x2_ x3_ q => by first | (simp [S_c_X11_safe] at q; done) | (simp [S_c_X11_safe] at q; omega)) (fun q => by simp [S_c_X11_safe] at q) (fun x0_ x1_ x2_ x3_ q => by first | (simp [S_c_X11_safe] at q; done) | (simp [S_c_X11_safe] at q; omega)) (fun x0_ x1_ q => by first | (simp [S_c_X12_safe] at q; done) | (simp [S_c_X12_safe] at q; omega)) (fun q => by simp [S_c_X12_safe] at q) (fun x0_ x1_ q => by first | (simp [S_c_X12_safe] at q; done) | (simp [S_c_X12_safe] at q; omega)) (fun x0_ x1_ q => by first | (simp [S_c_X12_safe] at q; done) | (simp [S_c_X12_safe] at q; omega)) (fun j hj q => by first | (simp at q; done) | (simp at q; omega))), trivial⟩
theorem st_28 {v1 : Int32} {u1 : Int32} {t1 : Int32} {v2 : Int32} {u2 : Int32} {t2 : Int32} {M M1 M2 : mM} {r1 r2 : Int32} (h : RXz M.1) (hD : InvD M) (hF1 : FR S_c_X11_learn M M1) (hs1 : SP_X11_learn v1 u1 t1 M r1 M1) (hF2 : FR S_c_X12_learn M1 M2) (hs2 : SP_X12_learn v2 u2 t2 M1 r2 M2) : RXz M2.1 ∧ True := by
  refine ⟨RXz_t (T := []) (fun _ _ => False) h hF1 hF2 (kq_FR hF2 (by intro j q; simp [S_c_X12_learn] at q)) (Or.inl ((hF2 (12, 0, 0) 3 (by simp [S_c_X12_learn])).trans (hF1 (12, 0, 0) 3 (by simp [S_c_X11_learn])))) (fun _ _ _ _ _ e _ => e.elim) (RXz_n (fun c k q => by simp only [S_c_X11_learn, or_false] at q; omega) (fun c k q => by simp only [S_c_X12_learn, or_false] at q; omega) (fun x0_ x1_ q => by first | (simp [S_c_X11_learn] at q; done) | (simp [S_c_X11_learn] at q; omega)) (fun x0_ x1_ q => by first | (simp [S_c_X11_learn] at q; done) | (simp [S_c_X11_learn] at q; omega)) (fun x0_ x1_ x2_ x3_ q => by first | (simp [S_c_X11_learn] at q; done) | (simp [S_c_X11_learn] at q; omega)) (fun x0_ x1_ x2_ x3_ q => by first | (simp [S_c_X11_learn] at q; done) | (simp [S_c_X11_learn] at q; omega)) (fun x0_ x1_ x2_ x3_ q => by first | (simp [S_c_X11_learn] at q; done) | (simp [S_c_X11_learn] at q; omega)) (fun x0_ x1_ x2_ x3_ q => by first | (simp [S_c_X11_learn] at q; done) | (simp [S_c_X11_learn] at q; omega)) (fun q => by simp [S_c_X11_learn] at q) (fun x0_ x1_ x2_ x3_ q => by first | (simp [S_c_X11_learn] at q; done) | (simp [S_c_X11_learn] at q; omega)) (fun x0_ x1_ q => by first | (simp [S_c_X12_learn] at q; done) | (simp [S_c_X12_learn] at q; omega)) (fun q => by simp [S_c_X12_learn] at q) (fun x0_ x1_ q => by first | (simp [S_c_X12_learn] at q; done) | (simp [S_c_X12_learn] at q; omega)) (fun x0_ x1_ q => by first | (simp [S_c_X12_learn] at q; done) | (simp [S_c_X12_learn] at q; omega)) (fun j hj q => by first | (simp at q; done) | (simp at q; omega))), trivial⟩
theorem st_29 {v1 : Int32} {u1 : Int32} {t1 : Int32} {s1 : Int32} {v2 : Int32} {u2 : Int32} {t2 : Int32} {s2 : Int32} {M M1 M2 : mM} {r1 r2 : Int32} (h : RXz M.1) (hD : InvD M) (hF1 : FR S_c_X11_posts M M1) (hs1 : SP_X11_posts v1 u1 t1 s1 M r1 M1) (hF2 : FR S_c_X12_posts M1 M2) (hs2 : SP_X12_posts v2 u2 t2 s2 M1 r2 M2) : RXz M2.1 ∧ True := by
  refine ⟨RXz_t (T := []) (fun _ _ => False) h hF1 hF2 (kq_FR hF2 (by intro j q; simp [S_c_X12_posts] at q)) (Or.inl ((hF2 (12, 0, 0) 3 (by simp [S_c_X12_posts])).trans (hF1 (12, 0, 0) 3 (by simp [S_c_X11_posts])))) (fun _ _ _ _ _ e _ => e.elim) (RXz_n (fun c k q => by simp only [S_c_X11_posts, or_false] at q; omega) (fun c k q => by simp only [S_c_X12_posts, or_false] at q; omega) (fun x0_ x1_ q => by first | (simp [S_c_X11_posts] at q; done) | (simp [S_c_X11_posts] at q; omega)) (fun x0_ x1_ q => by first | (simp [S_c_X11_posts] at q; done) | (simp [S_c_X11_posts] at q; omega)) (fun x0_ x1_ x2_ x3_ q => by first | (simp [S_c_X11_posts] at q; done) | (simp [S_c_X11_posts] at q; omega)) (fun x0_ x1_ x2_ x3_ q => by first | (simp [S_c_X11_posts] at q; done) | (simp [S_c_X11_posts] at q; omega)) (fun x0_ x1_ x2_ x3_ q => by first | (simp [S_c_X11_posts] at q; done) | (simp [S_c_X11_posts] at q; omega)) (fun x0_ x1_ x2_ x3_ q => by first | (simp [S_c_X11_posts] at q; done) | (simp [S_c_X11_posts] at q; omega)) (fun q => by simp [S_c_X11_posts] at q) (fun x0_ x1_ x2_ x3_ q => by first | (simp [S_c_X11_posts] at q; done) | (simp [S_c_X11_posts] at q; omega)) (fun x0_ x1_ q => by first | (simp [S_c_X12_posts] at q; done) | (simp [S_c_X12_posts] at q; omega)) (fun q => by simp [S_c_X12_posts] at q) (fun x0_ x1_ q => by first | (simp [S_c_X12_posts] at q; done) | (simp [S_c_X12_posts] at q; omega)) (fun x0_ x1_ q => by first | (simp [S_c_X12_posts] at q; done) | (simp [S_c_X12_posts] at q; omega)) (fun j hj q => by first | (simp at q; done) | (simp at q; omega))), trivial⟩
theorem st_30 {v1 : Int32} {u1 : Int32} {t1 : Int32} {v2 : Int32} {u2 : Int32} {t2 : Int32} {M M1 M2 : mM} {r1 r2 : Int32} (h : RXz M.1) (hD : InvD M) (hF1 : FR S_c_X11_voice M M1) (hs1 : SP_X11_voice v1 u1 t1 M r1 M1) (hF2 : FR S_c_X12_voice M1 M2) (hs2 : SP_X12_voice v2 u2 t2 M1 r2 M2) : RXz M2.1 ∧ True := by
  refine ⟨RXz_t (T := []) (fun _ _ => False) h hF1 hF2 (kq_FR hF2 (by intro j q; simp [S_c_X12_voice] at q)) (Or.inl ((hF2 (12, 0, 0) 3 (by simp [S_c_X12_voice])).trans (hF1 (12, 0, 0) 3 (by simp [S_c_X11_voice])))) (fun _ _ _ _ _ e _ => e.elim) (RXz_n (fun c k q => by simp only [S_c_X11_voice, or_false] at q; omega) (fun c k q => by simp only [S_c_X12_voice, or_false] at q; omega) (fun x0_ x1_ q => by first | (simp [S_c_X11_voice] at q; done) | (simp [S_c_X11_voice] at q; omega)) (fun x0_ x1_ q => by first | (simp [S_c_X11_voice] at q; done) | (simp [S_c_X11_voice] at q; omega)) (fun x0_ x1_ x2_ x3_ q => by first | (simp [S_c_X11_voice] at q; done) | (simp [S_c_X11_voice] at q; omega)) (fun x0_ x1_ x2_ x3_ q => by first | (simp [S_c_X11_voice] at q; done) | (simp [S_c_X11_voice] at q; omega)) (fun x0_ x1_ x2_ x3_ q => by first | (simp [S_c_X11_voice] at q; done) | (simp [S_c_X11_voice] at q; omega)) (fun x0_ x1_ x2_ x3_ q => by first | (simp [S_c_X11_voice] at q; done) | (simp [S_c_X11_voice] at q; omega)) (fun q => by simp [S_c_X11_voice] at q) (fun x0_ x1_ x2_ x3_ q => by first | (simp [S_c_X11_voice] at q; done) | (simp [S_c_X11_voice] at q; omega)) (fun x0_ x1_ q => by first | (simp [S_c_X12_voice] at q; done) | (simp [S_c_X12_voice] at q; omega)) (fun q => by simp [S_c_X12_voice] at q) (fun x0_ x1_ q => by first | (simp [S_c_X12_voice] at q; done) | (simp [S_c_X12_voice] at q; omega)) (fun x0_ x1_ q => by first | (simp [S_c_X12_voice] at q; done) | (simp [S_c_X12_voice] at q; omega)) (fun j hj q => by first | (simp at q; done) | (simp at q; omega))), trivial⟩
theorem st_31 {v1 : Int32} {v2 : Int32} {M M1 M2 : mM} {r1 r2 : Int32} (h : RXz M.1) (hD : InvD M) (hF1 : FR S_c_X11_trace M M1) (hs1 : SP_X11_trace v1 M r1 M1) (hF2 : FR S_c_X12_trace M1 M2) (hs2 : SP_X12_trace v2 M1 r2 M2) : RXz M2.1 ∧ True := by
  refine ⟨RXz_t (T := []) (fun _ _ => False) h hF1 hF2 (kq_FR hF2 (by intro j q; simp [S_c_X12_trace] at q)) (Or.inl ((hF2 (12, 0, 0) 3 (by simp [S_c_X12_trace])).trans (hF1 (12, 0, 0) 3 (by simp [S_c_X11_trace])))) (fun _ _ _ _ _ e _ => e.elim) (RXz_n (fun c k q => by simp only [S_c_X11_trace, or_false] at q; omega) (fun c k q => by simp only [S_c_X12_trace, or_false] at q; omega) (fun x0_ x1_ q => by first | (simp [S_c_X11_trace] at q; done) | (simp [S_c_X11_trace] at q; omega)) (fun x0_ x1_ q => by first | (simp [S_c_X11_trace] at q; done) | (simp [S_c_X11_trace] at q; omega)) (fun x0_ x1_ x2_ x3_ q => by first | (simp [S_c_X11_trace] at q; done) | (simp [S_c_X11_trace] at q; omega)) (fun x0_ x1_ x2_ x3_ q => by first | (simp [S_c_X11_trace] at q; done) | (simp [S_c_X11_trace] at q; omega)) (fun x0_ x1_ x2_ x3_ q => by first | (simp [S_c_X11_trace] at q; done) | (simp [S_c_X11_trace] at q; omega)) (fun x0_ x1_ x2_ x3_ q => by first | (simp [S_c_X11_trace] at q; done) | (simp [S_c_X11_trace] at q; omega)) (fun q => by simp [S_c_X11_trace] at q) (fun x0_ x1_ x2_ x3_ q => by first | (simp [S_c_X11_trace] at q; done) | (simp [S_c_X11_trace] at q; omega)) (fun x0_ x1_ q => by first | (simp [S_c_X12_trace] at q; done) | (simp [S_c_X12_trace] at q; omega)) (fun q => by simp [S_c_X12_trace] at q) (fun x0_ x1_ q => by first | (simp [S_c_X12_trace] at q; done) | (simp [S_c_X12_trace] at q; omega)) (fun x0_ x1_ q => by first | (simp [S_c_X12_trace] at q; done) | (simp [S_c_X12_trace] at q; omega)) (fun j hj q => by first | (simp at q; done) | (simp at q; omega))), trivial⟩
theorem st_39 {v1 : Int32} {v2 : Int32} {M M1 M2 : mM} {r1 r2 : Int32} (h : RXz M.1) (hD : InvD M) (hF1 : FR S_c_X11_count M M1) (hs1 : SP_X11_count v1 M r1 M1) (hF2 : FR S_c_X12_count M1 M2) (hs2 : SP_X12_count v2 M1 r2 M2) : RXz M2.1 ∧ True := by
  refine ⟨RXz_t (T := []) (fun _ _ => False) h hF1 hF2 (kq_FR hF2 (by intro j q; simp [S_c_X12_count] at q)) (Or.inl ((hF2 (12, 0, 0) 3 (by simp [S_c_X12_count])).trans (hF1 (12, 0, 0) 3 (by simp [S_c_X11_count])))) (fun _ _ _ _ _ e _ => e.elim) (RXz_n (fun c k q => by simp only [S_c_X11_count, or_false] at q; omega) (fun c k q => by simp only [S_c_X12_count, or_false] at q; omega) (fun x0_ x1_ q => by first | (simp [S_c_X11_count] at q; done) | (simp [S_c_X11_count] at q; omega)) (fun x0_ x1_ q => by first | (simp [S_c_X11_count] at q; done) | (simp [S_c_X11_count] at q; omega)) (fun x0_ x1_ x2_ x3_ q => by first | (simp [S_c_X11_count] at q; done) | (simp [S_c_X11_count] at q; omega)) (fun x0_ x1_ x2_ x3_ q => by first | (simp [S_c_X11_count] at q; done) | (simp [S_c_X11_count] at q; omega)) (fun x0_ x1_ x2_ x3_ q => by first | (simp [S_c_X11_count] at q; done) | (simp [S_c_X11_count] at q; omega)) (fun x0_ x1_ x2_ x3_ q => by first | (simp [S_c_X11_count] at q; done) | (simp [S_c_X11_count] at q; omega)) (fun q => by simp [S_c_X11_count] at q) (fun x0_ x1_ x2_ x3_ q => by first | (simp [S_c_X11_count] at q; done) | (simp [S_c_X11_count] at q; omega)) (fun x0_ x1_ q => by first | (simp [S_c_X12_count] at q; done) | (simp [S_c_X12_count] at q; omega)) (fun q => by simp [S_c_X12_count] at q) (fun x0_ x1_ q => by first | (simp [S_c_X12_count] at q; done) | (simp [S_c_X12_count] at q; omega)) (fun x0_ x1_ q => by first | (simp [S_c_X12_count] at q; done) | (simp [S_c_X12_count] at q; omega)) (fun j hj q => by first | (simp at q; done) | (simp at q; omega))), trivial⟩
theorem st_40 {v1 : Int32} {v2 : Int32} {M M1 M2 : mM} {r1 r2 : Int32} (h : RXz M.1) (hD : InvD M) (hF1 : FR S_c_X11_told M M1) (hs1 : SP_X11_told v1 M r1 M1) (hF2 : FR S_c_X12_told M1 M2) (hs2 : SP_X12_told v2 M1 r2 M2) : RXz M2.1 ∧ True := by
  refine ⟨RXz_t (T := []) (fun _ _ => False) h hF1 hF2 (kq_FR hF2 (by intro j q; simp [S_c_X12_told] at q)) (Or.inl ((hF2 (12, 0, 0) 3 (by simp [S_c_X12_told])).trans (hF1 (12, 0, 0) 3 (by simp [S_c_X11_told])))) (fun _ _ _ _ _ e _ => e.elim) (RXz_n (fun c k q => by simp only [S_c_X11_told, or_false] at q; omega) (fun c k q => by simp only [S_c_X12_told, or_false] at q; omega) (fun x0_ x1_ q => by first | (simp [S_c_X11_told] at q; done) | (simp [S_c_X11_told] at q; omega)) (fun x0_ x1_ q => by first | (simp [S_c_X11_told] at q; done) | (simp [S_c_X11_told] at q; omega)) (fun x0_ x1_ x2_ x3_ q => by first | (simp [S_c_X11_told] at q; done) | (simp [S_c_X11_told] at q; omega)) (fun x0_ x1_ x2_ x3_ q => by first | (simp [S_c_X11_told] at q; done) | (simp [S_c_X11_told] at q; omega)) (fun x0_ x1_ x2_ x3_ q => by first | (simp [S_c_X11_told] at q; done) | (simp [S_c_X11_told] at q; omega)) (fun x0_ x1_ x2_ x3_ q => by first | (simp [S_c_X11_told] at q; done) | (simp [S_c_X11_told] at q; omega)) (fun q => by simp [S_c_X11_told] at q) (fun x0_ x1_ x2_ x3_ q => by first | (simp [S_c_X11_told] at q; done) | (simp [S_c_X11_told] at q; omega)) (fun x0_ x1_ q => by first | (simp [S_c_X12_told] at q; done) | (simp [S_c_X12_told] at q; omega)) (fun q => by simp [S_c_X12_told] at q) (fun x0_ x1_ q => by first | (simp [S_c_X12_told] at q; done) | (simp [S_c_X12_told] at q; omega)) (fun x0_ x1_ q => by first | (simp [S_c_X12_told] at q; done) | (simp [S_c_X12_told] at q; omega)) (fun j hj q => by first | (simp at q; done) | (simp at q; omega))), trivial⟩
end
