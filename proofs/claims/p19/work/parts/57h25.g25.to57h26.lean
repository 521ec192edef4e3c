section
/-! text() -/
/-- the class's start of a text -/
def TSc (v : Int32) (M C : mM) : Prop := (C.1 (4, 0, 0) 2).toInt = v.toInt + 1 ∧ (C.1 (4, 0, 0) 3).toInt = 0 ∧ (C.1 (4, 0, 0) 4).toInt = -1 ∧ (C.1 (4, 0, 0) 5).toInt = 0 ∧ C.1 (4, 0, 0) 6 = 0 ∧ (C.1 (1, 3, 0) 2).toInt = 0 ∧ ∀ (c : rf) (k : Nat), ¬ c = (4, 0, 0) → ¬ c = (1, 3, 0) → C.1 c k = M.1 c k
def TRc (r : Int32) (Cp M8 : mM) : Prop := ∃ (rn : Int32) (Cn : mM), SP_X4_next Cp rn Cn ∧ ((rn.toInt < 0 ∧ M8 = Cn) ∨ (0 ≤ rn.toInt ∧ SP_X4_fail Cn M8)) ∧ ((0 ≤ (M8.1 (4, 0, 0) 4).toInt ∧ r = (-10 : Int32) - M8.1 (4, 0, 0) 4) ∨ ((M8.1 (4, 0, 0) 4).toInt < 0 ∧ r = M8.1 (4, 0, 0) 6))
theorem TSc_mk {v x : Int32} {M M1 M2 M3 M4 M5 M6 M7 : mM} (h1 : M1 = up M (4, 0, 0) 1 1) (h2 : M2 = up M1 (4, 0, 0) 2 x) (h3 : M3 = up M2 (4, 0, 0) 3 0) (h4 : M4 = up M3 (4, 0, 0) 4 (-1)) (h5 : M5 = up M4 (4, 0, 0) 5 0) (h6 : M6 = up M5 (4, 0, 0) 6 0) (h7 : SP_X1_clear 3 0 M6 M7) (hx : x.toInt = v.toInt + 1) : TSc v M M7 := by
  have q0 := il_0
  have im := il_m1
  refine xE_SP_X1_clear h7 (fun c_M1_ c_hM2_ c_hM_ => ?_)
  have k7 : ∀ (c : rf) (k : Nat), ¬ (c = (1, 3, 0) ∧ k = 2) → M7.1 c k = M6.1 c k := fun c k q => by rw [c_hM_, zupN c_hM2_ q]
  refine ⟨?_, ?_, ?_, ?_, ?_, ?_, fun c k q1 q2 => ?_⟩
  · rw [k7 _ _ (by simp), zupN h6 (by simp), zupN h5 (by simp), zupN h4 (by simp), zupN h3 (by simp), zupE h2 rfl rfl]; exact hx
  · rw [k7 _ _ (by simp), zupN h6 (by simp), zupN h5 (by simp), zupN h4 (by simp), zupE h3 rfl rfl]; exact q0
  · rw [k7 _ _ (by simp), zupN h6 (by simp), zupN h5 (by simp), zupE h4 rfl rfl]; exact im
  · rw [k7 _ _ (by simp), zupN h6 (by simp), zupE h5 rfl rfl]; exact q0
  · rw [k7 _ _ (by simp), zupE h6 rfl rfl]
  · rw [c_hM_, zupE c_hM2_ rfl rfl]; exact q0
  · rw [k7 _ _ (fun z => q2 z.1), zupN h6 (fun z => q1 z.1), zupN h5 (fun z => q1 z.1), zupN h4 (fun z => q1 z.1), zupN h3 (fun z => q1 z.1), zupN h2 (fun z => q1 z.1), zupN h1 (fun z => q1 z.1)]
theorem x4read {v r : Int32} {M M8 : mM} (h : SP_X4_read v M r M8) (hv : 0 ≤ v.toInt ∧ v.toInt ≤ 2) : ∃ C Cp : mM, TSc v M C ∧ SP_X4_cmp5 C Cp ∧ FR S_reader C Cp ∧ TRc r Cp M8 := by
  have q1 := il_1
  have q2 : (2 : Int32).toInt = 2 := by decide
  have q3 : (3 : Int32).toInt = 3 := by decide
  refine xE_SP_X4_read h (fun M1_ hM2_ => ⟨(fun h6_ => ⟨(fun h7_ M8_ hM9_ M14_ hM15_ M20_ hM21_ M26_ hM27_ M33_ hM34_ _ M40_ _ hF44_ hs46_ M50_ _ hF54_ hs56_ M60_ _ hF64_ r59_ hs66_ => ⟨(fun h69_ z70_ e71_ => ⟨(fun h72_ z75_ h76_ hr_ hM_ => ?_), (fun h72_ z77_ e78_ hr_ hM_ => ?_)⟩), (fun h69_ M79_ _ hF83_ hs85_ z88_ e89_ => ⟨(fun h90_ z93_ h94_ hr_ hM_ => ?_), (fun h90_ z95_ e96_ hr_ hM_ => ?_)⟩)⟩), (fun h7_ M97_ hM98_ M103_ hM104_ M109_ hM110_ M115_ hM116_ M122_ hM123_ _ M129_ _ hF133_ hs135_ M139_ _ hF143_ hs145_ M149_ _ hF153_ r148_ hs155_ => ⟨(fun h158_ z159_ e160_ => ⟨(fun h161_ z164_ h165_ hr_ hM_ => ?_), (fun h161_ z166_ e167_ hr_ hM_ => ?_)⟩), (fun h158_ M168_ _ hF172_ hs174_ z177_ e178_ => ⟨(fun h179_ z182_ h183_ hr_ hM_ => ?_), (fun h179_ z184_ e185_ hr_ hM_ => ?_)⟩)⟩)⟩), (fun h6_ M186_ hM187_ M192_ hM193_ M198_ hM199_ M204_ hM205_ M211_ hM212_ _ M218_ _ hF222_ hs224_ M228_ _ hF232_ hs234_ M238_ _ hF242_ r237_ hs244_ => ⟨(fun h247_ z248_ e249_ => ⟨(fun h250_ z253_ h254_ hr_ hM_ => ?_), (fun h250_ z255_ e256_ hr_ hM_ => ?_)⟩), (fun h247_ M257_ _ hF261_ hs263_ z266_ e267_ => ⟨(fun h268_ z271_ h272_ hr_ hM_ => ?_), (fun h268_ z273_ e274_ hr_ hM_ => ?_)⟩)⟩)⟩)
  · exact ⟨M40_, M50_, TSc_mk hM2_ hM9_ hM15_ hM21_ hM27_ hM34_ hs46_ (by omega), hs56_, hF54_, r59_, M60_, hs66_, Or.inl ⟨h69_, hM_⟩, Or.inl ⟨by rw [hM_, ← e71_]; exact h72_, by rw [hr_, h76_, hM_, e71_]⟩⟩
  · exact ⟨M40_, M50_, TSc_mk hM2_ hM9_ hM15_ hM21_ hM27_ hM34_ hs46_ (by omega), hs56_, hF54_, r59_, M60_, hs66_, Or.inl ⟨h69_, hM_⟩, Or.inr ⟨by rw [hM_, ← e71_]; exact h72_, by rw [hr_, hM_, e78_]⟩⟩
  · exact ⟨M40_, M50_, TSc_mk hM2_ hM9_ hM15_ hM21_ hM27_ hM34_ hs46_ (by omega), hs56_, hF54_, r59_, M60_, hs66_, Or.inr ⟨h69_, by rw [hM_]; exact hs85_⟩, Or.inl ⟨by rw [hM_, ← e89_]; exact h90_, by rw [hr_, h94_, hM_, e89_]⟩⟩
  · exact ⟨M40_, M50_, TSc_mk hM2_ hM9_ hM15_ hM21_ hM27_ hM34_ hs46_ (by omega), hs56_, hF54_, r59_, M60_, hs66_, Or.inr ⟨h69_, by rw [hM_]; exact hs85_⟩, Or.inr ⟨by rw [hM_, ← e89_]; exact h90_, by rw [hr_, hM_, e96_]⟩⟩
  · exact ⟨M129_, M139_, TSc_mk hM2_ hM98_ hM104_ hM110_ hM116_ hM123_ hs135_ (by omega), hs145_, hF143_, r148_, M149_, hs155_, Or.inl ⟨h158_, hM_⟩, Or.inl ⟨by rw [hM_, ← e160_]; exact h161_, by rw [hr_, h165_, hM_, e160_]⟩⟩
  · exact ⟨M129_, M139_, TSc_mk hM2_ hM98_ hM104_ hM110_ hM116_ hM123_ hs135_ (by omega), hs145_, hF143_, r148_, M149_, hs155_, Or.inl ⟨h158_, hM_⟩, Or.inr ⟨by rw [hM_, ← e160_]; exact h161_, by rw [hr_, hM_, e167_]⟩⟩
  · exact ⟨M129_, M139_, TSc_mk hM2_ hM98_ hM104_ hM110_ hM116_ hM123_ hs135_ (by omega), hs145_, hF143_, r148_, M149_, hs155_, Or.inr ⟨h158_, by rw [hM_]; exact hs174_⟩, Or.inl ⟨by rw [hM_, ← e178_]; exact h179_, by rw [hr_, h183_, hM_, e178_]⟩⟩
  · exact ⟨M129_, M139_, TSc_mk hM2_ hM98_ hM104_ hM110_ hM116_ hM123_ hs135_ (by omega), hs145_, hF143_, r148_, M149_, hs155_, Or.inr ⟨h158_, by rw [hM_]; exact hs174_⟩, Or.inr ⟨by rw [hM_, ← e178_]; exact h179_, by rw [hr_, hM_, e185_]⟩⟩
  · exact ⟨M218_, M228_, TSc_mk hM2_ hM187_ hM193_ hM199_ hM205_ hM212_ hs224_ (by omega), hs234_, hF232_, r237_, M238_, hs244_, Or.inl ⟨h247_, hM_⟩, Or.inl ⟨by rw [hM_, ← e249_]; exact h250_, by rw [hr_, h254_, hM_, e249_]⟩⟩
  · exact ⟨M218_, M228_, TSc_mk hM2_ hM187_ hM193_ hM199_ hM205_ hM212_ hs224_ (by omega), hs234_, hF232_, r237_, M238_, hs244_, Or.inl ⟨h247_, hM_⟩, Or.inr ⟨by rw [hM_, ← e249_]; exact h250_, by rw [hr_, hM_, e256_]⟩⟩
  · exact ⟨M218_, M228_, TSc_mk hM2_ hM187_ hM193_ hM199_ hM205_ hM212_ hs224_ (by omega), hs234_, hF232_, r237_, M238_, hs244_, Or.inr ⟨h247_, by rw [hM_]; exact hs263_⟩, Or.inl ⟨by rw [hM_, ← e267_]; exact h268_, by rw [hr_, h272_, hM_, e267_]⟩⟩
  · exact ⟨M218_, M228_, TSc_mk hM2_ hM187_ hM193_ hM199_ hM205_ hM212_ hs224_ (by omega), hs234_, hF232_, r237_, M238_, hs244_, Or.inr ⟨h247_, by rw [hM_]; exact hs263_⟩, Or.inr ⟨by rw [hM_, ← e267_]; exact h268_, by rw [hr_, hM_, e274_]⟩⟩
/-- the model's start of a text -/
theorem text_start {v : Int32} {M C D D7 D12 D18 D25 D32 D39 : mM} (hs : TSc v M C) (hv : 0 ≤ v.toInt ∧ v.toInt ≤ 2) (hR : RW 0 M.1 (D.1 (50, 0, 0))) (hN : NW5 (D.1 (50, 0, 0))) (h4 : M.1 (5, 0, 0) 1 = D.1 (50, 0, 0) 4)
    (h1 : D7 = up D (12, 0, 0) 10 v) (h2 : D12 = up D7 (12, 0, 0) 9 0) (h3 : D18 = up D12 (12, 0, 0) 11 0) (h5 : D25 = up D18 (12, 0, 0) 12 0) (h6 : D32 = up D25 (12, 0, 0) 13 0) (h7 : D39 = up D32 (12, 0, 0) 14 0) : PRL 0 C D39 ∧ ∀ (c : rf) (k : Nat), ¬ c = (12, 0, 0) → D39.1 c k = D.1 c k := by
  have q0 := il_0
  obtain ⟨s1, s2, s3, s4, s5, s6, s7⟩ := hs
  have kd : ∀ (c : rf) (k : Nat), ¬ c = (12, 0, 0) → D39.1 c k = D.1 c k := fun c k q => by
    rw [zupN h7 (fun z => q z.1), zupN h6 (fun z => q z.1), zupN h5 (fun z => q z.1), zupN h3 (fun z => q z.1), zupN h2 (fun z => q z.1), zupN h1 (fun z => q z.1)]
  have d9 : (D39.1 (12, 0, 0) 9).toInt = 0 := by rw [zupN h7 (by simp), zupN h6 (by simp), zupN h5 (by simp), zupN h3 (by simp), zupE h2 rfl rfl]; exact q0
  have d10 : D39.1 (12, 0, 0) 10 = v := by rw [zupN h7 (by simp), zupN h6 (by simp), zupN h5 (by simp), zupN h3 (by simp), zupN h2 (by simp), zupE h1 rfl rfl]
  have d11 : (D39.1 (12, 0, 0) 11).toInt = 0 := by rw [zupN h7 (by simp), zupN h6 (by simp), zupN h5 (by simp), zupE h3 rfl rfl]; exact q0
  have d12 : D39.1 (12, 0, 0) 12 = 0 := by rw [zupN h7 (by simp), zupN h6 (by simp), zupE h5 rfl rfl]
  have d13 : (D39.1 (12, 0, 0) 13).toInt = 0 := by rw [zupN h7 (by simp), zupE h6 rfl rfl]; exact q0
  have d14 : (D39.1 (12, 0, 0) 14).toInt = 0 := by rw [zupE h7 rfl rfl]; exact q0
  have n4 := (n345_b hN).2.1
  refine ⟨⟨?_, Or.inl ?_⟩, kd⟩
  · unfold TPE
    rw [s7 _ _ (by simp) (by simp), kd (50, 0, 0) 4 (by simp), d10]
    refine ⟨h4, n4, fun i hi => ?_, s1, hv⟩
    rw [s7 _ _ (by simp) (by simp), kd (50, 0, 0) _ (by simp)]
    exact hR.2.2.1 i hi
  · unfold POK
    rw [kd (50, 0, 0) 4 (by simp), s5, d12, q0]
    refine ⟨by omega, d13, by omega, by omega, ⟨rfl, by omega, by omega⟩, by omega, by omega, by omega, by omega, fun i hi => by omega⟩
/-- the written codes -/
theorem text_copy {v : Int32} {Da Db : mM} {z : Int32} {w : Int32 × mM} (hd : RCH (fun x y : Int32 × mM => ST_X12_text__117 v Da x.1 x.2 y.1 y.2) ((0 : Int32), Db) w) (hv : 0 ≤ v.toInt ∧ v.toInt ≤ 2) (hw : 0 ≤ w.1.toInt) (hz : z = w.2.1 (12, 0, 0) 14) (hz2 : 0 ≤ z.toInt ∧ z.toInt ≤ 48) (he : z.toInt ≤ w.1.toInt) :
    (∀ (c : rf) (k : Nat), ¬ c = (50, 0, 0) → w.2.1 c k = Db.1 c k) ∧ (∀ i : Nat, (i : Int) < (Db.1 (12, 0, 0) 14).toInt → w.2.1 (50, 0, 0) (346 + 50 * v.toInt.toNat + i) = Db.1 (57, 0, 0) i) ∧ ∀ j : Nat, ¬ (346 + 50 * v.toInt.toNat ≤ j ∧ j < 395 + 50 * v.toInt.toNat) → w.2.1 (50, 0, 0) j = Db.1 (50, 0, 0) j := by
  have q0 := il_0
  have g := rind hd (fun t => 0 ≤ t.1.toInt ∧ (∀ (c : rf) (k : Nat), ¬ c = (50, 0, 0) → t.2.1 c k = Db.1 c k) ∧ (∀ i : Nat, (i : Int) < t.1.toInt → t.2.1 (50, 0, 0) (346 + 50 * v.toInt.toNat + i) = Db.1 (57, 0, 0) i) ∧ ∀ j : Nat, ¬ (346 + 50 * v.toInt.toNat ≤ j ∧ j < 395 + 50 * v.toInt.toNat) → t.2.1 (50, 0, 0) j = Db.1 (50, 0, 0) j) ⟨by dsimp only; omega, fun _ _ _ => rfl, fun i hi => by dsimp only at hi; omega, fun _ _ => rfl⟩ (fun s t p st => by
    (try dsimp only at p st ⊢)
    obtain ⟨p1, p2, p3, p4⟩ := p
    refine xE_ST_X12_text__117 st (fun k_hv0_117 k_hv1_117 k_hv2_117 _ k_hF_117 k_z151_ k_e152_ k_h153_ k_h154_ k_h155_ k_z159_ k_e160_ k_h161_ k_h162_ k_z163_ k_h164_ k_z165_ k_h166_ k_z167_ k_h168_ k_z169_ k_h170_ k_j173_ k_h174_ k_z171_ k_e172_ k_j177_ k_h178_ k_M175_ k_hM176_ k_z186_ k_h187_ k_hq_v2_117y k_hM_ => ?_)
    have e1 := eT k_hq_v2_117y
    refine ⟨by omega, fun c k q => ?_, fun i hi => ?_, fun j hj => ?_⟩
    · rw [k_hM_, zupN k_hM176_ (fun z => q z.1)]; exact p2 c k q
    · by_cases e : (i : Int) = s.1.toInt
      · rw [k_hM_, zupE k_hM176_ rfl (by omega), k_e172_, p2 _ _ (by simp), show k_j173_ = i by omega]
      · rw [k_hM_, zupN k_hM176_ (fun z => by have := z.2; omega)]; exact p3 i (by omega)
    · rw [k_hM_, zupN k_hM176_ (fun z => by have := z.2; omega)]; exact p4 j hj)
  (try dsimp only at g)
  obtain ⟨g1, g2, g3, g4⟩ := g
  have y := eT hz
  rw [g2 _ _ (by simp)] at y
  exact ⟨g2, fun i hi => g3 i (by omega), g4⟩
end
section
/-! text() on both sides -/
theorem RW_text {u : Nat} {q q2 : rf → Nat → Int32} {n n2 : Nat → Int32} (h : RW 0 q n) (hN : NW5 n) (hu : u < 3)
    (hq : ∀ (c : rf) (k : Nat), wR c.1 → c.2.1 = 0 → ¬ c = (1, 0, u) → ¬ c = (24, 0, u) → q2 c k = q c k) (hn : ∀ j, ¬ j = 4 → ¬ (345 + 50 * u ≤ j ∧ j < 395 + 50 * u) → n2 j = n j) (h4 : (n2 4).toInt = 0)
    (hc : q2 (1, 0, u) 2 = n2 (345 + 50 * u)) (hx : ∀ i : Nat, (i : Int) < (n2 (345 + 50 * u)).toInt → (q2 (24, 0, u) i).toInt = cmI (n2 (346 + 50 * u + i)).toInt ∧ cOK (nnU u) (n2 (346 + 50 * u + i))) : RW 0 q2 n2 := by
  obtain ⟨⟨hL, hT, hW, hX, hO, hM⟩, hE, hA, hY⟩ := h
  have th := nTh_b hN
  have nw := nWa_b hN
  have nb := n345_b hN
  have qq : ∀ (r w k : Nat), wR r → ¬ r = 1 → ¬ r = 24 → q2 (r, 0, w) k = q (r, 0, w) k := fun r w k h1 h2 h3 => hq _ _ h1 rfl (cne h2) (cne h3)
  refine ⟨⟨LWR_keep hL (fun r k w => qq r 0 k (by unfold wR; omega) (by omega) (by omega)) (fun j hj => hn j (by omega) (by omega)), THR_keep hT th.2 (fun r k w => qq r 0 k (by unfold wR; omega) (by omega) (by omega)) (fun j hj => hn j (by omega) (by omega)),
    WAR_keep hW nw.2 (fun r w k z => qq r w k (by unfold wR; omega) (by omega) (by omega)) (qq 10 0 6 (by unfold wR; omega) (by omega) (by omega)) (fun j hj => hn j (by omega) (by omega)), fun u' hu' => ?_,
    OCC_keep hO th.2 nw.2 (fun k => qq 35 0 k (by unfold wR; omega) (by omega) (by omega)) (fun j hj => hn j (by omega) (by omega)) (fun j hj => hn j (by omega) (by omega)),
    MIR_keep hM th.2 nw.2 (fun j hj => hn j (by omega) (by omega)) (fun w h1 h2 => ⟨fun k hk => hn _ (by omega) (by omega), fun c hc => hn _ (by omega) (by omega)⟩)⟩,
    LER_keep hE nb.1.2 (fun r k w => qq r 0 k (by unfold wR; omega) (by omega) (by omega)) (fun j hj => hn j (by omega) (by omega)), fun i hi => ?_, WTR_keep hY nb.2.2.2 (fun k => qq 33 1 k (by unfold wR; omega) (by omega) (by omega)) (fun j hj => hn j (by omega) (by omega))⟩
  · by_cases e : u' = u
    · subst e
      exact ⟨hc, hx⟩
    · have g := hX u' hu'
      have z := TXz hN u' hu'
      have ne : ∀ r : Nat, ¬ ((r, 0, u') : rf) = (r, 0, u) := fun r q => e (congrArg (fun c : rf => c.2.2) q)
      rw [hq (1, 0, u') 2 (by unfold wR; simp) rfl (ne 1) (cne (by omega)), hn (345 + 50 * u') (by omega) (by omega)]
      refine ⟨g.1, fun i hi => ?_⟩
      rw [hq (24, 0, u') i (by unfold wR; simp) rfl (cne (by omega)) (ne 24), hn (346 + 50 * u' + i) (by omega) (by omega)]
      exact g.2 i hi
  · omega
theorem next_f {r : Int32} {C Cn : mM} (hn : SP_X4_next C r Cn) : Cn.1 (4, 0, 0) 4 = C.1 (4, 0, 0) 4 := by
  unfold SP_X4_next at hn
  obtain ⟨M_0, hL_0, hI_0, hF_0, z2_, e3_, z4_, e5_, hn⟩ := hn
  have fr : M_0.1 (4, 0, 0) 4 = C.1 (4, 0, 0) 4 := hF_0 _ _ (by simp [S_c_X4_next])
  rcases hn with ⟨-, ⟨-, -, hM_⟩ | ⟨-, r14_, -, -, hM_⟩⟩ | ⟨-, r21_, -, -, ⟨-, -, hM_⟩ | ⟨-, r34_, -, -, hM_⟩⟩
  all_goals (rw [hM_]; exact fr)
theorem text_bad {r : Int32} {Cp M8 D : mM} (h : TRc r Cp M8) (k : PBD Cp D) (hT : TPE Cp D) : r.toInt = -10 - (D.1 (12, 0, 0) 9).toInt := by
  have im : (-10 : Int32).toInt = -10 := by decide
  obtain ⟨rn, Cn, nx, a, b⟩ := h
  have n4 := next_f nx
  unfold PBD at k
  have T1 := hT.2.1
  have m4 : M8.1 (4, 0, 0) 4 = Cp.1 (4, 0, 0) 4 := by
    rcases a with a | a
    · rw [a.2, n4]
    · rcases x4fail a.2 with f | f
      · rw [f.2, n4]
      · rw [n4] at f; omega
  rw [m4] at b
  rcases b with b | b
  · rw [b.2, subI (y := Cp.1 (4, 0, 0) 4) im rfl (by omega) (by omega)]; omega
  · omega
theorem text_ok {r r2 : Int32} {Cp M8 D D8 : mM} {s : Int} {W : Nat} {a T : Int} (h : TRc r Cp M8) (hT : TPE Cp D) (k : POK 0 Cp D) (hh : SP_X12_here s W a T D r2 D8) : (r2.toInt < 0 ∧ r = D8.1 (12, 0, 0) 12 ∧ 0 ≤ r.toInt ∧ POK 0 M8 D8 ∧ TPE M8 D8) ∨ (0 ≤ r2.toInt ∧ r.toInt = -10 - (D8.1 (12, 0, 0) 9).toInt ∧ ¬ 0 ≤ r.toInt) := by
  have im : (-10 : Int32).toInt = -10 := by decide
  obtain ⟨rn, Cn, nx, a, b⟩ := h
  obtain ⟨rfl, s1, s2, s3, s4⟩ := one_start hT k nx hh
  have T1 := s1.2.1
  have s2' := s2
  obtain ⟨p1, p2, p3, p4, p5, p6, p7, p8, p9, p10⟩ := s2
  rcases a with a | a
  · left
    rw [a.2] at b ⊢
    rcases b with b | b
    · omega
    · rw [p5.1] at b
      exact ⟨a.1, b.2, by rw [b.2]; exact p5.2.1, s2', s1⟩
  · right
    rcases x4fail a.2 with f | f
    · omega
    · have m4 : (M8.1 (4, 0, 0) 4).toInt = (D8.1 (12, 0, 0) 9).toInt := by rw [f.2, up_same]; exact p3
      rcases b with b | b
      · have e := subI (y := M8.1 (4, 0, 0) 4) im rfl (by omega) (by omega)
        rw [← b.2] at e
        exact ⟨a.1, by omega, by omega⟩
      · omega
theorem cb_text {v : Int32} {M M1 D D2 : mM} {r1 r2 : Int32} (h1 : SP_X11_text v M r1 M1) (h2 : SP_X12_text_ v D r2 D2) (hR : RW 0 M.1 (D.1 (50, 0, 0))) (hD : InvD D) (h4 : M.1 (5, 0, 0) 1 = D.1 (50, 0, 0) 4) : RW 0 M1.1 (D2.1 (50, 0, 0)) ∧ r1 = r2 := by
  have q0 := il_0
  have q1 := il_1
  have hN : NW5 (D.1 (50, 0, 0)) := hD.2.1
  -- a wrong text: the answers alike, the signs away
  have bad : ∀ {q2 : rf → Nat → Int32} {n2 : Nat → Int32}, (∀ (c : rf) (k : Nat), wR c.1 → c.2.1 = 0 → q2 c k = M.1 c k) → (∀ j, ¬ j = 4 → n2 j = D.1 (50, 0, 0) j) → (n2 4).toInt = 0 → RW 0 q2 n2 := fun hq hn hz => by
    have g := hR.1.2.2.2.1 0 (by omega)
    exact RW_text (u := 0) hR hN (by omega) (fun c k a b _ _ => hq c k a b) (fun j a _ => hn j a) hz (by rw [hq _ _ (by unfold wR; simp) rfl, hn _ (by omega)]; exact g.1) (fun i hi => by rw [hn _ (by omega)] at hi; rw [hq _ _ (by unfold wR; simp) rfl, hn _ (by omega)]; exact g.2 i hi)
  refine xE_SP_X11_text h1 ⟨(fun c_hs5_ c_h4_ c_M8_ _ c_hF12_ c_r7_ c_hs14_ => ⟨(fun c_h15_ c_M16_ _ c_hF20_ c_hs22_ c_hr_ c_hM_ => ?_), (fun c_h15_ c_j23_ c_h24_ c_h25_ c_h26_ c_M27_ _ c_hF31_ c_hs33_ c_M34_ _ c_hF38_ c_hs40_ c_hr_ c_hM_ => ?_)⟩), (fun c_hs5_ c_h4_ c_M43_ _ c_hF47_ c_r42_ c_hs49_ c_hr_ c_hM_ => ?_)⟩
  · obtain ⟨C, Cp, t1, t2, t3, t4⟩ := x4read c_hs14_ c_h4_
    have kM : ∀ (c : rf) (k : Nat), wR c.1 → c.2.1 = 0 → M1.1 c k = M.1 c k := fun c k a b => by
      refine xE_SP_X5_clear c_hs22_ (fun e_M1_ e_hM2_ e_hM_ => ?_)
      rw [c_hM_, e_hM_, zupN e_hM2_ (fun z => by rw [z.1] at a; unfold wR at a; omega)]
      exact c_hF12_ c k (fun z => by unfold wR at a; simp only [S_c_X4_read, or_false] at z; omega)
    refine xE_SP_X12_text_ h2 ⟨(fun d_hs5_ d_h4_ d_M7_ d_hM8_ d_M12_ d_hM13_ d_M18_ d_hM19_ d_M25_ d_hM26_ d_M32_ d_hM33_ d_M39_ d_hM40_ _ d_M48_ _ d_hF52_ d_hs54_ d_z56_ d_e57_ d_h58_ => ⟨(fun d_h60_ d_M61_ d_hM62_ d_h66_ d_M69_ d_hM70_ d_z76_ d_e77_ d_h78_ d_h79_ d_h80_ d_h81_ d_z82_ d_e83_ d_h84_ d_z85_ d_h86_ d_hr_ d_hM_ => ?_), (fun d_h60_ d_M88_ _ d_hF92_ d_r87_ d_hs94_ d_h98_ => ⟨(fun d_h99_ d_M100_ d_hM101_ d_h105_ d_h108_ d_M110_ d_hM111_ d_z119_ d_e120_ d_h121_ d_h122_ d_h123_ d_h124_ d_z126_ d_e127_ d_h128_ d_h129_ d_z130_ d_h131_ d_z132_ d_h133_ d_z134_ d_e135_ d_h136_ d_h137_ d_j140_ d_h141_ d_M138_ d_hM139_ d_v2_117 d_hv0_117 d_hv1_117 d_M_117 d_hv2_117 d_hL_117 _ d_hF_117 d_z151_ d_e152_ d_h153_ d_h154_ d_h155_ d_z157_ d_e158_ d_hr_ d_hM_ => ?_), (fun d_h99_ d_M188_ d_hM189_ d_h193_ d_M196_ d_hM197_ d_z203_ d_e204_ d_h205_ d_h206_ d_h207_ d_h208_ d_z209_ d_e210_ d_h211_ d_z212_ d_h213_ d_hr_ d_hM_ => ?_)⟩)⟩), (fun d_hs5_ d_h4_ d_M216_ _ d_hF220_ d_r215_ d_hs222_ d_h218_ d_hr_ d_hM_ => ?_)⟩
    · obtain ⟨P, kd⟩ := text_start t1 c_h4_ hR hN h4 d_hM8_ d_hM13_ d_hM19_ d_hM26_ d_hM33_ d_hM40_
      have X := cmp5_both 0 _ _ _ _ (by omega) P t2 d_hs54_ t3 d_hF52_
      have kn : ∀ j, d_M48_.1 (50, 0, 0) j = D.1 (50, 0, 0) j := fun j => (d_hF52_ _ _ (by simp [S_par])).trans (kd _ _ (by simp))
      rcases X.1.2 with k | k
      · have := eT d_e57_; have := k.2.1; omega
      · have tb := text_bad t4 k X.1.1
        have y := eT d_e83_
        rw [zupN (k' := 9) d_hM70_ (by simp), zupN (k' := 9) d_hM62_ (by simp)] at y
        refine ⟨bad kM (fun j hj => ?_) ?_, i32e (by rw [c_hr_, d_hr_]; omega)⟩
        · rw [d_hM_, zupN d_hM70_ (fun z => hj z.2), zupR d_hM62_ (by simp)]; exact kn j
        · rw [d_hM_, zupE d_hM70_ rfl rfl]; exact q0
    · obtain ⟨P, kd⟩ := text_start t1 c_h4_ hR hN h4 d_hM8_ d_hM13_ d_hM19_ d_hM26_ d_hM33_ d_hM40_
      have X := cmp5_both 0 _ _ _ _ (by omega) P t2 d_hs54_ t3 d_hF52_
      rcases X.1.2 with k | k
      · have tk := text_ok t4 X.1.1 k d_hs94_
        omega
      · have := eT d_e57_; have := k.2.1; omega
    · obtain ⟨P, kd⟩ := text_start t1 c_h4_ hR hN h4 d_hM8_ d_hM13_ d_hM19_ d_hM26_ d_hM33_ d_hM40_
      have X := cmp5_both 0 _ _ _ _ (by omega) P t2 d_hs54_ t3 d_hF52_
      have kn : ∀ j, d_M88_.1 (50, 0, 0) j = D.1 (50, 0, 0) j := fun j => (d_hF92_ _ _ (by simp [S_here])).trans ((d_hF52_ _ _ (by simp [S_par])).trans (kd _ _ (by simp)))
      rcases X.1.2 with k | k
      · have tk := text_ok t4 X.1.1 k d_hs94_
        have y := eT d_e210_
        rw [zupN (k' := 9) d_hM197_ (by simp), zupN (k' := 9) d_hM189_ (by simp)] at y
        refine ⟨bad kM (fun j hj => ?_) ?_, i32e (by rw [c_hr_, d_hr_]; omega)⟩
        · rw [d_hM_, zupN d_hM197_ (fun z => hj z.2), zupR d_hM189_ (by simp)]; exact kn j
        · rw [d_hM_, zupE d_hM197_ rfl rfl]; exact q0
      · have := eT d_e57_; have := k.2.1; omega
    · omega
  · obtain ⟨C, Cp, t1, t2, t3, t4⟩ := x4read c_hs14_ c_h4_
    refine xE_SP_X12_text_ h2 ⟨(fun d_hs5_ d_h4_ d_M7_ d_hM8_ d_M12_ d_hM13_ d_M18_ d_hM19_ d_M25_ d_hM26_ d_M32_ d_hM33_ d_M39_ d_hM40_ _ d_M48_ _ d_hF52_ d_hs54_ d_z56_ d_e57_ d_h58_ => ⟨(fun d_h60_ d_M61_ d_hM62_ d_h66_ d_M69_ d_hM70_ d_z76_ d_e77_ d_h78_ d_h79_ d_h80_ d_h81_ d_z82_ d_e83_ d_h84_ d_z85_ d_h86_ d_hr_ d_hM_ => ?_), (fun d_h60_ d_M88_ _ d_hF92_ d_r87_ d_hs94_ d_h98_ => ⟨(fun d_h99_ d_M100_ d_hM101_ d_h105_ d_h108_ d_M110_ d_hM111_ d_z119_ d_e120_ d_h121_ d_h122_ d_h123_ d_h124_ d_z126_ d_e127_ d_h128_ d_h129_ d_z130_ d_h131_ d_z132_ d_h133_ d_z134_ d_e135_ d_h136_ d_h137_ d_j140_ d_h141_ d_M138_ d_hM139_ d_v2_117 d_hv0_117 d_hv1_117 d_M_117 d_hv2_117 d_hL_117 _ d_hF_117 d_z151_ d_e152_ d_h153_ d_h154_ d_h155_ d_z157_ d_e158_ d_hr_ d_hM_ => ?_), (fun d_h99_ d_M188_ d_hM189_ d_h193_ d_M196_ d_hM197_ d_z203_ d_e204_ d_h205_ d_h206_ d_h207_ d_h208_ d_z209_ d_e210_ d_h211_ d_z212_ d_h213_ d_hr_ d_hM_ => ?_)⟩)⟩), (fun d_hs5_ d_h4_ d_M216_ _ d_hF220_ d_r215_ d_hs222_ d_h218_ d_hr_ d_hM_ => ?_)⟩
    · obtain ⟨P, kd⟩ := text_start t1 c_h4_ hR hN h4 d_hM8_ d_hM13_ d_hM19_ d_hM26_ d_hM33_ d_hM40_
      have X := cmp5_both 0 _ _ _ _ (by omega) P t2 d_hs54_ t3 d_hF52_
      rcases X.1.2 with k | k
      · have := eT d_e57_; have := k.2.1; omega
      · have tb := text_bad t4 k X.1.1
        have := X.1.1.2.1
        have := PRL_at X.1
        omega
    · obtain ⟨P, kd⟩ := text_start t1 c_h4_ hR hN h4 d_hM8_ d_hM13_ d_hM19_ d_hM26_ d_hM33_ d_hM40_
      have X := cmp5_both 0 _ _ _ _ (by omega) P t2 d_hs54_ t3 d_hF52_
      have kn : ∀ j, d_M88_.1 (50, 0, 0) j = D.1 (50, 0, 0) j := fun j => (d_hF92_ _ _ (by simp [S_here])).trans ((d_hF52_ _ _ (by simp [S_par])).trans (kd _ _ (by simp)))
      rcases X.1.2 with k | k
      · have tk := text_ok t4 X.1.1 k d_hs94_
        rcases tk with tk | tk
        · obtain ⟨tk1, tk2, tk3, tk4, tk5⟩ := tk
          obtain ⟨p1, p2, p3, p4, p5, p6, p7, p8, p9, p10⟩ := tk4
          have cpy := text_copy d_hL_117 c_h4_ d_hv0_117 d_e152_ (by omega) d_h155_
          obtain ⟨g1, g2, g3⟩ := cpy
          -- the memory before the copy
          have b12 : ∀ j, ¬ j = 13 → d_M138_.1 (12, 0, 0) j = d_M88_.1 (12, 0, 0) j := fun j hj => by rw [zupR d_hM139_ (by simp), zupR d_hM111_ (by simp), zupN d_hM101_ (fun z => hj z.2)]
          have b57 : ∀ j, d_M138_.1 (57, 0, 0) j = d_M88_.1 (57, 0, 0) j := fun j => by rw [zupR d_hM139_ (by simp), zupR d_hM111_ (by simp), zupR d_hM101_ (by simp)]
          have y10 : (d_M88_.1 (12, 0, 0) 10).toInt = v.toInt := by
            have y := eT d_e127_
            rw [zupR d_hM111_ (by simp), zupN d_hM101_ (by simp)] at y
            omega
          have y14 : d_z134_ = d_M88_.1 (12, 0, 0) 14 := by rw [d_e135_, zupR d_hM111_ (by simp), zupN d_hM101_ (by simp)]
          have jv : c_j23_ = v.toInt.toNat := by omega
          have u10 : (d_M88_.1 (12, 0, 0) 10).toInt.toNat = v.toInt.toNat := by omega
          have n345 : D2.1 (50, 0, 0) (345 + 50 * v.toInt.toNat) = d_z134_ := by rw [d_hM_, g3 _ (by omega), zupE d_hM139_ rfl (by omega)]
          have z14 := eT y14
          refine xE_SP_X1_takeFrom c_hs33_ (fun f_z1_ f_e2_ f_M3_ f_hM4_ f_M7_ f_hM8_ f_hM_ => ?_)
          refine xE_SP_X5_clear c_hs40_ (fun e_M1_ e_hM2_ e_hM_ => ?_)
          have m1 : ∀ (c : rf) (k : Nat), ¬ c = (5, 0, 0) → M1.1 c k = c_M27_.1 c k := fun c k q => by rw [c_hM_, e_hM_, zupN e_hM2_ (fun z => q z.1)]
          refine ⟨RW_text (u := v.toInt.toNat) hR hN (by omega) (fun c k a b e1 e2 => ?_) (fun j e1 e2 => ?_) ?_ ?_ (fun i hi => ?_), ?_⟩
          · rw [jv] at f_hM4_ f_hM8_
            rw [m1 c k (fun z => by rw [z] at a; unfold wR at a; simp at a), f_hM_, f_hM8_, cp_other _ _ _ e2, zupN f_hM4_ (fun z => e1 z.1)]
            exact c_hF12_ c k (fun z => by unfold wR at a; simp only [S_c_X4_read, or_false] at z; omega)
          · rw [d_hM_, g3 j (by omega), zupN d_hM139_ (fun z => by have := z.2; omega), zupN d_hM111_ (fun z => e1 z.2), zupR d_hM101_ (by simp)]
            exact kn j
          · rw [d_hM_, g3 4 (by omega), zupN d_hM139_ (fun z => by have := z.2; omega), zupE d_hM111_ rfl rfl]
            exact q0
          · rw [jv] at f_hM4_ f_hM8_
            rw [n345, m1 _ _ (by simp), f_hM_, f_hM8_, cp_other _ _ _ (by simp), zupE f_hM4_ rfl rfl]
            exact i32e (by rw [f_e2_]; omega)
          · rw [n345] at hi
            rw [jv] at f_hM4_ f_hM8_
            have w1 := cp_at (k := i) f_hM8_ (by have : (48 : Int32).toNatClampNeg = 48 := by decide
                                                 omega)
            rw [m1 _ _ (by simp), f_hM_, w1, zupR f_hM4_ (by simp), d_hM_, show 346 + 50 * v.toInt.toNat + i = 346 + 50 * v.toInt.toNat + i from rfl, g2 i (by rw [b12 14 (by omega)]; omega), b57, ← u10]
            exact p10 i (by omega)
          · rw [c_hr_, d_hr_, tk2, d_e158_, g1 _ _ (by simp), b12 12 (by omega)]
        · omega
      · have := eT d_e57_; have := k.2.1; omega
    · obtain ⟨P, kd⟩ := text_start t1 c_h4_ hR hN h4 d_hM8_ d_hM13_ d_hM19_ d_hM26_ d_hM33_ d_hM40_
      have X := cmp5_both 0 _ _ _ _ (by omega) P t2 d_hs54_ t3 d_hF52_
      rcases X.1.2 with k | k
      · have tk := text_ok t4 X.1.1 k d_hs94_
        omega
      · have := eT d_e57_; have := k.2.1; omega
    · omega
  · refine xE_SP_X12_text_ h2 ⟨(fun d_hs5_ d_h4_ d_M7_ d_hM8_ d_M12_ d_hM13_ d_M18_ d_hM19_ d_M25_ d_hM26_ d_M32_ d_hM33_ d_M39_ d_hM40_ _ d_M48_ _ d_hF52_ d_hs54_ d_z56_ d_e57_ d_h58_ => ⟨(fun d_h60_ d_M61_ d_hM62_ d_h66_ d_M69_ d_hM70_ d_z76_ d_e77_ d_h78_ d_h79_ d_h80_ d_h81_ d_z82_ d_e83_ d_h84_ d_z85_ d_h86_ d_hr_ d_hM_ => ?_), (fun d_h60_ d_M88_ _ d_hF92_ d_r87_ d_hs94_ d_h98_ => ⟨(fun d_h99_ d_M100_ d_hM101_ d_h105_ d_h108_ d_M110_ d_hM111_ d_z119_ d_e120_ d_h121_ d_h122_ d_h123_ d_h124_ d_z126_ d_e127_ d_h128_ d_h129_ d_z130_ d_h131_ d_z132_ d_h133_ d_z134_ d_e135_ d_h136_ d_h137_ d_j140_ d_h141_ d_M138_ d_hM139_ d_v2_117 d_hv0_117 d_hv1_117 d_M_117 d_hv2_117 d_hL_117 _ d_hF_117 d_z151_ d_e152_ d_h153_ d_h154_ d_h155_ d_z157_ d_e158_ d_hr_ d_hM_ => ?_), (fun d_h99_ d_M188_ d_hM189_ d_h193_ d_M196_ d_hM197_ d_z203_ d_e204_ d_h205_ d_h206_ d_h207_ d_h208_ d_z209_ d_e210_ d_h211_ d_z212_ d_h213_ d_hr_ d_hM_ => ?_)⟩)⟩), (fun d_hs5_ d_h4_ d_M216_ _ d_hF220_ d_r215_ d_hs222_ d_h218_ d_hr_ d_hM_ => ?_)⟩
    · omega
    · omega
    · omega
    · refine ⟨sameE hR hN c_hF47_ c_hM_ d_hF220_ d_hM_, i32e ?_⟩
      have e := err_r c_hs49_ (by omega)
      rw [c_hr_, d_hr_, e, d_h218_, q1]
      decide
end
