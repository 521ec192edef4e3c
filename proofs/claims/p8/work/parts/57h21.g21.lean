/-! numbers -/
theorem num_fin {e : Int} {C D C2 D2 M3 Da : mM} {x y : Int32 × Int32 × mM} {zc zd : Int32} {s : Int} {W : Nat} {a T : Int} {E : Nat} (hT : TPE C D) (h : POK e C D) (he : e ≤ 0) (r : NUR C D x y) (hy : ¬ y.1.toInt = 0) (h1 : SP_X1_add 3 0 x.2.1 x.2.2 M3) (hz : zc = M3.1 (4, 0, 0) 6) (h2 : C2 = up M3 (4, 0, 0) 6 (zc + (1 : Int32)))
    (d1 : SP_X12_codes y.2.1 s W a T E y.2.2 Da) (dz : zd = Da.1 (12, 0, 0) 12) (d2 : D2 = up Da (12, 0, 0) 12 (zd + (1 : Int32))) : TPE C2 D2 ∧ POK e C2 D2 ∧ (D.1 (12, 0, 0) 9).toInt ≤ (D2.1 (12, 0, 0) 9).toInt := by
  obtain ⟨r1, r2, r3, r4, r5, r6, r7, r8, r9⟩ := r
  have h0 := h
  obtain ⟨-, p2, p3, p4, -, p6, p7, p8, p9, -⟩ := h0
  have T1 := hT.2.1
  have a1 := x1add h1 (by rw [r8 (1, 3, 0) 2 (by simp)]; omega)
  rcases x12codes d1 with g | ⟨g, g1, g2, g3⟩
  · exact absurd (by rw [r9 _ _ (by simp)]; exact p2) g.1
  · have rc : x.2.2.1 (24, 3, 0) = C.1 (24, 3, 0) := funext fun j => r8 _ _ (by simp)
    have rd : y.2.2.1 (57, 0, 0) = D.1 (57, 0, 0) := funext fun j => r9 _ _ (by simp)
    have c1 : ∀ (c : rf) (k : Nat), ¬ c = (24, 3, 0) → ¬ (c = (1, 3, 0) ∧ k = 2) → ¬ (c = (4, 0, 0) ∧ (k = 3 ∨ k = 6)) → C2.1 c k = C.1 c k := fun c k q1 q2 q3 => by
      rw [zupN h2 (fun z => q3 ⟨z.1, Or.inr z.2⟩), a1.2.2 c k q1 q2]; exact r8 c k (fun z => q3 ⟨z.1, Or.inl z.2⟩)
    have e1 : ∀ (c : rf) (k : Nat), ¬ c = (57, 0, 0) → ¬ (c = (12, 0, 0) ∧ (k = 9 ∨ k = 12 ∨ k = 14)) → D2.1 c k = D.1 c k := fun c k q1 q3 => by
      rw [zupN d2 (fun z => q3 ⟨z.1, Or.inr (Or.inl z.2)⟩), g3 c k q1 (fun z => q3 ⟨z.1, Or.inr (Or.inr z.2)⟩)]; exact r9 c k (fun z => q3 ⟨z.1, Or.inl z.2⟩)
    have D9 : (D2.1 (12, 0, 0) 9).toInt = (D.1 (12, 0, 0) 9).toInt + y.1.toInt := by rw [zupN d2 (by simp), g3 _ _ (by simp) (by simp)]; exact r6
    have c14 : y.2.2.1 (12, 0, 0) 14 = D.1 (12, 0, 0) 14 := r9 _ _ (by simp)
    refine ⟨?_, POK_mk (p := (D.1 (12, 0, 0) 9).toInt + y.1.toInt) (v := x.2.1) (w := y.2.1) h (by omega) ⟨?_, ?_, c1 _ _ (by simp) (by simp) (by simp), c1 _ _ (by simp) (by simp) (by simp), ?_, ?_⟩ ⟨D9, ?_, by rw [e1 _ _ (by simp) (by simp)]; exact p2, e1 _ _ (by simp) (by simp), e1 _ _ (by simp) (by simp), ?_, ?_, e1 _ _ (by simp) (by simp)⟩ ?_ ?_ (by omega), by omega⟩
    · unfold TPE
      rw [c1 _ _ (by simp) (by simp) (by simp), c1 (4, 0, 0) 2 (by simp) (by simp) (by simp), e1 (50, 0, 0) 4 (by simp) (by simp), e1 (12, 0, 0) 10 (by simp) (by simp)]
      refine ⟨hT.1, hT.2.1, fun i hi => ?_, hT.2.2.2⟩
      rw [c1 _ _ (by simp) (by simp) (by simp), e1 _ _ (by simp) (by simp)]
      exact hT.2.2.1 i hi
    · rw [zupN h2 (by simp), a1.2.2 _ _ (by simp) (by simp)]; exact r5
    · rw [zupE h2 rfl rfl, hz, a1.2.2 _ _ (by simp) (by simp), r8 _ _ (by simp)]
    · rw [zupN h2 (by simp), a1.1, r8 (1, 3, 0) 2 (by simp)]
    · rw [show C2.1 (24, 3, 0) = M3.1 (24, 3, 0) from funext fun j => zupN h2 (by simp), a1.2.1, rc, r8 (1, 3, 0) 2 (by simp)]
    · rw [zupE d2 rfl rfl, dz, g3 _ _ (by simp) (by simp), r9 _ _ (by simp)]
    · rw [zupN d2 (by simp), g1, c14]
    · rw [show D2.1 (57, 0, 0) = Da.1 (57, 0, 0) from funext fun j => zupN d2 (by simp), g2, rd, c14]
    · rw [r3, cmI_lo (by omega)]
    · exact ⟨by omega, fun _ => by omega⟩
theorem number_both {e : Int} {C D C2 D2 Da D0 : mM} {w : Int32 × Int32 × mM} {zd : Int32} {s s' : Int} {W W' : Nat} {a a' T T' : Int} {E : Nat} (hT : TPE C D) (h : POK e C D) (he : e ≤ 0) (h1 : SP_X4_readNumber C C2) (hd : RCH (NUd s W a T D0) ((0 : Int32), (0 : Int32), D) w) (hy : ¬ w.1.toInt = 0)
    (fd : 3 ≤ w.1.toInt ∨ (w.1.toInt < 3 ∧ ((w.2.2.1 (50, 0, 0) 4).toInt ≤ (w.2.2.1 (12, 0, 0) 9).toInt ∨ ((w.2.2.1 (12, 0, 0) 9).toInt < (w.2.2.1 (50, 0, 0) 4).toInt ∧ ¬ (48 ≤ (w.2.2.1 (50, 0, 0) (273 + (w.2.2.1 (12, 0, 0) 9).toInt.toNat)).toInt ∧ (w.2.2.1 (50, 0, 0) (273 + (w.2.2.1 (12, 0, 0) 9).toInt.toNat)).toInt ≤ 57)))))
    (d1 : SP_X12_codes w.2.1 s' W' a' T' E w.2.2 Da) (dz : zd = Da.1 (12, 0, 0) 12) (d2 : D2 = up Da (12, 0, 0) 12 (zd + (1 : Int32))) : TPE C2 D2 ∧ POK e C2 D2 ∧ (D.1 (12, 0, 0) 9).toInt ≤ (D2.1 (12, 0, 0) 9).toInt := by
  have h0 : (C.1 (4, 0, 0) 3).toInt = (D.1 (12, 0, 0) 9).toInt ∧ 0 ≤ (D.1 (12, 0, 0) 9).toInt ∧ (D.1 (12, 0, 0) 9).toInt ≤ (D.1 (50, 0, 0) 4).toInt := ⟨h.2.2.1, h.2.2.2.1⟩
  refine xE_SP_X4_readNumber h1 (fun v2_4 hv0_4 hv1_4 v1_4 M_4 hL_4 _ hF_4 => ⟨(fun h2_ M3_ _ hF7_ hs9_ z11_ e12_ z13_ h14_ M15_ hM16_ hM_ => ?_), (fun h2_ z20_ e21_ z22_ e23_ => ⟨(fun h24_ M26_ _ hF30_ hs32_ z34_ e35_ z36_ h37_ M38_ hM39_ hM_ => ?_), (fun h24_ r45_ hs49_ z50_ h51_ => ⟨(fun h52_ M53_ _ hF57_ hs59_ z61_ e62_ z63_ h64_ M65_ hM66_ hM_ => ?_), (fun h52_ h70_ M86_ _ hF90_ hs92_ z94_ e95_ z96_ h97_ M98_ hM99_ hM_ => ?_)⟩)⟩)⟩)
  · have L := num_lock (z := (v2_4, v1_4, M_4)) (C0 := C) hT h0 hL_4 hd (Or.inl h2_) fd
    exact num_fin hT h he L hy hs9_ e12_ (by rw [hM_, hM16_, h14_]) d1 dz d2
  · have L := num_lock (z := (v2_4, v1_4, M_4)) (C0 := C) hT h0 hL_4 hd (Or.inr ⟨h2_, Or.inl (by rw [← e21_, ← e23_]; exact h24_)⟩) fd
    exact num_fin hT h he L hy hs32_ e35_ (by rw [hM_, hM39_, h37_]) d1 dz d2
  · have L := num_lock (z := (v2_4, v1_4, M_4)) (C0 := C) hT h0 hL_4 hd (Or.inr ⟨h2_, Or.inr ⟨by rw [← e21_, ← e23_]; exact h24_, r45_, z50_, by rw [← e21_]; exact hs49_, h51_, Or.inl h52_⟩⟩) fd
    exact num_fin hT h he L hy hs59_ e62_ (by rw [hM_, hM66_, h64_]) d1 dz d2
  · have L := num_lock (z := (v2_4, v1_4, M_4)) (C0 := C) hT h0 hL_4 hd (Or.inr ⟨h2_, Or.inr ⟨by rw [← e21_, ← e23_]; exact h24_, r45_, z50_, by rw [← e21_]; exact hs49_, h51_, Or.inr h70_⟩⟩) fd
    exact num_fin hT h he L hy hs92_ e95_ (by rw [hM_, hM99_, h97_]) d1 dz d2
/-! fails -/
theorem PBD_bad {e : Int} {C D C2 D2 : mM} (hT : TPE C D) (h : POK e C D) (hc : SP_X4_fail C C2) (k13 : ¬ (D2.1 (12, 0, 0) 13).toInt = 0) (kd : ∀ (c : rf) (k : Nat), ¬ (c = (12, 0, 0) ∧ k = 13) → D2.1 c k = D.1 c k) : PRX e C C2 D D2 := by
  obtain ⟨p1, p2, p3, p4, -⟩ := h
  rcases x4fail hc with f | f
  · omega
  · refine ⟨⟨?_, Or.inr ?_⟩, by rw [kd (12, 0, 0) 9 (by simp)]; exact Int.le_refl _⟩
    · unfold TPE
      rw [zupR f.2 (by simp), zupN (k' := 2) f.2 (by simp), kd (50, 0, 0) 4 (by simp), kd (12, 0, 0) 10 (by simp)]
      refine ⟨hT.1, hT.2.1, fun i hi => ?_, hT.2.2.2⟩
      rw [zupR f.2 (by simp), kd _ _ (by simp)]
      exact hT.2.2.1 i hi
    · unfold PBD
      rw [zupE f.2 rfl rfl, kd (12, 0, 0) 9 (by simp), kd (50, 0, 0) 4 (by simp)]
      omega
/-- in a wrong text nothing more is read -/
theorem PBD_keep {e : Int} {C D C2 D2 : mM} (hT : TPE C2 D2) (h : PBD C D) (kc : C2.1 (4, 0, 0) 4 = C.1 (4, 0, 0) 4) (k13 : ¬ (D2.1 (12, 0, 0) 13).toInt = 0) (k9 : D2.1 (12, 0, 0) 9 = D.1 (12, 0, 0) 9) (k4 : D2.1 (50, 0, 0) 4 = D.1 (50, 0, 0) 4) : PRX e C C2 D D2 := by
  refine ⟨⟨hT, Or.inr ?_⟩, by rw [k9]; exact Int.le_refl _⟩
  unfold PBD at h ⊢
  rw [kc, k9, k4]
  exact ⟨h.1, k13, h.2.2⟩
/-! names -/
theorem nm_fin {e : Int} {C D C2 D2 Ma M3 Da Db Dc : mM} {z r zc z0 v w zd zp zq : Int32} {s : Int} {W : Nat} {a T : Int} {E : Nat} (hT : TPE C D) (h : POK e C D) (he : e ≤ 0) (qN : (D.1 (12, 0, 0) 9).toInt < (D.1 (50, 0, 0) 4).toInt) (zr : z = r) (hr : 0 ≤ r.toInt ∧ r.toInt < (nnU (D.1 (12, 0, 0) 10).toInt.toNat : Int) ∧ r.toInt ≤ 4)
    (a0 : z0 = C.1 (4, 0, 0) 3) (a1 : Ma = up C (4, 0, 0) 3 (z0 + (1 : Int32))) (av : v = (1000 : Int32) + z) (a2 : SP_X1_add 3 0 v Ma M3) (hz : zc = M3.1 (4, 0, 0) 6) (h2 : C2 = up M3 (4, 0, 0) 6 (zc + (1 : Int32)))
    (b1 : Da = up D (12, 0, 0) 13 0) (bw : w.toInt = 1000 + r.toInt) (d1 : SP_X12_codes w s W a T E Da Db) (dz : zd = Db.1 (12, 0, 0) 12) (d2 : Dc = up Db (12, 0, 0) 12 (zd + (1 : Int32))) (bp : zp = Dc.1 (12, 0, 0) 9) (bq : zq.toInt = zp.toInt + 1) (d3 : D2 = up Dc (12, 0, 0) 9 zq) : PRX e C C2 D D2 := by
  have q0 := il_0
  have q1k : (1000 : Int32).toInt = 1000 := by decide
  have h0 := h
  obtain ⟨-, p2, p3, p4, -, p6, p7, p8, p9, -⟩ := h0
  have T1 := hT.2.1
  have x1 := x1add a2 (by rw [a1, up_other _ _ (by simp)]; omega)
  rcases x12codes d1 with g | ⟨g, g1, g2, g3⟩
  · exact absurd (by rw [b1, up_same]; exact q0) g.1
  · have ky : ∀ (c : rf) (k : Nat), ¬ (c = (4, 0, 0) ∧ k = 3) → Ma.1 c k = C.1 c k := fun c k q => zupN a1 q
    have kx : ∀ (c : rf) (k : Nat), ¬ (c = (12, 0, 0) ∧ k = 13) → Da.1 c k = D.1 c k := fun c k q => zupN b1 q
    have rc : Ma.1 (24, 3, 0) = C.1 (24, 3, 0) := funext fun j => ky _ _ (by simp)
    have rd : Da.1 (57, 0, 0) = D.1 (57, 0, 0) := funext fun j => kx _ _ (by simp)
    have c1 : ∀ (c : rf) (k : Nat), ¬ c = (24, 3, 0) → ¬ (c = (1, 3, 0) ∧ k = 2) → ¬ (c = (4, 0, 0) ∧ (k = 3 ∨ k = 6)) → C2.1 c k = C.1 c k := fun c k q1 q2 q3 => by
      rw [zupN h2 (fun z => q3 ⟨z.1, Or.inr z.2⟩), x1.2.2 c k q1 q2]; exact ky c k (fun z => q3 ⟨z.1, Or.inl z.2⟩)
    have e1 : ∀ (c : rf) (k : Nat), ¬ c = (57, 0, 0) → ¬ (c = (12, 0, 0) ∧ (k = 9 ∨ k = 12 ∨ k = 13 ∨ k = 14)) → D2.1 c k = D.1 c k := fun c k q1 q3 => by
      rw [zupN d3 (fun z => q3 ⟨z.1, Or.inl z.2⟩), zupN d2 (fun z => q3 ⟨z.1, Or.inr (Or.inl z.2)⟩), g3 c k q1 (fun z => q3 ⟨z.1, Or.inr (Or.inr (Or.inr z.2))⟩)]; exact kx c k (fun z => q3 ⟨z.1, Or.inr (Or.inr (Or.inl z.2))⟩)
    have z9 : zp.toInt = (D.1 (12, 0, 0) 9).toInt := by rw [bp, zupN d2 (by simp), g3 _ _ (by simp) (by simp), kx _ _ (by simp)]
    have D9 : (D2.1 (12, 0, 0) 9).toInt = (D.1 (12, 0, 0) 9).toInt + 1 := by rw [zupE d3 rfl rfl]; omega
    have zz := eT a0
    have K : POK e C2 D2 := POK_mk (p := (D.1 (12, 0, 0) 9).toInt + 1) (v := v) (w := w) h (by omega) ⟨by rw [zupN h2 (by simp), x1.2.2 _ _ (by simp) (by simp), zupE a1 rfl rfl, addI (x := z0) rfl il_1 (by omega) (by omega)]; omega, by rw [zupE h2 rfl rfl, hz, x1.2.2 _ _ (by simp) (by simp), ky _ _ (by simp)], c1 _ _ (by simp) (by simp) (by simp), c1 _ _ (by simp) (by simp) (by simp), by rw [zupN h2 (by simp), x1.1, ky _ _ (by simp)], by rw [show C2.1 (24, 3, 0) = M3.1 (24, 3, 0) from funext fun j => zupN h2 (by simp), x1.2.1, rc, ky _ _ (by simp)]⟩
      ⟨D9, by rw [zupN d3 (by simp), zupE d2 rfl rfl, dz, g3 _ _ (by simp) (by simp), kx _ _ (by simp)], by rw [zupN d3 (by simp), zupN d2 (by simp), g3 _ _ (by simp) (by simp), b1, up_same]; exact q0, e1 _ _ (by simp) (by simp), e1 _ _ (by simp) (by simp), by rw [zupN d3 (by simp), zupN d2 (by simp), g1, kx _ _ (by simp)], by rw [show D2.1 (57, 0, 0) = Db.1 (57, 0, 0) from funext fun j => by rw [zupN d3 (by simp), zupN d2 (by simp)], g2, rd, kx (12, 0, 0) 14 (by simp)], e1 _ _ (by simp) (by simp)⟩
      (by rw [av, addI q1k (show z.toInt = r.toInt by rw [zr]) (by omega) (by omega), bw, cmI_lo (by omega)]) ⟨by omega, fun _ => by omega⟩ (by omega)
    refine ⟨⟨?_, Or.inl K⟩, by omega⟩
    unfold TPE
    rw [c1 _ _ (by simp) (by simp) (by simp), c1 (4, 0, 0) 2 (by simp) (by simp) (by simp), e1 (50, 0, 0) 4 (by simp) (by simp), e1 (12, 0, 0) 10 (by simp) (by simp)]
    refine ⟨hT.1, hT.2.1, fun i hi => ?_, hT.2.2.2⟩
    rw [c1 _ _ (by simp) (by simp) (by simp), e1 _ _ (by simp) (by simp)]
    exact hT.2.2.1 i hi

def NAg (z : Int32) (C C2 : mM) : Prop := ∃ (z0 w zc : Int32) (Ma M3 : mM), z0 = C.1 (4, 0, 0) 3 ∧ Ma = up C (4, 0, 0) 3 (z0 + (1 : Int32)) ∧ w = (1000 : Int32) + z ∧ SP_X1_add 3 0 w Ma M3 ∧ zc = M3.1 (4, 0, 0) 6 ∧ C2 = up M3 (4, 0, 0) 6 (zc + (1 : Int32))
theorem name_c {v : Int32} {C C2 : mM} {u : Nat} (h : SP_X4_readName v C C2) (hu : (C.1 (4, 0, 0) 2).toInt = (u : Int) + 1) : (((v.toInt < 0 ∨ 127 < v.toInt) ∨ ∀ j : Nat, j < nnU u → ¬ (nmL u j).toInt = v.toInt) ∧ SP_X4_fail C C2) ∨ ((0 ≤ v.toInt ∧ v.toInt ≤ 127) ∧ ∃ z : Int32, (0 ≤ z.toInt ∧ z.toInt < (nnU u : Int) ∧ (nmL u z.toInt.toNat).toInt = v.toInt) ∧ NAg z C C2) := by
  have q1 := il_1
  have q2 : (2 : Int32).toInt = 2 := by decide
  have q3 : (3 : Int32).toInt = 3 := by decide
  refine xE_SP_X4_readName h ⟨(fun h1_ M3_ _ hF7_ hs9_ hM_ => ?_), (fun h1_ => ⟨(fun h12_ => ⟨(fun h13_ z14_ h15_ z16_ z16_h => ⟨(fun h17_ z18_ e19_ z20_ h21_ M22_ hM23_ z28_ h29_ _ M30_ _ hF34_ hs36_ z39_ e40_ z41_ h42_ M43_ hM44_ hM_ => ?_), (fun h17_ M49_ _ hF53_ hs55_ hM_ => ?_)⟩), (fun h13_ z58_ h59_ z60_ z60_h => ⟨(fun h61_ z62_ e63_ z64_ h65_ M66_ hM67_ z72_ h73_ _ M74_ _ hF78_ hs80_ z83_ e84_ z85_ h86_ M87_ hM88_ hM_ => ?_), (fun h61_ M93_ _ hF97_ hs99_ hM_ => ?_)⟩), (fun h13_ z102_ h103_ z104_ z104_h => ⟨(fun h105_ z106_ e107_ z108_ h109_ M110_ hM111_ z116_ h117_ _ M118_ _ hF122_ hs124_ z127_ e128_ z129_ h130_ M131_ hM132_ hM_ => ?_), (fun h105_ M137_ _ hF141_ hs143_ hM_ => ?_)⟩)⟩), (fun h12_ M147_ _ hF151_ hs153_ hM_ => ?_)⟩)⟩
  · left
    exact ⟨Or.inl (Or.inl h1_), by rw [hM_]; exact hs9_⟩
  · obtain rfl : u = 0 := by have := eT h13_; omega
    rw [h15_, b16 ⟨h1_, h12_⟩] at z16_h
    have nm := ixo0 z16_h ⟨h1_, h12_⟩
    rcases nm with nm | nm
    · right
      exact ⟨⟨h1_, h12_⟩, z16_, ⟨nm.1, by rw [show nnU 0 = 4 by decide]; exact nm.2.1, nm.2.2⟩, z18_, z28_, z39_, M22_, M30_, e19_, by rw [hM23_, h21_], h29_, hs36_, e40_, by rw [hM_, hM44_, h42_]⟩
    · omega
  · obtain rfl : u = 0 := by have := eT h13_; omega
    rw [h15_, b16 ⟨h1_, h12_⟩] at z16_h
    have nm := ixo0 z16_h ⟨h1_, h12_⟩
    rcases nm with nm | nm
    · omega
    · left
      exact ⟨Or.inr (by rw [show nnU 0 = 4 by decide]; exact nm.2), by rw [hM_]; exact hs55_⟩
  · obtain rfl : u = 1 := by have := eT h13_; omega
    rw [h59_, b16 ⟨h1_, h12_⟩] at z60_h
    have nm := ixo1 z60_h ⟨h1_, h12_⟩
    rcases nm with nm | nm
    · right
      exact ⟨⟨h1_, h12_⟩, z60_, ⟨nm.1, by rw [show nnU 1 = 3 by decide]; exact nm.2.1, nm.2.2⟩, z62_, z72_, z83_, M66_, M74_, e63_, by rw [hM67_, h65_], h73_, hs80_, e84_, by rw [hM_, hM88_, h86_]⟩
    · omega
  · obtain rfl : u = 1 := by have := eT h13_; omega
    rw [h59_, b16 ⟨h1_, h12_⟩] at z60_h
    have nm := ixo1 z60_h ⟨h1_, h12_⟩
    rcases nm with nm | nm
    · omega
    · left
      exact ⟨Or.inr (by rw [show nnU 1 = 3 by decide]; exact nm.2), by rw [hM_]; exact hs99_⟩
  · obtain rfl : u = 2 := by have := eT h13_; omega
    rw [h103_, b16 ⟨h1_, h12_⟩] at z104_h
    have nm := ixo2 z104_h ⟨h1_, h12_⟩
    rcases nm with nm | nm
    · right
      exact ⟨⟨h1_, h12_⟩, z104_, ⟨nm.1, by rw [show nnU 2 = 5 by decide]; exact nm.2.1, nm.2.2⟩, z106_, z116_, z127_, M110_, M118_, e107_, by rw [hM111_, h109_], h117_, hs124_, e128_, by rw [hM_, hM132_, h130_]⟩
    · omega
  · obtain rfl : u = 2 := by have := eT h13_; omega
    rw [h103_, b16 ⟨h1_, h12_⟩] at z104_h
    have nm := ixo2 z104_h ⟨h1_, h12_⟩
    rcases nm with nm | nm
    · omega
    · left
      exact ⟨Or.inr (by rw [show nnU 2 = 5 by decide]; exact nm.2), by rw [hM_]; exact hs143_⟩
  · left
    exact ⟨Or.inl (Or.inr h12_), by rw [hM_]; exact hs153_⟩
