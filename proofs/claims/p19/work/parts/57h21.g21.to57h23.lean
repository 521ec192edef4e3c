section
/-! numbers -/
theorem num_fin {e : Int} {C D C2 D2 M3 Da : mM} {x y : Int32 × Int32 × mM} {zc zd : Int32} {s : Int} {W : Nat} {a T : Int} {E : Nat} (hT : TPE C D) (h : POK e C D) (he : e ≤ 0) (r : NUR C D x y) (hy : ¬ y.1.toInt = 0) (h1 : SP_X1_add 3 0 x.2.1 x.2.2 M3) (hz : zc = M3.1 (4, 0, 0) 6) (h2 : C2 = up M3 (4, 0, 0) 6 (zc + (1 : Int32)))
    (d1 : SP_X12_codes y.2.1 s W a T E y.2.2 Da) (dz : zd = Da.1 (12, 0, 0) 12) (d2 : D2 = up Da (12, 0, 0) 12 (zd + (1 : Int32))) : TPE C2 D2 ∧ POK e C2 D2 ∧ (D.1 (12, 0, 0) 9).toInt ≤ (D2.1 (12, 0, 0) 9).toInt := by
  obtain ⟨r1, r2, r3, r4, r5, r6, r7, r8, r9⟩ := r
  have h0 := h
  obtain ⟨-, p2, p3, p4, -, p6, p7, p8, p9, -⟩ := h0
  have T1 := hT.2.1
  have a1 := x1add h1 (by rw [r8 (1, 3, 0) 2 (by simp)]; omega)
  rcases x12codes d1 with g | ⟨g, g1, g2, g3⟩
  · exact absurd (by rw [r9 _ _ (by simp)]; exact p2) g.1
  · have rc : x.2.2.1 (24, 3, 0) = C.1 (24, 3, 0) := funext fun j => r8 _ _ (by simp)
    have rd : y.2.2.1 (57, 0, 0) = D.1 (57, 0, 0) := funext fun j => r9 _ _ (by simp)
    have c1 : ∀ (c : rf) (k : Nat), ¬ c = (24, 3, 0) → ¬ (c = (1, 3, 0) ∧ k = 2) → ¬ (c = (4, 0, 0) ∧ (k = 3 ∨ k = 6)) → C2.1 c k = C.1 c k := fun c k q1 q2 q3 => by
      rw [zupN h2 (fun z => q3 ⟨z.1, Or.inr z.2⟩), a1.2.2 c k q1 q2]; exact r8 c k (fun z => q3 ⟨z.1, Or.inl z.2⟩)
    have e1 : ∀ (c : rf) (k : Nat), ¬ c = (57, 0, 0) → ¬ (c = (12, 0, 0) ∧ (k = 9 ∨ k = 12 ∨ k = 14)) → D2.1 c k = D.1 c k := fun c k q1 q3 => by
      rw [zupN d2 (fun z => q3 ⟨z.1, Or.inr (Or.inl z.2)⟩), g3 c k q1 (fun z => q3 ⟨z.1, Or.inr (Or.inr z.2)⟩)]; exact r9 c k (fun z => q3 ⟨z.1, Or.inl z.2⟩)
    have D9 : (D2.1 (12, 0, 0) 9).toInt = (D.1 (12, 0, 0) 9).toInt + y.1.toInt := by rw [zupN d2 (by simp), g3 _ _ (by simp) (by simp)]; exact r6
    have c14 : y.2.2.1 (12, 0, 0) 14 = D.1 (12, 0, 0) 14 := r9 _ _ (by simp)
    refine ⟨?_, POK_mk (p := (D.1 (12, 0, 0) 9).toInt + y.1.toInt) (v := x.2.1) (w := y.2.1) h (by omega) ⟨?_, ?_, c1 _ _ (by simp) (by simp) (by simp), c1 _ _ (by simp) (by simp) (by simp), ?_, ?_⟩ ⟨D9, ?_, by rw [e1 _ _ (by simp) (by simp)]; exact p2, e1 _ _ (by simp) (by simp), e1 _ _ (by simp) (by simp), ?_, ?_, e1 _ _ (by simp) (by simp)⟩ ?_ ?_ (by omega), by omega⟩
    · unfold TPE
      rw [c1 _ _ (by simp) (by simp) (by simp), c1 (4, 0, 0) 2 (by simp) (by simp) (by simp), e1 (50, 0, 0) 4 (by simp) (by simp), e1 (12, 0, 0) 10 (by simp) (by simp)]
      refine ⟨hT.1, hT.2.1, fun i hi => ?_, hT.2.2.2⟩
      rw [c1 _ _ (by simp) (by simp) (by simp), e1 _ _ (by simp) (by simp)]
      exact hT.2.2.1 i hi
    · rw [zupN h2 (by simp), a1.2.2 _ _ (by simp) (by simp)]; exact r5
    · rw [zupE h2 rfl rfl, hz, a1.2.2 _ _ (by simp) (by simp), r8 _ _ (by simp)]
    · rw [zupN h2 (by simp), a1.1, r8 (1, 3, 0) 2 (by simp)]
    · rw [show C2.1 (24, 3, 0) = M3.1 (24, 3, 0) from funext fun j => zupN h2 (by simp), a1.2.1, rc, r8 (1, 3, 0) 2 (by simp)]
    · rw [zupE d2 rfl rfl, dz, g3 _ _ (by simp) (by simp), r9 _ _ (by simp)]
    · rw [zupN d2 (by simp), g1, c14]
    · rw [show D2.1 (57, 0, 0) = Da.1 (57, 0, 0) from funext fun j => zupN d2 (by simp), g2, rd, c14]
    · rw [r3, cmI_lo (by omega)]
    · exact ⟨by omega, fun _ => by omega⟩
theorem number_both {e : Int} {C D C2 D2 Da D0 : mM} {w : Int32 × Int32 × mM} {zd : Int32} {s s' : Int} {W W' : Nat} {a a' T T' : Int} {E : Nat} (hT : TPE C D) (h : POK e C D) (he : e ≤ 0) (h1 : SP_X4_readNumber C C2) (hd : RCH (NUd s W a T D0) ((0 : Int32), (0 : Int32), D) w) (hy : ¬ w.1.toInt = 0)
    (fd : 3 ≤ w.1.toInt ∨ (w.1.toInt < 3 ∧ ((w.2.2.1 (50, 0, 0) 4).toInt ≤ (w.2.2.1 (12, 0, 0) 9).toInt ∨ ((w.2.2.1 (12, 0, 0) 9).toInt < (w.2.2.1 (50, 0, 0) 4).toInt ∧ ¬ (48 ≤ (w.2.2.1 (50, 0, 0) (273 + (w.2.2.1 (12, 0, 0) 9).toInt.toNat)).toInt ∧ (w.2.2.1 (50, 0, 0) (273 + (w.2.2.1 (12, 0, 0) 9).toInt.toNat)).toInt ≤ 57)))))
    (d1 : SP_X12_codes w.2.1 s' W' a' T' E w.2.2 Da) (dz : zd = Da.1 (12, 0, 0) 12) (d2 : D2 = up Da (12, 0, 0) 12 (zd + (1 : Int32))) : TPE C2 D2 ∧ POK e C2 D2 ∧ (D.1 (12, 0, 0) 9).toInt ≤ (D2.1 (12, 0, 0) 9).toInt := by
  have h0 : (C.1 (4, 0, 0) 3).toInt = (D.1 (12, 0, 0) 9).toInt ∧ 0 ≤ (D.1 (12, 0, 0) 9).toInt ∧ (D.1 (12, 0, 0) 9).toInt ≤ (D.1 (50, 0, 0) 4).toInt := ⟨h.2.2.1, h.2.2.2.1⟩
  refine xE_SP_X4_readNumber h1 (fun v2_4 hv0_4 hv1_4 v1_4 M_4 hL_4 _ hF_4 => ⟨(fun h2_ M3_ _ hF7_ hs9_ z11_ e12_ z13_ h14_ M15_ hM16_ hM_ => ?_), (fun h2_ z20_ e21_ z22_ e23_ => ⟨(fun h24_ M26_ _ hF30_ hs32_ z34_ e35_ z36_ h37_ M38_ hM39_ hM_ => ?_), (fun h24_ r45_ hs49_ z50_ h51_ => ⟨(fun h52_ M53_ _ hF57_ hs59_ z61_ e62_ z63_ h64_ M65_ hM66_ hM_ => ?_), (fun h52_ h70_ M86_ _ hF90_ hs92_ z94_ e95_ z96_ h97_ M98_ hM99_ hM_ => ?_)⟩)⟩)⟩)
  · have L := num_lock (z := (v2_4, v1_4, M_4)) (C0 := C) hT h0 hL_4 hd (Or.inl h2_) fd
    exact num_fin hT h he L hy hs9_ e12_ (by rw [hM_, hM16_, h14_]) d1 dz d2
  · have L := num_lock (z := (v2_4, v1_4, M_4)) (C0 := C) hT h0 hL_4 hd (Or.inr ⟨h2_, Or.inl (by rw [← e21_, ← e23_]; exact h24_)⟩) fd
    exact num_fin hT h he L hy hs32_ e35_ (by rw [hM_, hM39_, h37_]) d1 dz d2
  · have L := num_lock (z := (v2_4, v1_4, M_4)) (C0 := C) hT h0 hL_4 hd (Or.inr ⟨h2_, Or.inr ⟨by rw [← e21_, ← e23_]; exact h24_, r45_, z50_, by rw [← e21_]; exact hs49_, h51_, Or.inl h52_⟩⟩) fd
    exact num_fin hT h he L hy hs59_ e62_ (by rw [hM_, hM66_, h64_]) d1 dz d2
  · have L := num_lock (z := (v2_4, v1_4, M_4)) (C0 := C) hT h0 hL_4 hd (Or.inr ⟨h2_, Or.inr ⟨by rw [← e21_, ← e23_]; exact h24_, r45_, z50_, by rw [← e21_]; exact hs49_, h51_, Or.inr h70_⟩⟩) fd
    exact num_fin hT h he L hy hs92_ e95_ (by rw [hM_, hM99_, h97_]) d1 dz d2
/-! fails -/
theorem PBD_bad {e : Int} {C D C2 D2 : mM} (hT : TPE C D) (h : POK e C D) (hc : SP_X4_fail C C2) (k13 : ¬ (D2.1 (12, 0, 0) 13).toInt = 0) (kd : ∀ (c : rf) (k : Nat), ¬ (c = (12, 0, 0) ∧ k = 13) → D2.1 c k = D.1 c k) : PRX e C C2 D D2 := by
  obtain ⟨p1, p2, p3, p4, -⟩ := h
  rcases x4fail hc with f | f
  · omega
  · refine ⟨⟨?_, Or.inr ?_⟩, by rw [kd (12, 0, 0) 9 (by simp)]; exact Int.le_refl _⟩
    · unfold TPE
      rw [zupR f.2 (by simp), zupN (k' := 2) f.2 (by simp), kd (50, 0, 0) 4 (by simp), kd (12, 0, 0) 10 (by simp)]
      refine ⟨hT.1, hT.2.1, fun i hi => ?_, hT.2.2.2⟩
      rw [zupR f.2 (by simp), kd _ _ (by simp)]
      exact hT.2.2.1 i hi
    · unfold PBD
      rw [zupE f.2 rfl rfl, kd (12, 0, 0) 9 (by simp), kd (50, 0, 0) 4 (by simp)]
      omega
/-- in a wrong text nothing more is read -/
theorem PBD_keep {e : Int} {C D C2 D2 : mM} (hT : TPE C2 D2) (h : PBD C D) (kc : C2.1 (4, 0, 0) 4 = C.1 (4, 0, 0) 4) (k13 : ¬ (D2.1 (12, 0, 0) 13).toInt = 0) (k9 : D2.1 (12, 0, 0) 9 = D.1 (12, 0, 0) 9) (k4 : D2.1 (50, 0, 0) 4 = D.1 (50, 0, 0) 4) : PRX e C C2 D D2 := by
  refine ⟨⟨hT, Or.inr ?_⟩, by rw [k9]; exact Int.le_refl _⟩
  unfold PBD at h ⊢
  rw [kc, k9, k4]
  exact ⟨h.1, k13, h.2.2⟩
/-! names -/
theorem nm_fin {e : Int} {C D C2 D2 Ma M3 Da Db Dc : mM} {z r zc z0 v w zd zp zq : Int32} {s : Int} {W : Nat} {a T : Int} {E : Nat} (hT : TPE C D) (h : POK e C D) (he : e ≤ 0) (qN : (D.1 (12, 0, 0) 9).toInt < (D.1 (50, 0, 0) 4).toInt) (zr : z = r) (hr : 0 ≤ r.toInt ∧ r.toInt < (nnU (D.1 (12, 0, 0) 10).toInt.toNat : Int) ∧ r.toInt ≤ 4)
    (a0 : z0 = C.1 (4, 0, 0) 3) (a1 : Ma = up C (4, 0, 0) 3 (z0 + (1 : Int32))) (av : v = (1000 : Int32) + z) (a2 : SP_X1_add 3 0 v Ma M3) (hz : zc = M3.1 (4, 0, 0) 6) (h2 : C2 = up M3 (4, 0, 0) 6 (zc + (1 : Int32)))
    (b1 : Da = up D (12, 0, 0) 13 0) (bw : w.toInt = 1000 + r.toInt) (d1 : SP_X12_codes w s W a T E Da Db) (dz : zd = Db.1 (12, 0, 0) 12) (d2 : Dc = up Db (12, 0, 0) 12 (zd + (1 : Int32))) (bp : zp = Dc.1 (12, 0, 0) 9) (bq : zq.toInt = zp.toInt + 1) (d3 : D2 = up Dc (12, 0, 0) 9 zq) : PRX e C C2 D D2 := by
  have q0 := il_0
  have q1k : (1000 : Int32).toInt = 1000 := by decide
  have h0 := h
  obtain ⟨-, p2, p3, p4, -, p6, p7, p8, p9, -⟩ := h0
  have T1 := hT.2.1
  have x1 := x1add a2 (by rw [a1, up_other _ _ (by simp)]; omega)
  rcases x12codes d1 with g | ⟨g, g1, g2, g3⟩
  · exact absurd (by rw [b1, up_same]; exact q0) g.1
  · have ky : ∀ (c : rf) (k : Nat), ¬ (c = (4, 0, 0) ∧ k = 3) → Ma.1 c k = C.1 c k := fun c k q => zupN a1 q
    have kx : ∀ (c : rf) (k : Nat), ¬ (c = (12, 0, 0) ∧ k = 13) → Da.1 c k = D.1 c k := fun c k q => zupN b1 q
    have rc : Ma.1 (24, 3, 0) = C.1 (24, 3, 0) := funext fun j => ky _ _ (by simp)
    have rd : Da.1 (57, 0, 0) = D.1 (57, 0, 0) := funext fun j => kx _ _ (by simp)
    have c1 : ∀ (c : rf) (k : Nat), ¬ c = (24, 3, 0) → ¬ (c = (1, 3, 0) ∧ k = 2) → ¬ (c = (4, 0, 0) ∧ (k = 3 ∨ k = 6)) → C2.1 c k = C.1 c k := fun c k q1 q2 q3 => by
      rw [zupN h2 (fun z => q3 ⟨z.1, Or.inr z.2⟩), x1.2.2 c k q1 q2]; exact ky c k (fun z => q3 ⟨z.1, Or.inl z.2⟩)
    have e1 : ∀ (c : rf) (k : Nat), ¬ c = (57, 0, 0) → ¬ (c = (12, 0, 0) ∧ (k = 9 ∨ k = 12 ∨ k = 13 ∨ k = 14)) → D2.1 c k = D.1 c k := fun c k q1 q3 => by
      rw [zupN d3 (fun z => q3 ⟨z.1, Or.inl z.2⟩), zupN d2 (fun z => q3 ⟨z.1, Or.inr (Or.inl z.2)⟩), g3 c k q1 (fun z => q3 ⟨z.1, Or.inr (Or.inr (Or.inr z.2))⟩)]; exact kx c k (fun z => q3 ⟨z.1, Or.inr (Or.inr (Or.inl z.2))⟩)
    have z9 : zp.toInt = (D.1 (12, 0, 0) 9).toInt := by rw [bp, zupN d2 (by simp), g3 _ _ (by simp) (by simp), kx _ _ (by simp)]
    have D9 : (D2.1 (12, 0, 0) 9).toInt = (D.1 (12, 0, 0) 9).toInt + 1 := by rw [zupE d3 rfl rfl]; omega
    have zz := eT a0
    have K : POK e C2 D2 := POK_mk (p := (D.1 (12, 0, 0) 9).toInt + 1) (v := v) (w := w) h (by omega) ⟨by rw [zupN h2 (by simp), x1.2.2 _ _ (by simp) (by simp), zupE a1 rfl rfl, addI (x := z0) rfl il_1 (by omega) (by omega)]; omega, by rw [zupE h2 rfl rfl, hz, x1.2.2 _ _ (by simp) (by simp), ky _ _ (by simp)], c1 _ _ (by simp) (by simp) (by simp), c1 _ _ (by simp) (by simp) (by simp), by rw [zupN h2 (by simp), x1.1, ky _ _ (by simp)], by rw [show C2.1 (24, 3, 0) = M3.1 (24, 3, 0) from funext fun j => zupN h2 (by simp), x1.2.1, rc, ky _ _ (by simp)]⟩
      ⟨D9, by rw [zupN d3 (by simp), zupE d2 rfl rfl, dz, g3 _ _ (by simp) (by simp), kx _ _ (by simp)], by rw [zupN d3 (by simp), zupN d2 (by simp), g3 _ _ (by simp) (by simp), b1, up_same]; exact q0, e1 _ _ (by simp) (by simp), e1 _ _ (by simp) (by simp), by rw [zupN d3 (by simp), zupN d2 (by simp), g1, kx _ _ (by simp)], by rw [show D2.1 (57, 0, 0) = Db.1 (57, 0, 0) from funext fun j => by rw [zupN d3 (by simp), zupN d2 (by simp)], g2, rd, kx (12, 0, 0) 14 (by simp)], e1 _ _ (by simp) (by simp)⟩
      (by rw [av, addI q1k (show z.toInt = r.toInt by rw [zr]) (by omega) (by omega), bw, cmI_lo (by omega)]) ⟨by omega, fun _ => by omega⟩ (by omega)
    refine ⟨⟨?_, Or.inl K⟩, by omega⟩
    unfold TPE
    rw [c1 _ _ (by simp) (by simp) (by simp), c1 (4, 0, 0) 2 (by simp) (by simp) (by simp), e1 (50, 0, 0) 4 (by simp) (by simp), e1 (12, 0, 0) 10 (by simp) (by simp)]
    refine ⟨hT.1, hT.2.1, fun i hi => ?_, hT.2.2.2⟩
    rw [c1 _ _ (by simp) (by simp) (by simp), e1 _ _ (by simp) (by simp)]
    exact hT.2.2.1 i hi

def NAg (z : Int32) (C C2 : mM) : Prop := ∃ (z0 w zc : Int32) (Ma M3 : mM), z0 = C.1 (4, 0, 0) 3 ∧ Ma = up C (4, 0, 0) 3 (z0 + (1 : Int32)) ∧ w = (1000 : Int32) + z ∧ SP_X1_add 3 0 w Ma M3 ∧ zc = M3.1 (4, 0, 0) 6 ∧ C2 = up M3 (4, 0, 0) 6 (zc + (1 : Int32))
theorem name_c {v : Int32} {C C2 : mM} {u : Nat} (h : SP_X4_readName v C C2) (hu : (C.1 (4, 0, 0) 2).toInt = (u : Int) + 1) : (((v.toInt < 0 ∨ 127 < v.toInt) ∨ ∀ j : Nat, j < nnU u → ¬ (nmL u j).toInt = v.toInt) ∧ SP_X4_fail C C2) ∨ ((0 ≤ v.toInt ∧ v.toInt ≤ 127) ∧ ∃ z : Int32, (0 ≤ z.toInt ∧ z.toInt < (nnU u : Int) ∧ (nmL u z.toInt.toNat).toInt = v.toInt) ∧ NAg z C C2) := by
  have q1 := il_1
  have q2 : (2 : Int32).toInt = 2 := by decide
  have q3 : (3 : Int32).toInt = 3 := by decide
  refine xE_SP_X4_readName h ⟨(fun h1_ M3_ _ hF7_ hs9_ hM_ => ?_), (fun h1_ => ⟨(fun h12_ => ⟨(fun h13_ z14_ h15_ z16_ z16_h => ⟨(fun h17_ z18_ e19_ z20_ h21_ M22_ hM23_ z28_ h29_ _ M30_ _ hF34_ hs36_ z39_ e40_ z41_ h42_ M43_ hM44_ hM_ => ?_), (fun h17_ M49_ _ hF53_ hs55_ hM_ => ?_)⟩), (fun h13_ z58_ h59_ z60_ z60_h => ⟨(fun h61_ z62_ e63_ z64_ h65_ M66_ hM67_ z72_ h73_ _ M74_ _ hF78_ hs80_ z83_ e84_ z85_ h86_ M87_ hM88_ hM_ => ?_), (fun h61_ M93_ _ hF97_ hs99_ hM_ => ?_)⟩), (fun h13_ z102_ h103_ z104_ z104_h => ⟨(fun h105_ z106_ e107_ z108_ h109_ M110_ hM111_ z116_ h117_ _ M118_ _ hF122_ hs124_ z127_ e128_ z129_ h130_ M131_ hM132_ hM_ => ?_), (fun h105_ M137_ _ hF141_ hs143_ hM_ => ?_)⟩)⟩), (fun h12_ M147_ _ hF151_ hs153_ hM_ => ?_)⟩)⟩
  · left
    exact ⟨Or.inl (Or.inl h1_), by rw [hM_]; exact hs9_⟩
  · obtain rfl : u = 0 := by have := eT h13_; omega
    rw [h15_, b16 ⟨h1_, h12_⟩] at z16_h
    have nm := ixo0 z16_h ⟨h1_, h12_⟩
    rcases nm with nm | nm
    · right
      exact ⟨⟨h1_, h12_⟩, z16_, ⟨nm.1, by rw [show nnU 0 = 4 by decide]; exact nm.2.1, nm.2.2⟩, z18_, z28_, z39_, M22_, M30_, e19_, by rw [hM23_, h21_], h29_, hs36_, e40_, by rw [hM_, hM44_, h42_]⟩
    · omega
  · obtain rfl : u = 0 := by have := eT h13_; omega
    rw [h15_, b16 ⟨h1_, h12_⟩] at z16_h
    have nm := ixo0 z16_h ⟨h1_, h12_⟩
    rcases nm with nm | nm
    · omega
    · left
      exact ⟨Or.inr (by rw [show nnU 0 = 4 by decide]; exact nm.2), by rw [hM_]; exact hs55_⟩
  · obtain rfl : u = 1 := by have := eT h13_; omega
    rw [h59_, b16 ⟨h1_, h12_⟩] at z60_h
    have nm := ixo1 z60_h ⟨h1_, h12_⟩
    rcases nm with nm | nm
    · right
      exact ⟨⟨h1_, h12_⟩, z60_, ⟨nm.1, by rw [show nnU 1 = 3 by decide]; exact nm.2.1, nm.2.2⟩, z62_, z72_, z83_, M66_, M74_, e63_, by rw [hM67_, h65_], h73_, hs80_, e84_, by rw [hM_, hM88_, h86_]⟩
    · omega
  · obtain rfl : u = 1 := by have := eT h13_; omega
    rw [h59_, b16 ⟨h1_, h12_⟩] at z60_h
    have nm := ixo1 z60_h ⟨h1_, h12_⟩
    rcases nm with nm | nm
    · omega
    · left
      exact ⟨Or.inr (by rw [show nnU 1 = 3 by decide]; exact nm.2), by rw [hM_]; exact hs99_⟩
  · obtain rfl : u = 2 := by have := eT h13_; omega
    rw [h103_, b16 ⟨h1_, h12_⟩] at z104_h
    have nm := ixo2 z104_h ⟨h1_, h12_⟩
    rcases nm with nm | nm
    · right
      exact ⟨⟨h1_, h12_⟩, z104_, ⟨nm.1, by rw [show nnU 2 = 5 by decide]; exact nm.2.1, nm.2.2⟩, z106_, z116_, z127_, M110_, M118_, e107_, by rw [hM111_, h109_], h117_, hs124_, e128_, by rw [hM_, hM132_, h130_]⟩
    · omega
  · obtain rfl : u = 2 := by have := eT h13_; omega
    rw [h103_, b16 ⟨h1_, h12_⟩] at z104_h
    have nm := ixo2 z104_h ⟨h1_, h12_⟩
    rcases nm with nm | nm
    · omega
    · left
      exact ⟨Or.inr (by rw [show nnU 2 = 5 by decide]; exact nm.2), by rw [hM_]; exact hs143_⟩
  · left
    exact ⟨Or.inl (Or.inr h12_), by rw [hM_]; exact hs153_⟩
end
section
/-! opened -/
theorem PRL_mono {e e2 : Int} {C D : mM} (h : PRL e C D) (he : e ≤ e2) : PRL e2 C D := by
  rcases h with ⟨t, h | h⟩
  · exact ⟨t, Or.inl (POK_mono h he)⟩
  · exact ⟨t, Or.inr h⟩
theorem TPE_kc {C D C2 D2 : mM} (hT : TPE C D) (kc : ∀ (c : rf) (k : Nat), ¬ (c = (4, 0, 0) ∧ ¬ k = 2) → C2.1 c k = C.1 c k) (kd : ∀ (c : rf) (k : Nat), ¬ (c = (12, 0, 0) ∧ ¬ k = 10) → D2.1 c k = D.1 c k) : TPE C2 D2 := by
  unfold TPE
  rw [kc _ _ (by simp), kc (4, 0, 0) 2 (by simp), kd (50, 0, 0) 4 (by simp), kd (12, 0, 0) 10 (by simp)]
  refine ⟨hT.1, hT.2.1, fun i hi => ?_, hT.2.2.2⟩
  rw [kc _ _ (by simp), kd _ _ (by simp)]
  exact hT.2.2.1 i hi
theorem PRL_open {e : Int} {C D C9 C20 D7 D30 D47 : mM} {z1 z7 z16 z24 z28 z40 z45 : Int32} (hT : TPE C D) (h : POK e C D) (qN : (D.1 (12, 0, 0) 9).toInt < (D.1 (50, 0, 0) 4).toInt)
    (a1 : z1 = C.1 (4, 0, 0) 5) (a2 : z7.toInt = z1.toInt + 1) (a3 : C9 = up C (4, 0, 0) 5 z7) (a4 : z16 = C9.1 (4, 0, 0) 3) (a5 : C20 = up C9 (4, 0, 0) 3 (z16 + (1 : Int32)))
    (b1 : D7 = up D (12, 0, 0) 13 0) (b2 : z24 = D7.1 (12, 0, 0) 11) (b3 : z28.toInt = z24.toInt + 1) (b4 : D30 = up D7 (12, 0, 0) 11 z28) (b5 : z40 = D30.1 (12, 0, 0) 9) (b6 : z45.toInt = z40.toInt + 1) (b7 : D47 = up D30 (12, 0, 0) 9 z45) : PRL (e - 1) C20 D47 ∧ (D47.1 (12, 0, 0) 9).toInt = (D.1 (12, 0, 0) 9).toInt + 1 := by
  have q0 := il_0
  obtain ⟨p1, p2, p3, p4, p5, p6, p7, p8, p9, p10⟩ := h
  have T1 := hT.2.1
  have kc : ∀ (c : rf) (k : Nat), ¬ (c = (4, 0, 0) ∧ (k = 3 ∨ k = 5)) → C20.1 c k = C.1 c k := fun c k q => by
    rw [zupN a5 (fun z => q ⟨z.1, Or.inl z.2⟩), zupN a3 (fun z => q ⟨z.1, Or.inr z.2⟩)]
  have kd : ∀ (c : rf) (k : Nat), ¬ (c = (12, 0, 0) ∧ (k = 9 ∨ k = 11 ∨ k = 13)) → D47.1 c k = D.1 c k := fun c k q => by
    rw [zupN b7 (fun z => q ⟨z.1, Or.inl z.2⟩), zupN b4 (fun z => q ⟨z.1, Or.inr (Or.inl z.2)⟩), zupN b1 (fun z => q ⟨z.1, Or.inr (Or.inr z.2)⟩)]
  have y1 := eT a1
  have y2 : z16.toInt = (D.1 (12, 0, 0) 9).toInt := by rw [a4, zupN a3 (by simp)]; exact p3
  have y3 : z24.toInt = (D.1 (12, 0, 0) 11).toInt := by rw [b2, zupN b1 (by simp)]
  have y4 : z40.toInt = (D.1 (12, 0, 0) 9).toInt := by rw [b5, zupN b4 (by simp), zupN b1 (by simp)]
  have C3 : (C20.1 (4, 0, 0) 3).toInt = (D.1 (12, 0, 0) 9).toInt + 1 := by rw [zupE a5 rfl rfl, addI (x := z16) rfl il_1 (by omega) (by omega)]; omega
  have C5 : (C20.1 (4, 0, 0) 5).toInt = z7.toInt := by rw [zupN a5 (by simp), zupE a3 rfl rfl]
  have D9 : (D47.1 (12, 0, 0) 9).toInt = (D.1 (12, 0, 0) 9).toInt + 1 := by rw [zupE b7 rfl rfl]; omega
  have D11 : (D47.1 (12, 0, 0) 11).toInt = z28.toInt := by rw [zupN b7 (by simp), zupE b4 rfl rfl]
  have D13 : (D47.1 (12, 0, 0) 13).toInt = 0 := by rw [zupN b7 (by simp), zupN b4 (by simp), zupE b1 rfl rfl]; exact q0
  refine ⟨⟨TPE_kc hT (fun c k q => kc c k (fun z => q ⟨z.1, by omega⟩)) (fun c k q => kd c k (fun z => q ⟨z.1, by omega⟩)), Or.inl ?_⟩, D9⟩
  unfold POK
  rw [kc (4, 0, 0) 4 (by simp), kc (4, 0, 0) 6 (by simp), kc (1, 3, 0) 2 (by simp), kd (12, 0, 0) 12 (by simp), kd (12, 0, 0) 14 (by simp), kd (12, 0, 0) 10 (by simp), kd (50, 0, 0) 4 (by simp)]
  refine ⟨p1, D13, by omega, by omega, p5, p6, p7, by omega, by omega, fun i hi => ?_⟩
  rw [kc _ _ (by simp), kd _ _ (by simp)]
  exact p10 i hi
theorem PRX_close {e : Int} {C C2 C3 D D2 D3 : mM} {z z' : Int32} (h : PRX e C C2 D D2) (hc : C3 = up C2 (4, 0, 0) 5 z) (hd : D3 = up D2 (12, 0, 0) 11 z') (hz : (C2.1 (4, 0, 0) 5).toInt = (D2.1 (12, 0, 0) 11).toInt → z.toInt = z'.toInt) : PRX e C C3 D D3 := by
  obtain ⟨⟨t, h⟩, h9⟩ := h
  refine ⟨⟨TPE_kc t (fun c k q => zupN hc (fun y => q ⟨y.1, by omega⟩)) (fun c k q => zupN hd (fun y => q ⟨y.1, by omega⟩)), ?_⟩, by rw [zupN hd (by simp)]; exact h9⟩
  rcases h with h | h
  · left
    obtain ⟨p1, p2, p3, p4, p5, p6, p7, p8, p9, p10⟩ := h
    unfold POK
    rw [zupN (k' := 4) hc (by simp), zupN (k' := 3) hc (by simp), zupN (k' := 6) hc (by simp), zupR (c' := (1, 3, 0)) hc (by simp), zupE (k' := 5) hc rfl rfl, zupN (k' := 13) hd (by simp), zupN (k' := 9) hd (by simp), zupN (k' := 12) hd (by simp), zupN (k' := 14) hd (by simp), zupN (k' := 10) hd (by simp), zupE (k' := 11) hd rfl rfl, zupR (c' := (50, 0, 0)) hd (by simp)]
    refine ⟨p1, p2, p3, p4, p5, p6, p7, p8, hz p9, fun i hi => ?_⟩
    rw [zupR hc (by simp), zupR hd (by simp)]
    exact p10 i hi
  · right
    unfold PBD at h ⊢
    rw [zupN (k' := 4) hc (by simp), zupN (k' := 13) hd (by simp), zupN (k' := 9) hd (by simp), zupR (c' := (50, 0, 0)) hd (by simp)]
    exact h
theorem opened_both {N N2 m : Nat} {QA QB QA2 QB2 : mM → mM → Prop} (hA : BOTH QA QA2) (hB : BOTH QB QB2) {e : Int} {v : Int32} {s : Int} {W : Nat} {a T : Int} {C C2 D D2 : mM} (h1 : SP_X4_readOpened N m QA QB v C C2) (h2 : SP_X12_opens N2 m QA2 QB2 v s W a T D D2) (hT : TPE C D) (h : POK e C D) (he : e ≤ 0) (qN : (D.1 (12, 0, 0) 9).toInt < (D.1 (50, 0, 0) 4).toInt) : PRX e C C2 D D2 := by
  have q0 := il_0
  have q1 := il_1
  have i41 : (41 : Int32).toInt = 41 := by decide
  have i58 : (58 : Int32).toInt = 58 := by decide
  have i63 : (63 : Int32).toInt = 63 := by decide
  have i93 : (93 : Int32).toInt = 93 := by decide
  have i9 : (2009 : Int32).toInt = 2009 := by decide
  have i8 : (2008 : Int32).toInt = 2008 := by decide
  have c9 : (2063 : Int32).toInt = cmI 2009 := by decide
  have c8 : (2126 : Int32).toInt = cmI 2008 := by decide
  have dep := h.2.2.2.2.2.2.2.2.1
  refine xE_SP_X4_readOpened h1 (fun c_z1_ c_e2_ c_h3_ => ⟨(fun c_h4_ c_z7_ c_h8_ c_M9_ c_hM10_ c_z16_ c_e17_ c_z18_ c_h19_ c_M20_ c_hM21_ => ⟨(fun c_h27_ => ⟨(fun c_h28_ _ c_M29_ _ c_hF33_ c_hs35_ c_h31_ c_M38_ _ c_hF42_ c_hs44_ c_M48_ _ c_hF52_ c_hs54_ c_h50_ c_M57_ _ c_hF61_ c_hs63_ c_M67_ _ c_hF71_ c_hs73_ c_h69_ c_M76_ _ c_hF80_ c_hs82_ c_M86_ _ c_hF90_ c_hs92_ c_z96_ c_e97_ c_h98_ c_z99_ c_h100_ c_M101_ c_hM102_ c_hM_ => ?_), (fun c_h28_ _ c_M108_ _ c_hF112_ c_hs114_ c_h110_ c_M117_ _ c_hF121_ c_hs123_ c_z127_ c_e128_ c_h129_ c_z130_ c_h131_ c_M132_ c_hM133_ c_hM_ => ?_)⟩), (fun c_h27_ _ c_M139_ _ c_hF143_ c_hs145_ c_h141_ c_M148_ _ c_hF152_ c_hs154_ c_z158_ c_e159_ c_h160_ c_z161_ c_h162_ c_M163_ c_hM164_ c_hM_ => ?_)⟩), (fun c_h4_ c_M170_ _ c_hF174_ c_hs176_ c_hM_ => ?_)⟩)
  · refine xE_SP_X12_opens h2 (fun d_z2_ d_e3_ d_h4_ d_h5_ => ⟨(fun d_h6_ d_M7_ d_hM8_ d_z17_ d_e18_ d_h19_ d_h20_ d_h21_ d_h22_ d_h23_ d_z24_ d_e25_ d_h26_ d_h27_ d_z28_ d_h29_ d_M30_ d_hM31_ d_z40_ d_e41_ d_h42_ d_h43_ d_h44_ d_z45_ d_h46_ d_M47_ d_hM48_ => ⟨(fun d_h55_ => ⟨(fun d_h56_ _ d_M57_ _ d_hF61_ d_hs63_ d_M66_ _ d_hF70_ d_hs72_ d_M74_ _ d_hF78_ d_hs80_ d_M83_ _ d_hF87_ d_hs89_ d_M91_ _ d_hF95_ d_hs97_ d_M100_ _ d_hF104_ d_hs106_ d_M108_ _ d_hF112_ d_hs114_ d_h110_ d_z116_ d_e117_ d_h118_ d_h119_ d_z120_ d_h121_ d_M122_ d_hM123_ d_hM_ => ?_), (fun d_h56_ _ d_M128_ _ d_hF132_ d_hs134_ d_M137_ _ d_hF141_ d_hs143_ d_h139_ d_z145_ d_e146_ d_h147_ d_h148_ d_z149_ d_h150_ d_M151_ d_hM152_ d_hM_ => ?_)⟩), (fun d_h55_ _ d_M157_ _ d_hF161_ d_hs163_ d_M166_ _ d_hF170_ d_hs172_ d_h168_ d_z174_ d_e175_ d_h176_ d_h177_ d_z178_ d_h179_ d_M180_ d_hM181_ d_hM_ => ?_)⟩), (fun d_h6_ d_M186_ d_hM187_ d_h193_ d_z196_ d_e197_ d_h198_ d_h199_ d_h200_ d_h201_ d_hM_ => ?_)⟩)
    · have op := PRL_open hT h qN c_e2_ c_h8_ c_hM10_ c_e17_ (show c_M20_ = up c_M9_ (4, 0, 0) 3 (c_z16_ + (1 : Int32)) by rw [c_hM21_, c_h19_]) d_hM8_ d_e25_ d_h29_ d_hM31_ d_e41_ d_h46_ d_hM48_
      have a1 := hB (e - 1) _ _ _ _ (by omega) op.1 c_hs35_ d_hs63_ c_hF33_ d_hF61_
      have a2 := expect_both c_hs44_ d_hs72_ (by omega) a1.1 c_hF42_ d_hF70_
      have a3 := hB (e - 1) _ _ _ _ (by omega) a2.1 c_hs54_ d_hs80_ c_hF52_ d_hF78_
      have a4 := expect_both c_hs63_ d_hs89_ (by omega) a3.1 c_hF61_ d_hF87_
      have a5 := hB (e - 1) _ _ _ _ (by omega) a4.1 c_hs73_ d_hs97_ c_hF71_ d_hF95_
      have a6 := expect_both c_hs82_ d_hs106_ (by omega) a5.1 c_hF80_ d_hF104_
      have a7 := PRL_code a6.1 he c_hs92_ d_hs114_ (by rw [i9]; exact c9) (by omega)
      have w1 := eT c_e97_
      have w2 := eT d_e117_
      rw [c_hM_, d_hM_]
      refine PRX_close ⟨a7.1, ?_⟩ c_hM102_ d_hM123_ (fun q => by omega)
      have := op.2
      have := a1.2
      have := a2.2
      have := a3.2
      have := a4.2
      have := a5.2
      have := a6.2
      have := a7.2
      omega
    · omega
    · omega
    · have := eT c_e2_
      have := eT d_e3_
      omega
  · refine xE_SP_X12_opens h2 (fun d_z2_ d_e3_ d_h4_ d_h5_ => ⟨(fun d_h6_ d_M7_ d_hM8_ d_z17_ d_e18_ d_h19_ d_h20_ d_h21_ d_h22_ d_h23_ d_z24_ d_e25_ d_h26_ d_h27_ d_z28_ d_h29_ d_M30_ d_hM31_ d_z40_ d_e41_ d_h42_ d_h43_ d_h44_ d_z45_ d_h46_ d_M47_ d_hM48_ => ⟨(fun d_h55_ => ⟨(fun d_h56_ _ d_M57_ _ d_hF61_ d_hs63_ d_M66_ _ d_hF70_ d_hs72_ d_M74_ _ d_hF78_ d_hs80_ d_M83_ _ d_hF87_ d_hs89_ d_M91_ _ d_hF95_ d_hs97_ d_M100_ _ d_hF104_ d_hs106_ d_M108_ _ d_hF112_ d_hs114_ d_h110_ d_z116_ d_e117_ d_h118_ d_h119_ d_z120_ d_h121_ d_M122_ d_hM123_ d_hM_ => ?_), (fun d_h56_ _ d_M128_ _ d_hF132_ d_hs134_ d_M137_ _ d_hF141_ d_hs143_ d_h139_ d_z145_ d_e146_ d_h147_ d_h148_ d_z149_ d_h150_ d_M151_ d_hM152_ d_hM_ => ?_)⟩), (fun d_h55_ _ d_M157_ _ d_hF161_ d_hs163_ d_M166_ _ d_hF170_ d_hs172_ d_h168_ d_z174_ d_e175_ d_h176_ d_h177_ d_z178_ d_h179_ d_M180_ d_hM181_ d_hM_ => ?_)⟩), (fun d_h6_ d_M186_ d_hM187_ d_h193_ d_z196_ d_e197_ d_h198_ d_h199_ d_h200_ d_h201_ d_hM_ => ?_)⟩)
    · omega
    · have op := PRL_open hT h qN c_e2_ c_h8_ c_hM10_ c_e17_ (show c_M20_ = up c_M9_ (4, 0, 0) 3 (c_z16_ + (1 : Int32)) by rw [c_hM21_, c_h19_]) d_hM8_ d_e25_ d_h29_ d_hM31_ d_e41_ d_h46_ d_hM48_
      have a1 := hB (e - 1) _ _ _ _ (by omega) op.1 c_hs114_ d_hs134_ c_hF112_ d_hF132_
      have a2 := expect_both c_hs123_ d_hs143_ (by omega) a1.1 c_hF121_ d_hF141_
      have w1 := eT c_e128_
      have w2 := eT d_e146_
      rw [c_hM_, d_hM_]
      refine PRX_close ⟨PRL_mono a2.1 (by omega), ?_⟩ c_hM133_ d_hM152_ (fun q => by omega)
      have := op.2
      have := a1.2
      have := a2.2
      omega
    · omega
    · have := eT c_e2_
      have := eT d_e3_
      omega
  · refine xE_SP_X12_opens h2 (fun d_z2_ d_e3_ d_h4_ d_h5_ => ⟨(fun d_h6_ d_M7_ d_hM8_ d_z17_ d_e18_ d_h19_ d_h20_ d_h21_ d_h22_ d_h23_ d_z24_ d_e25_ d_h26_ d_h27_ d_z28_ d_h29_ d_M30_ d_hM31_ d_z40_ d_e41_ d_h42_ d_h43_ d_h44_ d_z45_ d_h46_ d_M47_ d_hM48_ => ⟨(fun d_h55_ => ⟨(fun d_h56_ _ d_M57_ _ d_hF61_ d_hs63_ d_M66_ _ d_hF70_ d_hs72_ d_M74_ _ d_hF78_ d_hs80_ d_M83_ _ d_hF87_ d_hs89_ d_M91_ _ d_hF95_ d_hs97_ d_M100_ _ d_hF104_ d_hs106_ d_M108_ _ d_hF112_ d_hs114_ d_h110_ d_z116_ d_e117_ d_h118_ d_h119_ d_z120_ d_h121_ d_M122_ d_hM123_ d_hM_ => ?_), (fun d_h56_ _ d_M128_ _ d_hF132_ d_hs134_ d_M137_ _ d_hF141_ d_hs143_ d_h139_ d_z145_ d_e146_ d_h147_ d_h148_ d_z149_ d_h150_ d_M151_ d_hM152_ d_hM_ => ?_)⟩), (fun d_h55_ _ d_M157_ _ d_hF161_ d_hs163_ d_M166_ _ d_hF170_ d_hs172_ d_h168_ d_z174_ d_e175_ d_h176_ d_h177_ d_z178_ d_h179_ d_M180_ d_hM181_ d_hM_ => ?_)⟩), (fun d_h6_ d_M186_ d_hM187_ d_h193_ d_z196_ d_e197_ d_h198_ d_h199_ d_h200_ d_h201_ d_hM_ => ?_)⟩)
    · omega
    · omega
    · have op := PRL_open hT h qN c_e2_ c_h8_ c_hM10_ c_e17_ (show c_M20_ = up c_M9_ (4, 0, 0) 3 (c_z16_ + (1 : Int32)) by rw [c_hM21_, c_h19_]) d_hM8_ d_e25_ d_h29_ d_hM31_ d_e41_ d_h46_ d_hM48_
      have a1 := hA (e - 1) _ _ _ _ (by omega) op.1 c_hs145_ d_hs163_ c_hF143_ d_hF161_
      have a7 := PRL_code a1.1 he c_hs154_ d_hs172_ (by rw [i8]; exact c8) (by omega)
      have w1 := eT c_e159_
      have w2 := eT d_e175_
      rw [c_hM_, d_hM_]
      refine PRX_close ⟨a7.1, ?_⟩ c_hM164_ d_hM181_ (fun q => by omega)
      have := op.2
      have := a1.2
      have := a7.2
      omega
    · have := eT c_e2_
      have := eT d_e3_
      omega
  · have w1 := eT c_e2_
    refine xE_SP_X12_opens h2 (fun d_z2_ d_e3_ d_h4_ d_h5_ => ⟨(fun d_h6_ d_M7_ d_hM8_ d_z17_ d_e18_ d_h19_ d_h20_ d_h21_ d_h22_ d_h23_ d_z24_ d_e25_ d_h26_ d_h27_ d_z28_ d_h29_ d_M30_ d_hM31_ d_z40_ d_e41_ d_h42_ d_h43_ d_h44_ d_z45_ d_h46_ d_M47_ d_hM48_ => ⟨(fun d_h55_ => ⟨(fun d_h56_ _ d_M57_ _ d_hF61_ d_hs63_ d_M66_ _ d_hF70_ d_hs72_ d_M74_ _ d_hF78_ d_hs80_ d_M83_ _ d_hF87_ d_hs89_ d_M91_ _ d_hF95_ d_hs97_ d_M100_ _ d_hF104_ d_hs106_ d_M108_ _ d_hF112_ d_hs114_ d_h110_ d_z116_ d_e117_ d_h118_ d_h119_ d_z120_ d_h121_ d_M122_ d_hM123_ d_hM_ => ?_), (fun d_h56_ _ d_M128_ _ d_hF132_ d_hs134_ d_M137_ _ d_hF141_ d_hs143_ d_h139_ d_z145_ d_e146_ d_h147_ d_h148_ d_z149_ d_h150_ d_M151_ d_hM152_ d_hM_ => ?_)⟩), (fun d_h55_ _ d_M157_ _ d_hF161_ d_hs163_ d_M166_ _ d_hF170_ d_hs172_ d_h168_ d_z174_ d_e175_ d_h176_ d_h177_ d_z178_ d_h179_ d_M180_ d_hM181_ d_hM_ => ?_)⟩), (fun d_h6_ d_M186_ d_hM187_ d_h193_ d_z196_ d_e197_ d_h198_ d_h199_ d_h200_ d_h201_ d_hM_ => ?_)⟩)
    · have := eT d_e3_; omega
    · have := eT d_e3_; omega
    · have := eT d_e3_; omega
    · rw [c_hM_, d_hM_]
      exact PBD_bad hT h c_hs176_ (by rw [zupE d_hM187_ rfl rfl, q1]; omega) (fun c k q => zupN d_hM187_ q)
end
section
/-! one -/
theorem PRX_pre {e : Int} {C C' C2 D D' D2 : mM} (h : PRX e C' C2 D' D2) (h9 : (D.1 (12, 0, 0) 9).toInt ≤ (D'.1 (12, 0, 0) 9).toInt) : PRX e C C2 D D2 := ⟨h.1, Int.le_trans h9 h.2⟩
theorem one_start {e : Int} {C M5 D M2 : mM} {r r1 : Int32} {s : Int} {W : Nat} {a T : Int} (hT : TPE C D) (k : POK e C D) (h1 : SP_X4_next C r M5) (h2 : SP_X12_here s W a T D r1 M2) : r = r1 ∧ TPE M5 M2 ∧ POK e M5 M2 ∧ (D.1 (12, 0, 0) 9).toInt ≤ (M2.1 (12, 0, 0) 9).toInt ∧ (0 ≤ r1.toInt → (M2.1 (12, 0, 0) 9).toInt < (M2.1 (50, 0, 0) 4).toInt ∧ (M2.1 (50, 0, 0) (273 + (M2.1 (12, 0, 0) 9).toInt.toNat)).toInt = r1.toInt) := by
  obtain ⟨k1, k2, k3, k4, k5, k6, k7, k8, k9, k10⟩ := k
  have nx := x4next h1 hT (by omega)
  rw [k3] at nx
  obtain ⟨n1, n2, n3⟩ := nx
  rcases x12here h2 k4 with g | ⟨-, g1, g2, g3⟩
  · exact absurd k2 g.1
  · have u := nxT_uniq k4.1 n1 g1
    have g11 := g1.1
    refine ⟨i32e u.2, TPE_kc hT (fun c k q => n3 c k (fun z => q ⟨z.1, by omega⟩)) (fun c k q => g3 c k (fun z => q ⟨z.1, by omega⟩)), ?_, g1.1, fun q => ?_⟩
    · unfold POK
      rw [n3 (4, 0, 0) 4 (by simp), n3 (4, 0, 0) 6 (by simp), n3 (1, 3, 0) 2 (by simp), n3 (4, 0, 0) 5 (by simp), g3 (12, 0, 0) 13 (by simp), g3 (12, 0, 0) 12 (by simp), g3 (12, 0, 0) 14 (by simp), g3 (12, 0, 0) 11 (by simp), g3 (12, 0, 0) 10 (by simp), g3 (50, 0, 0) 4 (by simp)]
      refine ⟨k1, k2, u.1, by omega, k5, k6, k7, by omega, k9, fun i hi => ?_⟩
      rw [n3 _ _ (by simp), g3 _ _ (by simp)]
      exact k10 i hi
    · rw [g3 (50, 0, 0) 4 (by simp), g3 (50, 0, 0) _ (by simp)]
      rcases g1.2.2 with z | z
      · exact ⟨z.1, z.2.1.symm⟩
      · omega
/-- a name on both sides -/
theorem name_both {v : Int32} {C C2 D : mM} (h1 : SP_X4_readName v C C2) (hT : TPE C D) {P : Prop}
    (hbad : SP_X4_fail C C2 → ((v.toInt < 0 ∨ 127 < v.toInt) ∨ ∀ j : Nat, j < nnU (D.1 (12, 0, 0) 10).toInt.toNat → ¬ (nmL (D.1 (12, 0, 0) 10).toInt.toNat j).toInt = v.toInt) → P)
    (hgood : ∀ z : Int32, 0 ≤ z.toInt → z.toInt < (nnU (D.1 (12, 0, 0) 10).toInt.toNat : Int) → (nmL (D.1 (12, 0, 0) 10).toInt.toNat z.toInt.toNat).toInt = v.toInt → NAg z C C2 → P) : P := by
  rcases name_c (u := (D.1 (12, 0, 0) 10).toInt.toNat) h1 (by have := hT.2.2.2; omega) with g | ⟨-, z, g1, g2⟩
  · exact hbad g.2 g.1
  · exact hgood z g1.1 g1.2.1 g1.2.2 g2
theorem one_both {N N2 m : Nat} {QA QB QA2 QB2 : mM → mM → Prop} (hA : BOTH QA QA2) (hB : BOTH QB QB2) : BOTH (SP_X4_readOne N m QA QB) (fun D D2 => ∃ (s : Int) (W : Nat) (a T : Int), SP_X12_one N2 m QA2 QB2 s W a T D D2) := by
  intro e C C2 D D2 he h h1 h2 hf hg
  obtain ⟨s, W, a, T, h2⟩ := h2
  have q0 := il_0
  have q1 := il_1
  have T0 := h.1
  have ab := PRL_at h
  have T2 := TPE_fr T0 hf hg
  rcases h.2 with k | k
  · have k4 := k.1
    refine xE_SP_X4_readOne h1 (fun c_z1_ c_e2_ => ⟨(fun c_h3_ c_M5_ _ c_hF9_ c_r4_ c_hs11_ => ⟨(fun c_h15_ => ⟨(fun c_h16_ c_M17_ _ c_hF21_ c_hs23_ c_h19_ c_hM_ => ?_), (fun c_h16_ => ⟨(fun c_h26_ c_M27_ _ c_hF31_ c_hs33_ c_h29_ c_hM_ => ?_), (fun c_h26_ c_h36_ c_M37_ _ c_hF41_ c_hs43_ c_hM_ => ?_)⟩)⟩), (fun c_h15_ => ⟨(fun c_h47_ c_h48_ c_h49_ => ⟨(fun c_h50_ c_M51_ _ c_hF55_ c_hs57_ c_hM_ => ?_), (fun c_h50_ c_M61_ _ c_hF65_ c_hs67_ c_h63_ c_hM_ => ?_)⟩), (fun c_h47_ c_M70_ _ c_hF74_ c_hs76_ c_hM_ => ?_)⟩)⟩), (fun c_h3_ c_hM_ => ?_)⟩)
    · refine xE_SP_X12_one h2 (fun d_M2_ _ d_hF6_ d_r1_ d_hs8_ d_h11_ => ⟨(fun d_h12_ d_M17_ _ d_hF21_ d_hs23_ d_h24_ d_hM_ => ?_), (fun d_h12_ => ⟨(fun d_h26_ d_M31_ _ d_hF35_ d_hs37_ d_h38_ d_hM_ => ?_), (fun d_h26_ => ⟨(fun d_h40_ => ⟨(fun d_hs45_ d_h44_ d_v3_46 d_hv0_46 d_v2_46 d_hv1_46 d_M_46 d_hv2_46 d_hL_46 _ d_hF_46 => ⟨(fun d_h49_ d_h50_ d_M52_ _ d_hF56_ d_hs58_ d_h54_ d_z60_ d_e61_ d_z62_ d_h63_ d_M64_ d_hM65_ d_hM_ => ?_), (fun d_h49_ d_z70_ d_e71_ d_h72_ d_z73_ d_e74_ d_h75_ => ⟨(fun d_h76_ d_h77_ d_M79_ _ d_hF83_ d_hs85_ d_h81_ d_z87_ d_e88_ d_z89_ d_h90_ d_M91_ d_hM92_ d_hM_ => ?_), (fun d_h76_ d_z99_ d_h100_ d_j103_ d_h104_ d_z101_ d_e102_ d_hs109_ d_h108_ d_h139_ d_M141_ _ d_hF145_ d_hs147_ d_h143_ d_z149_ d_e150_ d_z151_ d_h152_ d_M153_ d_hM154_ d_hM_ => ?_)⟩)⟩), (fun d_hs45_ d_h44_ => ⟨(fun d_h160_ d_r165_ d_hs169_ d_h168_ d_z170_ d_e171_ d_h172_ d_h173_ => ⟨(fun d_h174_ d_M175_ d_hM176_ d_h182_ d_z185_ d_e186_ d_h187_ d_h188_ d_h189_ d_h190_ d_hM_ => ?_), (fun d_h174_ => ⟨(fun d_h191_ d_M192_ d_hM193_ d_z202_ d_e203_ d_h204_ d_h205_ d_h206_ d_h207_ d_z208_ d_h209_ _ d_M210_ _ d_hF214_ d_hs216_ d_z222_ d_e223_ d_z224_ d_h225_ d_M226_ d_hM227_ d_z236_ d_e237_ d_h238_ d_h239_ d_h240_ d_z241_ d_h242_ d_M243_ d_hM244_ d_h250_ d_hM_ => ?_), (fun d_h191_ d_M251_ d_hM252_ d_h258_ d_z261_ d_e262_ d_h263_ d_h264_ d_h265_ d_h266_ d_hM_ => ?_)⟩)⟩), (fun d_h160_ d_z267_ d_e268_ d_h269_ => ⟨(fun d_h270_ d_M271_ d_hM272_ d_h276_ d_z279_ d_e280_ d_h281_ d_h282_ d_h283_ d_h284_ d_hM_ => ?_), (fun d_h270_ d_M286_ d_hM287_ d_h291_ d_z294_ d_e295_ d_h296_ d_h297_ d_h298_ d_h299_ d_hM_ => ?_)⟩)⟩)⟩), (fun d_h40_ d_M304_ _ d_hF308_ d_hs310_ d_h311_ d_hM_ => ?_)⟩)⟩)⟩)
      · obtain ⟨rfl, s1, s2, s3, s4⟩ := one_start T0 k c_hs11_ d_hs8_
        rw [c_hM_, d_hM_]
        exact PRX_pre (opened_both hA hB c_hs23_ d_hs23_ s1 s2 he (s4 (by omega)).1) s3
      · obtain ⟨rfl, s1, s2, s3, s4⟩ := one_start T0 k c_hs11_ d_hs8_
        omega
      · obtain ⟨rfl, s1, s2, s3, s4⟩ := one_start T0 k c_hs11_ d_hs8_
        omega
      · obtain ⟨rfl, s1, s2, s3, s4⟩ := one_start T0 k c_hs11_ d_hs8_
        omega
      · obtain ⟨rfl, s1, s2, s3, s4⟩ := one_start T0 k c_hs11_ d_hs8_
        omega
      · obtain ⟨rfl, s1, s2, s3, s4⟩ := one_start T0 k c_hs11_ d_hs8_
        have := eT d_h173_
        omega
      · obtain ⟨rfl, s1, s2, s3, s4⟩ := one_start T0 k c_hs11_ d_hs8_
        omega
      · obtain ⟨rfl, s1, s2, s3, s4⟩ := one_start T0 k c_hs11_ d_hs8_
        omega
      · obtain ⟨rfl, s1, s2, s3, s4⟩ := one_start T0 k c_hs11_ d_hs8_
        have := eT d_e268_
        have := s2.2.1
        omega
      · obtain ⟨rfl, s1, s2, s3, s4⟩ := one_start T0 k c_hs11_ d_hs8_
        omega
      · obtain ⟨rfl, s1, s2, s3, s4⟩ := one_start T0 k c_hs11_ d_hs8_
        omega
    · refine xE_SP_X12_one h2 (fun d_M2_ _ d_hF6_ d_r1_ d_hs8_ d_h11_ => ⟨(fun d_h12_ d_M17_ _ d_hF21_ d_hs23_ d_h24_ d_hM_ => ?_), (fun d_h12_ => ⟨(fun d_h26_ d_M31_ _ d_hF35_ d_hs37_ d_h38_ d_hM_ => ?_), (fun d_h26_ => ⟨(fun d_h40_ => ⟨(fun d_hs45_ d_h44_ d_v3_46 d_hv0_46 d_v2_46 d_hv1_46 d_M_46 d_hv2_46 d_hL_46 _ d_hF_46 => ⟨(fun d_h49_ d_h50_ d_M52_ _ d_hF56_ d_hs58_ d_h54_ d_z60_ d_e61_ d_z62_ d_h63_ d_M64_ d_hM65_ d_hM_ => ?_), (fun d_h49_ d_z70_ d_e71_ d_h72_ d_z73_ d_e74_ d_h75_ => ⟨(fun d_h76_ d_h77_ d_M79_ _ d_hF83_ d_hs85_ d_h81_ d_z87_ d_e88_ d_z89_ d_h90_ d_M91_ d_hM92_ d_hM_ => ?_), (fun d_h76_ d_z99_ d_h100_ d_j103_ d_h104_ d_z101_ d_e102_ d_hs109_ d_h108_ d_h139_ d_M141_ _ d_hF145_ d_hs147_ d_h143_ d_z149_ d_e150_ d_z151_ d_h152_ d_M153_ d_hM154_ d_hM_ => ?_)⟩)⟩), (fun d_hs45_ d_h44_ => ⟨(fun d_h160_ d_r165_ d_hs169_ d_h168_ d_z170_ d_e171_ d_h172_ d_h173_ => ⟨(fun d_h174_ d_M175_ d_hM176_ d_h182_ d_z185_ d_e186_ d_h187_ d_h188_ d_h189_ d_h190_ d_hM_ => ?_), (fun d_h174_ => ⟨(fun d_h191_ d_M192_ d_hM193_ d_z202_ d_e203_ d_h204_ d_h205_ d_h206_ d_h207_ d_z208_ d_h209_ _ d_M210_ _ d_hF214_ d_hs216_ d_z222_ d_e223_ d_z224_ d_h225_ d_M226_ d_hM227_ d_z236_ d_e237_ d_h238_ d_h239_ d_h240_ d_z241_ d_h242_ d_M243_ d_hM244_ d_h250_ d_hM_ => ?_), (fun d_h191_ d_M251_ d_hM252_ d_h258_ d_z261_ d_e262_ d_h263_ d_h264_ d_h265_ d_h266_ d_hM_ => ?_)⟩)⟩), (fun d_h160_ d_z267_ d_e268_ d_h269_ => ⟨(fun d_h270_ d_M271_ d_hM272_ d_h276_ d_z279_ d_e280_ d_h281_ d_h282_ d_h283_ d_h284_ d_hM_ => ?_), (fun d_h270_ d_M286_ d_hM287_ d_h291_ d_z294_ d_e295_ d_h296_ d_h297_ d_h298_ d_h299_ d_hM_ => ?_)⟩)⟩)⟩), (fun d_h40_ d_M304_ _ d_hF308_ d_hs310_ d_h311_ d_hM_ => ?_)⟩)⟩)⟩)
      · obtain ⟨rfl, s1, s2, s3, s4⟩ := one_start T0 k c_hs11_ d_hs8_
        omega
      · obtain ⟨rfl, s1, s2, s3, s4⟩ := one_start T0 k c_hs11_ d_hs8_
        rw [c_hM_, d_hM_]
        exact PRX_pre (opened_both hA hB c_hs33_ d_hs37_ s1 s2 he (s4 (by omega)).1) s3
      · obtain ⟨rfl, s1, s2, s3, s4⟩ := one_start T0 k c_hs11_ d_hs8_
        omega
      · obtain ⟨rfl, s1, s2, s3, s4⟩ := one_start T0 k c_hs11_ d_hs8_
        omega
      · obtain ⟨rfl, s1, s2, s3, s4⟩ := one_start T0 k c_hs11_ d_hs8_
        omega
      · obtain ⟨rfl, s1, s2, s3, s4⟩ := one_start T0 k c_hs11_ d_hs8_
        have := eT d_h173_
        omega
      · obtain ⟨rfl, s1, s2, s3, s4⟩ := one_start T0 k c_hs11_ d_hs8_
        omega
      · obtain ⟨rfl, s1, s2, s3, s4⟩ := one_start T0 k c_hs11_ d_hs8_
        omega
      · obtain ⟨rfl, s1, s2, s3, s4⟩ := one_start T0 k c_hs11_ d_hs8_
        have := eT d_e268_
        have := s2.2.1
        omega
      · obtain ⟨rfl, s1, s2, s3, s4⟩ := one_start T0 k c_hs11_ d_hs8_
        omega
      · obtain ⟨rfl, s1, s2, s3, s4⟩ := one_start T0 k c_hs11_ d_hs8_
        omega
    · refine xE_SP_X12_one h2 (fun d_M2_ _ d_hF6_ d_r1_ d_hs8_ d_h11_ => ⟨(fun d_h12_ d_M17_ _ d_hF21_ d_hs23_ d_h24_ d_hM_ => ?_), (fun d_h12_ => ⟨(fun d_h26_ d_M31_ _ d_hF35_ d_hs37_ d_h38_ d_hM_ => ?_), (fun d_h26_ => ⟨(fun d_h40_ => ⟨(fun d_hs45_ d_h44_ d_v3_46 d_hv0_46 d_v2_46 d_hv1_46 d_M_46 d_hv2_46 d_hL_46 _ d_hF_46 => ⟨(fun d_h49_ d_h50_ d_M52_ _ d_hF56_ d_hs58_ d_h54_ d_z60_ d_e61_ d_z62_ d_h63_ d_M64_ d_hM65_ d_hM_ => ?_), (fun d_h49_ d_z70_ d_e71_ d_h72_ d_z73_ d_e74_ d_h75_ => ⟨(fun d_h76_ d_h77_ d_M79_ _ d_hF83_ d_hs85_ d_h81_ d_z87_ d_e88_ d_z89_ d_h90_ d_M91_ d_hM92_ d_hM_ => ?_), (fun d_h76_ d_z99_ d_h100_ d_j103_ d_h104_ d_z101_ d_e102_ d_hs109_ d_h108_ d_h139_ d_M141_ _ d_hF145_ d_hs147_ d_h143_ d_z149_ d_e150_ d_z151_ d_h152_ d_M153_ d_hM154_ d_hM_ => ?_)⟩)⟩), (fun d_hs45_ d_h44_ => ⟨(fun d_h160_ d_r165_ d_hs169_ d_h168_ d_z170_ d_e171_ d_h172_ d_h173_ => ⟨(fun d_h174_ d_M175_ d_hM176_ d_h182_ d_z185_ d_e186_ d_h187_ d_h188_ d_h189_ d_h190_ d_hM_ => ?_), (fun d_h174_ => ⟨(fun d_h191_ d_M192_ d_hM193_ d_z202_ d_e203_ d_h204_ d_h205_ d_h206_ d_h207_ d_z208_ d_h209_ _ d_M210_ _ d_hF214_ d_hs216_ d_z222_ d_e223_ d_z224_ d_h225_ d_M226_ d_hM227_ d_z236_ d_e237_ d_h238_ d_h239_ d_h240_ d_z241_ d_h242_ d_M243_ d_hM244_ d_h250_ d_hM_ => ?_), (fun d_h191_ d_M251_ d_hM252_ d_h258_ d_z261_ d_e262_ d_h263_ d_h264_ d_h265_ d_h266_ d_hM_ => ?_)⟩)⟩), (fun d_h160_ d_z267_ d_e268_ d_h269_ => ⟨(fun d_h270_ d_M271_ d_hM272_ d_h276_ d_z279_ d_e280_ d_h281_ d_h282_ d_h283_ d_h284_ d_hM_ => ?_), (fun d_h270_ d_M286_ d_hM287_ d_h291_ d_z294_ d_e295_ d_h296_ d_h297_ d_h298_ d_h299_ d_hM_ => ?_)⟩)⟩)⟩), (fun d_h40_ d_M304_ _ d_hF308_ d_hs310_ d_h311_ d_hM_ => ?_)⟩)⟩)⟩)
      · obtain ⟨rfl, s1, s2, s3, s4⟩ := one_start T0 k c_hs11_ d_hs8_
        omega
      · obtain ⟨rfl, s1, s2, s3, s4⟩ := one_start T0 k c_hs11_ d_hs8_
        omega
      · obtain ⟨rfl, s1, s2, s3, s4⟩ := one_start T0 k c_hs11_ d_hs8_
        omega
      · obtain ⟨rfl, s1, s2, s3, s4⟩ := one_start T0 k c_hs11_ d_hs8_
        omega
      · obtain ⟨rfl, s1, s2, s3, s4⟩ := one_start T0 k c_hs11_ d_hs8_
        omega
      · obtain ⟨rfl, s1, s2, s3, s4⟩ := one_start T0 k c_hs11_ d_hs8_
        have := eT d_h173_
        omega
      · obtain ⟨rfl, s1, s2, s3, s4⟩ := one_start T0 k c_hs11_ d_hs8_
        rw [c_hM_]
        have nm := x12name d_hs169_ s1.2.2.2.2
        refine name_both c_hs43_ s1 (fun _ b => ?_) (fun z g1 g2 g3 g4 => ?_)
        · exfalso
          rcases nm with nm | nm
          · have lb := nmL_b (u := (d_M2_.1 (12, 0, 0) 10).toInt.toNat) (j := d_r165_.toInt.toNat) (by have := s1.2.2.2.2; omega) (by omega)
            rcases b with b | b
            · omega
            · exact b _ (by omega) nm.2.2
          · omega
        · rcases nm with nm | nm
          · have zz : z = d_r165_ := i32e (by have := nmL_uniq (u := (d_M2_.1 (12, 0, 0) 10).toInt.toNat) (i := z.toInt.toNat) (j := d_r165_.toInt.toNat) (by have := s1.2.2.2.2; omega) (by omega) (by omega) (g3.trans nm.2.2.symm); omega)
            obtain ⟨z0, w, zc, Ma, M3, y1, y2, y3, y4, y5, y6⟩ := g4
            exact PRX_pre (nm_fin s1 s2 he (s4 d_h160_).1 zz ⟨by omega, nm.2.1, by omega⟩ y1 y2 y3 y4 y5 y6 d_hM193_ d_h209_ d_hs216_ d_e223_ (by rw [d_hM227_, d_h225_]) d_e237_ d_h242_ (by rw [d_hM_, d_hM244_])) s3
          · omega
      · obtain ⟨rfl, s1, s2, s3, s4⟩ := one_start T0 k c_hs11_ d_hs8_
        rw [c_hM_]
        have nm := x12name d_hs169_ s1.2.2.2.2
        refine name_both c_hs43_ s1 (fun b _ => ?_) (fun z g1 g2 g3 g4 => ?_)
        · rw [d_hM_]
          exact PRX_pre (PBD_bad s1 s2 b (by rw [zupE d_hM252_ rfl rfl, q1]; omega) (fun c k q => zupN d_hM252_ q)) s3
        · exfalso
          rcases nm with nm | nm
          · omega
          · exact nm.2 _ (by omega) g3
      · obtain ⟨rfl, s1, s2, s3, s4⟩ := one_start T0 k c_hs11_ d_hs8_
        have := eT d_e268_
        have := s2.2.1
        omega
      · obtain ⟨rfl, s1, s2, s3, s4⟩ := one_start T0 k c_hs11_ d_hs8_
        rw [c_hM_]
        refine name_both c_hs43_ s1 (fun b _ => ?_) (fun z g1 g2 g3 g4 => ?_)
        · rw [d_hM_]
          exact PRX_pre (PBD_bad s1 s2 b (by rw [zupE d_hM287_ rfl rfl, q1]; omega) (fun c k q => zupN d_hM287_ q)) s3
        · exfalso
          have lb := nmL_b (u := (d_M2_.1 (12, 0, 0) 10).toInt.toNat) (j := z.toInt.toNat) (by have := s1.2.2.2.2; omega) (by omega)
          omega
      · obtain ⟨rfl, s1, s2, s3, s4⟩ := one_start T0 k c_hs11_ d_hs8_
        omega
    · refine xE_SP_X12_one h2 (fun d_M2_ _ d_hF6_ d_r1_ d_hs8_ d_h11_ => ⟨(fun d_h12_ d_M17_ _ d_hF21_ d_hs23_ d_h24_ d_hM_ => ?_), (fun d_h12_ => ⟨(fun d_h26_ d_M31_ _ d_hF35_ d_hs37_ d_h38_ d_hM_ => ?_), (fun d_h26_ => ⟨(fun d_h40_ => ⟨(fun d_hs45_ d_h44_ d_v3_46 d_hv0_46 d_v2_46 d_hv1_46 d_M_46 d_hv2_46 d_hL_46 _ d_hF_46 => ⟨(fun d_h49_ d_h50_ d_M52_ _ d_hF56_ d_hs58_ d_h54_ d_z60_ d_e61_ d_z62_ d_h63_ d_M64_ d_hM65_ d_hM_ => ?_), (fun d_h49_ d_z70_ d_e71_ d_h72_ d_z73_ d_e74_ d_h75_ => ⟨(fun d_h76_ d_h77_ d_M79_ _ d_hF83_ d_hs85_ d_h81_ d_z87_ d_e88_ d_z89_ d_h90_ d_M91_ d_hM92_ d_hM_ => ?_), (fun d_h76_ d_z99_ d_h100_ d_j103_ d_h104_ d_z101_ d_e102_ d_hs109_ d_h108_ d_h139_ d_M141_ _ d_hF145_ d_hs147_ d_h143_ d_z149_ d_e150_ d_z151_ d_h152_ d_M153_ d_hM154_ d_hM_ => ?_)⟩)⟩), (fun d_hs45_ d_h44_ => ⟨(fun d_h160_ d_r165_ d_hs169_ d_h168_ d_z170_ d_e171_ d_h172_ d_h173_ => ⟨(fun d_h174_ d_M175_ d_hM176_ d_h182_ d_z185_ d_e186_ d_h187_ d_h188_ d_h189_ d_h190_ d_hM_ => ?_), (fun d_h174_ => ⟨(fun d_h191_ d_M192_ d_hM193_ d_z202_ d_e203_ d_h204_ d_h205_ d_h206_ d_h207_ d_z208_ d_h209_ _ d_M210_ _ d_hF214_ d_hs216_ d_z222_ d_e223_ d_z224_ d_h225_ d_M226_ d_hM227_ d_z236_ d_e237_ d_h238_ d_h239_ d_h240_ d_z241_ d_h242_ d_M243_ d_hM244_ d_h250_ d_hM_ => ?_), (fun d_h191_ d_M251_ d_hM252_ d_h258_ d_z261_ d_e262_ d_h263_ d_h264_ d_h265_ d_h266_ d_hM_ => ?_)⟩)⟩), (fun d_h160_ d_z267_ d_e268_ d_h269_ => ⟨(fun d_h270_ d_M271_ d_hM272_ d_h276_ d_z279_ d_e280_ d_h281_ d_h282_ d_h283_ d_h284_ d_hM_ => ?_), (fun d_h270_ d_M286_ d_hM287_ d_h291_ d_z294_ d_e295_ d_h296_ d_h297_ d_h298_ d_h299_ d_hM_ => ?_)⟩)⟩)⟩), (fun d_h40_ d_M304_ _ d_hF308_ d_hs310_ d_h311_ d_hM_ => ?_)⟩)⟩)⟩)
      · obtain ⟨rfl, s1, s2, s3, s4⟩ := one_start T0 k c_hs11_ d_hs8_
        omega
      · obtain ⟨rfl, s1, s2, s3, s4⟩ := one_start T0 k c_hs11_ d_hs8_
        omega
      · obtain ⟨rfl, s1, s2, s3, s4⟩ := one_start T0 k c_hs11_ d_hs8_
        omega
      · obtain ⟨rfl, s1, s2, s3, s4⟩ := one_start T0 k c_hs11_ d_hs8_
        omega
      · obtain ⟨rfl, s1, s2, s3, s4⟩ := one_start T0 k c_hs11_ d_hs8_
        omega
      · obtain ⟨rfl, s1, s2, s3, s4⟩ := one_start T0 k c_hs11_ d_hs8_
        have := eT d_h173_
        omega
      · obtain ⟨rfl, s1, s2, s3, s4⟩ := one_start T0 k c_hs11_ d_hs8_
        rw [c_hM_]
        have nm := x12name d_hs169_ s1.2.2.2.2
        refine name_both c_hs57_ s1 (fun _ b => ?_) (fun z g1 g2 g3 g4 => ?_)
        · exfalso
          rcases nm with nm | nm
          · have lb := nmL_b (u := (d_M2_.1 (12, 0, 0) 10).toInt.toNat) (j := d_r165_.toInt.toNat) (by have := s1.2.2.2.2; omega) (by omega)
            rcases b with b | b
            · omega
            · exact b _ (by omega) nm.2.2
          · omega
        · rcases nm with nm | nm
          · have zz : z = d_r165_ := i32e (by have := nmL_uniq (u := (d_M2_.1 (12, 0, 0) 10).toInt.toNat) (i := z.toInt.toNat) (j := d_r165_.toInt.toNat) (by have := s1.2.2.2.2; omega) (by omega) (by omega) (g3.trans nm.2.2.symm); omega)
            obtain ⟨z0, w, zc, Ma, M3, y1, y2, y3, y4, y5, y6⟩ := g4
            exact PRX_pre (nm_fin s1 s2 he (s4 d_h160_).1 zz ⟨by omega, nm.2.1, by omega⟩ y1 y2 y3 y4 y5 y6 d_hM193_ d_h209_ d_hs216_ d_e223_ (by rw [d_hM227_, d_h225_]) d_e237_ d_h242_ (by rw [d_hM_, d_hM244_])) s3
          · omega
      · obtain ⟨rfl, s1, s2, s3, s4⟩ := one_start T0 k c_hs11_ d_hs8_
        rw [c_hM_]
        have nm := x12name d_hs169_ s1.2.2.2.2
        refine name_both c_hs57_ s1 (fun b _ => ?_) (fun z g1 g2 g3 g4 => ?_)
        · rw [d_hM_]
          exact PRX_pre (PBD_bad s1 s2 b (by rw [zupE d_hM252_ rfl rfl, q1]; omega) (fun c k q => zupN d_hM252_ q)) s3
        · exfalso
          rcases nm with nm | nm
          · omega
          · exact nm.2 _ (by omega) g3
      · obtain ⟨rfl, s1, s2, s3, s4⟩ := one_start T0 k c_hs11_ d_hs8_
        have := eT d_e268_
        have := s2.2.1
        omega
      · obtain ⟨rfl, s1, s2, s3, s4⟩ := one_start T0 k c_hs11_ d_hs8_
        rw [c_hM_]
        refine name_both c_hs57_ s1 (fun b _ => ?_) (fun z g1 g2 g3 g4 => ?_)
        · rw [d_hM_]
          exact PRX_pre (PBD_bad s1 s2 b (by rw [zupE d_hM287_ rfl rfl, q1]; omega) (fun c k q => zupN d_hM287_ q)) s3
        · exfalso
          have lb := nmL_b (u := (d_M2_.1 (12, 0, 0) 10).toInt.toNat) (j := z.toInt.toNat) (by have := s1.2.2.2.2; omega) (by omega)
          omega
      · obtain ⟨rfl, s1, s2, s3, s4⟩ := one_start T0 k c_hs11_ d_hs8_
        omega
    · refine xE_SP_X12_one h2 (fun d_M2_ _ d_hF6_ d_r1_ d_hs8_ d_h11_ => ⟨(fun d_h12_ d_M17_ _ d_hF21_ d_hs23_ d_h24_ d_hM_ => ?_), (fun d_h12_ => ⟨(fun d_h26_ d_M31_ _ d_hF35_ d_hs37_ d_h38_ d_hM_ => ?_), (fun d_h26_ => ⟨(fun d_h40_ => ⟨(fun d_hs45_ d_h44_ d_v3_46 d_hv0_46 d_v2_46 d_hv1_46 d_M_46 d_hv2_46 d_hL_46 _ d_hF_46 => ⟨(fun d_h49_ d_h50_ d_M52_ _ d_hF56_ d_hs58_ d_h54_ d_z60_ d_e61_ d_z62_ d_h63_ d_M64_ d_hM65_ d_hM_ => ?_), (fun d_h49_ d_z70_ d_e71_ d_h72_ d_z73_ d_e74_ d_h75_ => ⟨(fun d_h76_ d_h77_ d_M79_ _ d_hF83_ d_hs85_ d_h81_ d_z87_ d_e88_ d_z89_ d_h90_ d_M91_ d_hM92_ d_hM_ => ?_), (fun d_h76_ d_z99_ d_h100_ d_j103_ d_h104_ d_z101_ d_e102_ d_hs109_ d_h108_ d_h139_ d_M141_ _ d_hF145_ d_hs147_ d_h143_ d_z149_ d_e150_ d_z151_ d_h152_ d_M153_ d_hM154_ d_hM_ => ?_)⟩)⟩), (fun d_hs45_ d_h44_ => ⟨(fun d_h160_ d_r165_ d_hs169_ d_h168_ d_z170_ d_e171_ d_h172_ d_h173_ => ⟨(fun d_h174_ d_M175_ d_hM176_ d_h182_ d_z185_ d_e186_ d_h187_ d_h188_ d_h189_ d_h190_ d_hM_ => ?_), (fun d_h174_ => ⟨(fun d_h191_ d_M192_ d_hM193_ d_z202_ d_e203_ d_h204_ d_h205_ d_h206_ d_h207_ d_z208_ d_h209_ _ d_M210_ _ d_hF214_ d_hs216_ d_z222_ d_e223_ d_z224_ d_h225_ d_M226_ d_hM227_ d_z236_ d_e237_ d_h238_ d_h239_ d_h240_ d_z241_ d_h242_ d_M243_ d_hM244_ d_h250_ d_hM_ => ?_), (fun d_h191_ d_M251_ d_hM252_ d_h258_ d_z261_ d_e262_ d_h263_ d_h264_ d_h265_ d_h266_ d_hM_ => ?_)⟩)⟩), (fun d_h160_ d_z267_ d_e268_ d_h269_ => ⟨(fun d_h270_ d_M271_ d_hM272_ d_h276_ d_z279_ d_e280_ d_h281_ d_h282_ d_h283_ d_h284_ d_hM_ => ?_), (fun d_h270_ d_M286_ d_hM287_ d_h291_ d_z294_ d_e295_ d_h296_ d_h297_ d_h298_ d_h299_ d_hM_ => ?_)⟩)⟩)⟩), (fun d_h40_ d_M304_ _ d_hF308_ d_hs310_ d_h311_ d_hM_ => ?_)⟩)⟩)⟩)
      · obtain ⟨rfl, s1, s2, s3, s4⟩ := one_start T0 k c_hs11_ d_hs8_
        omega
      · obtain ⟨rfl, s1, s2, s3, s4⟩ := one_start T0 k c_hs11_ d_hs8_
        omega
      · obtain ⟨rfl, s1, s2, s3, s4⟩ := one_start T0 k c_hs11_ d_hs8_
        omega
      · obtain ⟨rfl, s1, s2, s3, s4⟩ := one_start T0 k c_hs11_ d_hs8_
        omega
      · obtain ⟨rfl, s1, s2, s3, s4⟩ := one_start T0 k c_hs11_ d_hs8_
        omega
      · obtain ⟨rfl, s1, s2, s3, s4⟩ := one_start T0 k c_hs11_ d_hs8_
        have := eT d_h173_
        omega
      · obtain ⟨rfl, s1, s2, s3, s4⟩ := one_start T0 k c_hs11_ d_hs8_
        omega
      · obtain ⟨rfl, s1, s2, s3, s4⟩ := one_start T0 k c_hs11_ d_hs8_
        omega
      · obtain ⟨rfl, s1, s2, s3, s4⟩ := one_start T0 k c_hs11_ d_hs8_
        have := eT d_e268_
        have := s2.2.1
        omega
      · obtain ⟨rfl, s1, s2, s3, s4⟩ := one_start T0 k c_hs11_ d_hs8_
        omega
      · obtain ⟨rfl, s1, s2, s3, s4⟩ := one_start T0 k c_hs11_ d_hs8_
        rw [c_hM_, d_hM_]
        exact PRX_pre (opened_both hA hB c_hs67_ d_hs310_ s1 s2 he (s4 (by omega)).1) s3
    · refine xE_SP_X12_one h2 (fun d_M2_ _ d_hF6_ d_r1_ d_hs8_ d_h11_ => ⟨(fun d_h12_ d_M17_ _ d_hF21_ d_hs23_ d_h24_ d_hM_ => ?_), (fun d_h12_ => ⟨(fun d_h26_ d_M31_ _ d_hF35_ d_hs37_ d_h38_ d_hM_ => ?_), (fun d_h26_ => ⟨(fun d_h40_ => ⟨(fun d_hs45_ d_h44_ d_v3_46 d_hv0_46 d_v2_46 d_hv1_46 d_M_46 d_hv2_46 d_hL_46 _ d_hF_46 => ⟨(fun d_h49_ d_h50_ d_M52_ _ d_hF56_ d_hs58_ d_h54_ d_z60_ d_e61_ d_z62_ d_h63_ d_M64_ d_hM65_ d_hM_ => ?_), (fun d_h49_ d_z70_ d_e71_ d_h72_ d_z73_ d_e74_ d_h75_ => ⟨(fun d_h76_ d_h77_ d_M79_ _ d_hF83_ d_hs85_ d_h81_ d_z87_ d_e88_ d_z89_ d_h90_ d_M91_ d_hM92_ d_hM_ => ?_), (fun d_h76_ d_z99_ d_h100_ d_j103_ d_h104_ d_z101_ d_e102_ d_hs109_ d_h108_ d_h139_ d_M141_ _ d_hF145_ d_hs147_ d_h143_ d_z149_ d_e150_ d_z151_ d_h152_ d_M153_ d_hM154_ d_hM_ => ?_)⟩)⟩), (fun d_hs45_ d_h44_ => ⟨(fun d_h160_ d_r165_ d_hs169_ d_h168_ d_z170_ d_e171_ d_h172_ d_h173_ => ⟨(fun d_h174_ d_M175_ d_hM176_ d_h182_ d_z185_ d_e186_ d_h187_ d_h188_ d_h189_ d_h190_ d_hM_ => ?_), (fun d_h174_ => ⟨(fun d_h191_ d_M192_ d_hM193_ d_z202_ d_e203_ d_h204_ d_h205_ d_h206_ d_h207_ d_z208_ d_h209_ _ d_M210_ _ d_hF214_ d_hs216_ d_z222_ d_e223_ d_z224_ d_h225_ d_M226_ d_hM227_ d_z236_ d_e237_ d_h238_ d_h239_ d_h240_ d_z241_ d_h242_ d_M243_ d_hM244_ d_h250_ d_hM_ => ?_), (fun d_h191_ d_M251_ d_hM252_ d_h258_ d_z261_ d_e262_ d_h263_ d_h264_ d_h265_ d_h266_ d_hM_ => ?_)⟩)⟩), (fun d_h160_ d_z267_ d_e268_ d_h269_ => ⟨(fun d_h270_ d_M271_ d_hM272_ d_h276_ d_z279_ d_e280_ d_h281_ d_h282_ d_h283_ d_h284_ d_hM_ => ?_), (fun d_h270_ d_M286_ d_hM287_ d_h291_ d_z294_ d_e295_ d_h296_ d_h297_ d_h298_ d_h299_ d_hM_ => ?_)⟩)⟩)⟩), (fun d_h40_ d_M304_ _ d_hF308_ d_hs310_ d_h311_ d_hM_ => ?_)⟩)⟩)⟩)
      · obtain ⟨rfl, s1, s2, s3, s4⟩ := one_start T0 k c_hs11_ d_hs8_
        omega
      · obtain ⟨rfl, s1, s2, s3, s4⟩ := one_start T0 k c_hs11_ d_hs8_
        omega
      · obtain ⟨rfl, s1, s2, s3, s4⟩ := one_start T0 k c_hs11_ d_hs8_
        have nb := number_both (w := (d_v3_46, d_v2_46, d_M_46)) (D0 := D) s1 s2 he c_hs76_ d_hL_46 d_h50_ (Or.inl d_h49_) d_hs58_ d_e61_ (show D2 = up d_M52_ (12, 0, 0) 12 (d_z60_ + (1 : Int32)) by rw [d_hM_, d_hM65_, d_h63_])
        rw [c_hM_]
        exact PRX_pre (C' := C) ⟨⟨nb.1, Or.inl nb.2.1⟩, nb.2.2⟩ s3
      · obtain ⟨rfl, s1, s2, s3, s4⟩ := one_start T0 k c_hs11_ d_hs8_
        have nb := number_both (w := (d_v3_46, d_v2_46, d_M_46)) (D0 := D) s1 s2 he c_hs76_ d_hL_46 d_h77_ (Or.inr ⟨d_h49_, Or.inl (by rw [← d_e71_, ← d_e74_]; exact d_h76_)⟩) d_hs85_ d_e88_ (show D2 = up d_M79_ (12, 0, 0) 12 (d_z87_ + (1 : Int32)) by rw [d_hM_, d_hM92_, d_h90_])
        rw [c_hM_]
        exact PRX_pre (C' := C) ⟨⟨nb.1, Or.inl nb.2.1⟩, nb.2.2⟩ s3
      · obtain ⟨rfl, s1, s2, s3, s4⟩ := one_start T0 k c_hs11_ d_hs8_
        have nb := number_both (w := (d_v3_46, d_v2_46, d_M_46)) (D0 := D) s1 s2 he c_hs76_ d_hL_46 d_h139_ (Or.inr ⟨d_h49_, Or.inr ⟨by rw [← d_e71_, ← d_e74_]; exact d_h76_, by rw [← d_e71_, show 273 + d_z70_.toInt.toNat = d_j103_ by omega, ← d_e102_]; exact d_h108_⟩⟩) d_hs147_ d_e150_ (show D2 = up d_M141_ (12, 0, 0) 12 (d_z149_ + (1 : Int32)) by rw [d_hM_, d_hM154_, d_h152_])
        rw [c_hM_]
        exact PRX_pre (C' := C) ⟨⟨nb.1, Or.inl nb.2.1⟩, nb.2.2⟩ s3
      · obtain ⟨rfl, s1, s2, s3, s4⟩ := one_start T0 k c_hs11_ d_hs8_
        have := eT d_h173_
        omega
      · obtain ⟨rfl, s1, s2, s3, s4⟩ := one_start T0 k c_hs11_ d_hs8_
        omega
      · obtain ⟨rfl, s1, s2, s3, s4⟩ := one_start T0 k c_hs11_ d_hs8_
        omega
      · obtain ⟨rfl, s1, s2, s3, s4⟩ := one_start T0 k c_hs11_ d_hs8_
        have := eT d_e268_
        have := s2.2.1
        omega
      · obtain ⟨rfl, s1, s2, s3, s4⟩ := one_start T0 k c_hs11_ d_hs8_
        omega
      · obtain ⟨rfl, s1, s2, s3, s4⟩ := one_start T0 k c_hs11_ d_hs8_
        omega
    · have := eT c_e2_
      omega
  · have k13 := k.2.1
    have c4 := k.1
    have cz : C2.1 (4, 0, 0) 4 = C.1 (4, 0, 0) 4 := by
      refine xE_SP_X4_readOne h1 (fun c_z1_ c_e2_ => ⟨(fun c_h3_ c_M5_ _ c_hF9_ c_r4_ c_hs11_ => ⟨(fun c_h15_ => ⟨(fun c_h16_ c_M17_ _ c_hF21_ c_hs23_ c_h19_ c_hM_ => ?_), (fun c_h16_ => ⟨(fun c_h26_ c_M27_ _ c_hF31_ c_hs33_ c_h29_ c_hM_ => ?_), (fun c_h26_ c_h36_ c_M37_ _ c_hF41_ c_hs43_ c_hM_ => ?_)⟩)⟩), (fun c_h15_ => ⟨(fun c_h47_ c_h48_ c_h49_ => ⟨(fun c_h50_ c_M51_ _ c_hF55_ c_hs57_ c_hM_ => ?_), (fun c_h50_ c_M61_ _ c_hF65_ c_hs67_ c_h63_ c_hM_ => ?_)⟩), (fun c_h47_ c_M70_ _ c_hF74_ c_hs76_ c_hM_ => ?_)⟩)⟩), (fun c_h3_ c_hM_ => ?_)⟩)
      · have := eT c_e2_
        omega
      · have := eT c_e2_
        omega
      · have := eT c_e2_
        omega
      · have := eT c_e2_
        omega
      · have := eT c_e2_
        omega
      · have := eT c_e2_
        omega
      · rw [c_hM_]
    have nh : ∀ {r1 : Int32} {M2 : mM} {s' : Int} {W' : Nat} {a' T' : Int}, SP_X12_here s' W' a' T' D r1 M2 → r1.toInt = -1 ∧ ∀ (c : rf) (k : Nat), M2.1 c k = D.1 c k := fun hh => by
      rcases x12here hh ab with g | g
      · exact g.2
      · exact absurd g.1 k13
    refine xE_SP_X12_one h2 (fun d_M2_ _ d_hF6_ d_r1_ d_hs8_ d_h11_ => ⟨(fun d_h12_ d_M17_ _ d_hF21_ d_hs23_ d_h24_ d_hM_ => ?_), (fun d_h12_ => ⟨(fun d_h26_ d_M31_ _ d_hF35_ d_hs37_ d_h38_ d_hM_ => ?_), (fun d_h26_ => ⟨(fun d_h40_ => ⟨(fun d_hs45_ d_h44_ d_v3_46 d_hv0_46 d_v2_46 d_hv1_46 d_M_46 d_hv2_46 d_hL_46 _ d_hF_46 => ⟨(fun d_h49_ d_h50_ d_M52_ _ d_hF56_ d_hs58_ d_h54_ d_z60_ d_e61_ d_z62_ d_h63_ d_M64_ d_hM65_ d_hM_ => ?_), (fun d_h49_ d_z70_ d_e71_ d_h72_ d_z73_ d_e74_ d_h75_ => ⟨(fun d_h76_ d_h77_ d_M79_ _ d_hF83_ d_hs85_ d_h81_ d_z87_ d_e88_ d_z89_ d_h90_ d_M91_ d_hM92_ d_hM_ => ?_), (fun d_h76_ d_z99_ d_h100_ d_j103_ d_h104_ d_z101_ d_e102_ d_hs109_ d_h108_ d_h139_ d_M141_ _ d_hF145_ d_hs147_ d_h143_ d_z149_ d_e150_ d_z151_ d_h152_ d_M153_ d_hM154_ d_hM_ => ?_)⟩)⟩), (fun d_hs45_ d_h44_ => ⟨(fun d_h160_ d_r165_ d_hs169_ d_h168_ d_z170_ d_e171_ d_h172_ d_h173_ => ⟨(fun d_h174_ d_M175_ d_hM176_ d_h182_ d_z185_ d_e186_ d_h187_ d_h188_ d_h189_ d_h190_ d_hM_ => ?_), (fun d_h174_ => ⟨(fun d_h191_ d_M192_ d_hM193_ d_z202_ d_e203_ d_h204_ d_h205_ d_h206_ d_h207_ d_z208_ d_h209_ _ d_M210_ _ d_hF214_ d_hs216_ d_z222_ d_e223_ d_z224_ d_h225_ d_M226_ d_hM227_ d_z236_ d_e237_ d_h238_ d_h239_ d_h240_ d_z241_ d_h242_ d_M243_ d_hM244_ d_h250_ d_hM_ => ?_), (fun d_h191_ d_M251_ d_hM252_ d_h258_ d_z261_ d_e262_ d_h263_ d_h264_ d_h265_ d_h266_ d_hM_ => ?_)⟩)⟩), (fun d_h160_ d_z267_ d_e268_ d_h269_ => ⟨(fun d_h270_ d_M271_ d_hM272_ d_h276_ d_z279_ d_e280_ d_h281_ d_h282_ d_h283_ d_h284_ d_hM_ => ?_), (fun d_h270_ d_M286_ d_hM287_ d_h291_ d_z294_ d_e295_ d_h296_ d_h297_ d_h298_ d_h299_ d_hM_ => ?_)⟩)⟩)⟩), (fun d_h40_ d_M304_ _ d_hF308_ d_hs310_ d_h311_ d_hM_ => ?_)⟩)⟩)⟩)
    · have g := nh d_hs8_
      omega
    · have g := nh d_hs8_
      omega
    · have g := nh d_hs8_
      omega
    · have g := nh d_hs8_
      omega
    · have g := nh d_hs8_
      omega
    · have g := nh d_hs8_
      omega
    · have g := nh d_hs8_
      omega
    · have g := nh d_hs8_
      omega
    · have g := nh d_hs8_
      rw [d_hM_] at T2 ⊢
      exact PBD_keep T2 k cz (by rw [zupE d_hM272_ rfl rfl, q1]; omega) (by rw [zupN d_hM272_ (by simp)]; exact g.2 _ _) (by rw [zupN d_hM272_ (by simp)]; exact g.2 _ _)
    · have g := nh d_hs8_
      rw [d_hM_] at T2 ⊢
      exact PBD_keep T2 k cz (by rw [zupE d_hM287_ rfl rfl, q1]; omega) (by rw [zupN d_hM287_ (by simp)]; exact g.2 _ _) (by rw [zupN d_hM287_ (by simp)]; exact g.2 _ _)
    · have g := nh d_hs8_
      omega
end
