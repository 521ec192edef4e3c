section
/-! the two parses: signs, loops -/
def PRX (e : Int) (C C2 D D2 : mM) : Prop := PRL e C2 D2 ∧ (D.1 (12, 0, 0) 9).toInt ≤ (D2.1 (12, 0, 0) 9).toInt
def opT (c : Int) : Int := if c = 42 then 2005 else if c = 47 then 2006 else if c = 37 then 2007 else 0
def opU (c : Int) : Int := if c = 43 then 2003 else if c = 45 then 2004 else 0
def opV (c : Int) : Int := if c = 60 then 2000 else if c = 61 then 2001 else if c = 62 then 2002 else 0
def GOP (g : Int → Int) : Prop := ∀ c, g c = 0 ∨ (0 ≤ c ∧ c ≤ 62 ∧ 2000 ≤ g c ∧ g c < 2008 ∧ cmI (g c) = 2000 + c)
theorem gopT : GOP opT := fun c => by
  unfold opT
  split
  · rename_i h; subst h; right; decide
  · split
    · rename_i h; subst h; right; decide
    · split
      · rename_i h; subst h; right; decide
      · left; rfl
theorem gopU : GOP opU := fun c => by
  unfold opU
  split
  · rename_i h; subst h; right; decide
  · split
    · rename_i h; subst h; right; decide
    · left; rfl
theorem gopV : GOP opV := fun c => by
  unfold opV
  split
  · rename_i h; subst h; right; decide
  · split
    · rename_i h; subst h; right; decide
    · split
      · rename_i h; subst h; right; decide
      · left; rfl
def ATb (D : mM) : Prop := 0 ≤ (D.1 (12, 0, 0) 9).toInt ∧ (D.1 (12, 0, 0) 9).toInt ≤ (D.1 (50, 0, 0) 4).toInt
/-- blanks were read, no sign of these -/
def MISs (P : Int → Prop) (D D2 : mM) : Prop := (∀ (c : rf) (k : Nat), ¬ (c = (12, 0, 0) ∧ k = 9) → D2.1 c k = D.1 c k) ∧ ((¬ (D.1 (12, 0, 0) 13).toInt = 0 ∧ (D2.1 (12, 0, 0) 9).toInt = (D.1 (12, 0, 0) 9).toInt) ∨ ((D.1 (12, 0, 0) 13).toInt = 0 ∧ ∃ q c : Int, nxT (D.1 (50, 0, 0)) (D.1 (50, 0, 0) 4).toInt (D.1 (12, 0, 0) 9).toInt q c ∧ q ≤ (D.1 (50, 0, 0) 4).toInt ∧ P c ∧ (D2.1 (12, 0, 0) 9).toInt = q))
def OPQ (g : Int → Int) (D : mM) (v : Int32) (D2 : mM) : Prop := (∀ (c : rf) (k : Nat), ¬ (c = (12, 0, 0) ∧ k = 9) → D2.1 c k = D.1 c k) ∧ ((¬ (D.1 (12, 0, 0) 13).toInt = 0 ∧ v.toInt = 0 ∧ (D2.1 (12, 0, 0) 9).toInt = (D.1 (12, 0, 0) 9).toInt) ∨ ((D.1 (12, 0, 0) 13).toInt = 0 ∧ ∃ q c : Int, nxT (D.1 (50, 0, 0)) (D.1 (50, 0, 0) 4).toInt (D.1 (12, 0, 0) 9).toInt q c ∧ q ≤ (D.1 (50, 0, 0) 4).toInt ∧ ((g c = 0 ∧ v.toInt = 0 ∧ (D2.1 (12, 0, 0) 9).toInt = q) ∨ (¬ g c = 0 ∧ v.toInt = g c ∧ (D2.1 (12, 0, 0) 9).toInt = q + 1))))
theorem mis1 {k : Int32} {s : Int} {W : Nat} {a T : Int} {D D2 : mM} (h : SP_X12_takes k s W a T D 0 D2) (hk : 0 ≤ k.toInt) (hb : ATb D) : MISs (fun c => ¬ c = k.toInt) D D2 := by
  have q0 := il_0
  obtain ⟨h1, h2 | ⟨h2, q, c, h3, h4, h5 | h5⟩⟩ := x12takes h hk hb
  · exact ⟨h1, Or.inl ⟨h2.1, h2.2.2⟩⟩
  · omega
  · exact ⟨h1, Or.inr ⟨h2, q, c, h3, h4, h5.1, h5.2.2⟩⟩
theorem MISs_b {P : Int → Prop} {D D2 : mM} (h : MISs P D D2) (hb : ATb D) : ATb D2 := by
  unfold ATb at hb ⊢
  rw [h.1 (50, 0, 0) 4 (by simp)]
  rcases h.2 with h2 | ⟨h2, q, c, h3, h4, h5, h6⟩
  · omega
  · have := h3.1; omega
theorem mis2 {P : Int → Prop} {k : Int32} {s : Int} {W : Nat} {a T : Int} {D Da D2 : mM} (m : MISs P D Da) (h : SP_X12_takes k s W a T Da 0 D2) (hk : 0 ≤ k.toInt) (hb : ATb D) : MISs (fun c => P c ∧ ¬ c = k.toInt) D D2 := by
  have n := mis1 h hk (MISs_b m hb)
  have row : Da.1 (50, 0, 0) = D.1 (50, 0, 0) := funext fun j => m.1 _ _ (by simp)
  have w13 : Da.1 (12, 0, 0) 13 = D.1 (12, 0, 0) 13 := m.1 _ _ (by simp)
  refine ⟨fun c k q => (n.1 c k q).trans (m.1 c k q), ?_⟩
  have n2 := n.2
  rw [row, w13] at n2
  rcases m.2 with m2 | ⟨m2, q, c, m3, m4, m5, m6⟩ <;> rcases n2 with n2 | ⟨n2, q2, c2, n3, n4, n5, n6⟩
  · exact Or.inl ⟨m2.1, by omega⟩
  · exact absurd n2 m2.1
  · exact absurd m2 n2.1
  · rw [m6] at n3
    have u := nxT_uniq (by have := m3.1; have := hb.1; omega) (nxT_idem m3) n3
    exact Or.inr ⟨m2, q, c, m3, m4, ⟨m5, by rw [u.2]; exact n5⟩, by omega⟩
theorem hit1 {g : Int → Int} {k v : Int32} {s : Int} {W : Nat} {a T : Int} {D D2 : mM} (h : SP_X12_takes k s W a T D 1 D2) (hk : 0 ≤ k.toInt) (hb : ATb D) (hg : ¬ g k.toInt = 0 ∧ v.toInt = g k.toInt) : OPQ g D v D2 := by
  have q1 := il_1
  obtain ⟨h1, h2 | ⟨h2, q, c, h3, h4, h5 | h5⟩⟩ := x12takes h hk hb
  · omega
  · exact ⟨h1, Or.inr ⟨h2, q, c, h3, h4, Or.inr ⟨by rw [h5.1]; exact hg.1, by rw [h5.1]; exact hg.2, h5.2.2⟩⟩⟩
  · omega
theorem hit2 {g : Int → Int} {P : Int → Prop} {k v : Int32} {s : Int} {W : Nat} {a T : Int} {D Da D2 : mM} (m : MISs P D Da) (h : SP_X12_takes k s W a T Da 1 D2) (hk : 0 ≤ k.toInt) (hb : ATb D) (hg : ¬ g k.toInt = 0 ∧ v.toInt = g k.toInt) : OPQ g D v D2 := by
  have n := hit1 (g := g) (v := v) h hk (MISs_b m hb) hg
  have row : Da.1 (50, 0, 0) = D.1 (50, 0, 0) := funext fun j => m.1 _ _ (by simp)
  have w13 : Da.1 (12, 0, 0) 13 = D.1 (12, 0, 0) 13 := m.1 _ _ (by simp)
  refine ⟨fun c k q => (n.1 c k q).trans (m.1 c k q), ?_⟩
  have n2 := n.2
  rw [row, w13] at n2
  rcases m.2 with m2 | ⟨m2, q, c, m3, m4, m5, m6⟩ <;> rcases n2 with n2 | ⟨n2, q2, c2, n3, n4, n5⟩
  · exact Or.inl ⟨m2.1, n2.2.1, by omega⟩
  · exact absurd n2 m2.1
  · exact absurd m2 n2.1
  · rw [m6] at n3
    have u := nxT_uniq (by have := m3.1; have := hb.1; omega) (nxT_idem m3) n3
    rw [← u.1, ← u.2] at n5
    exact Or.inr ⟨m2, q, c, m3, m4, n5⟩
theorem mis0 {g : Int → Int} {P : Int → Prop} {D D2 : mM} {v : Int32} (m : MISs P D D2) (hp : ∀ c, P c → g c = 0) (hv : v.toInt = 0) : OPQ g D v D2 := by
  refine ⟨m.1, ?_⟩
  rcases m.2 with m2 | ⟨m2, q, c, m3, m4, m5, m6⟩
  · exact Or.inl ⟨m2.1, hv, m2.2⟩
  · exact Or.inr ⟨m2, q, c, m3, m4, Or.inl ⟨hp c m5, hv, m6⟩⟩
theorem OPQ_b {g : Int → Int} (hg : GOP g) {D D2 : mM} {v : Int32} (h : OPQ g D v D2) (hb : ATb D) (h48 : (D.1 (50, 0, 0) 4).toInt ≤ 48) : ATb D2 := by
  unfold ATb at hb ⊢
  rw [h.1 (50, 0, 0) 4 (by simp)]
  rcases h.2 with h2 | ⟨h2, q, c, h3, h4, h5 | h5⟩
  · omega
  · have := h3.1; omega
  · have h6 := hg c
    have h7 := h3.1
    rcases h3.2.2 with h8 | h8 <;> omega
/-- the class's loop over signs, a step and its end -/
def LCs (g : Int → Int) (ONE : mM → mM → Prop) (x y : Int32 × mM) : Prop := x.1.toInt < 48 ∧ (x.2.1 (4, 0, 0) 4).toInt < 0 ∧ ∃ (r w z : Int32) (Cn Ci Ca : mM), SP_X4_next x.2 r Cn ∧ ¬ g r.toInt = 0 ∧ z = Cn.1 (4, 0, 0) 3 + (1 : Int32) ∧ Ci = up Cn (4, 0, 0) 3 z ∧ FR S_reader Ci Ca ∧ ONE Ci Ca ∧ w.toInt = 2000 + r.toInt ∧ SP_X1_add 3 0 w Ca y.2 ∧ y.1.toInt = x.1.toInt + 1
def LCf (g : Int → Int) (x : Int32 × mM) (C : mM) : Prop := (48 ≤ x.1.toInt ∧ C = x.2) ∨ (0 ≤ (x.2.1 (4, 0, 0) 4).toInt ∧ C = x.2) ∨ ((x.2.1 (4, 0, 0) 4).toInt < 0 ∧ ∃ r : Int32, SP_X4_next x.2 r C ∧ g r.toInt = 0)
def LDs (OPR : mM → Int32 → mM → Prop) (ONE : mM → mM → Prop) (x y : Int32 × mM) : Prop := 0 < x.1.toInt ∧ ∃ (Dm Dc : mM) (s : Int) (W : Nat) (a T : Int) (E : Nat), FR S_par x.2 Dm ∧ ONE x.2 Dm ∧ SP_X12_codes x.1 s W a T E Dm Dc ∧ OPR Dc y.1 y.2
/-- both write a sign's code, wrong or not -/
theorem PRL_code {e : Int} {C C2 D D2 : mM} {v w : Int32} {s : Int} {W : Nat} {a T : Int} {E : Nat} (h : PRL (e - 1) C D) (he : e ≤ 0) (hc : SP_X1_add 3 0 v C C2) (hd : SP_X12_codes w s W a T E D D2) (hv : v.toInt = cmI w.toInt) (hw : 2000 ≤ w.toInt) : PRX e C C2 D D2 := by
  rcases h with ⟨t, h | h⟩
  · have g := POK_code h t.2.1.2 (by omega) hc hd hv ⟨by omega, fun q => by omega⟩
    rw [show e - 1 + 1 = e by omega] at g
    have cd := x12codes hd
    have ca := x1add hc (by have z0 := t.2.1; obtain ⟨-, -, -, z4, -, z6, z7, z8, -⟩ := h; omega)
    rcases cd with d | ⟨-, d1, d2, d3⟩
    · exact absurd h.2.1 d.1
    · refine ⟨⟨?_, Or.inl g⟩, by rw [d3 (12, 0, 0) 9 (by simp) (by simp)]; exact Int.le_refl _⟩
      unfold TPE
      rw [ca.2.2 _ _ (by simp) (by simp), ca.2.2 (4, 0, 0) 2 (by simp) (by simp), d3 (50, 0, 0) 4 (by simp) (by simp), d3 (12, 0, 0) 10 (by simp) (by simp)]
      refine ⟨t.1, t.2.1, fun i hi => ?_, t.2.2.2⟩
      rw [ca.2.2 _ _ (by simp) (by simp), d3 _ _ (by simp) (by simp)]
      exact t.2.2.1 i hi
  · have f := x1addF hc
    rcases x12codes hd with d | d
    · rw [d.2]
      refine ⟨⟨?_, Or.inr ?_⟩, Int.le_refl _⟩
      · have k : ∀ (c : rf) (k : Nat), c.1 = 5 ∨ c.1 = 33 → C2.1 c k = C.1 c k := fun c k q => by
          refine xE_SP_X1_add hc (fun z1_ e2_ => ⟨(fun h3_ hM_ => ?_), (fun h3_ => ⟨(fun h6_ hM_ => ?_), (fun h6_ j11_ h12_ M9_ hM10_ z15_ e16_ z17_ h18_ M19_ hM20_ hM_ => ?_)⟩)⟩)
          · rw [hM_]
          · rw [hM_]
          · rw [hM_, hM20_, up_other _ _ (fun z => by rw [z] at q; simp at q), hM10_, up_other _ _ (fun z => by rw [z] at q; simp at q)]
        unfold TPE
        rw [k _ _ (by simp), f]
        refine ⟨t.1, t.2.1, fun i hi => ?_, t.2.2.2⟩
        rw [k _ _ (by simp)]
        exact t.2.2.1 i hi
      · unfold PBD at h ⊢
        rw [f]; exact h
    · exact absurd d.1 h.2.1
def BOTH (ONE ONE2 : mM → mM → Prop) : Prop := ∀ (e : Int) (C C2 D D2 : mM), e ≤ 0 → PRL e C D → ONE C C2 → ONE2 D D2 → FR S_reader C C2 → FR S_par D D2 → PRX e C C2 D D2
theorem loop_both {g : Int → Int} (hg : GOP g) {OPR : mM → Int32 → mM → Prop} (hP : ∀ (D : mM) (v : Int32) (D2 : mM), ATb D → OPR D v D2 → OPQ g D v D2) {ONE ONE2 : mM → mM → Prop} (hO : BOTH ONE ONE2) {e : Int} (he : e ≤ 0) {C1 D1 C2 D0 : mM} {z w : Int32 × mM} {v0 : Int32} (h : PRL e C1 D1)
    (hc : RCH (LCs g ONE) ((0 : Int32), C1) z) (hf : LCf g z C2) (h0 : OPR D1 v0 D0) (hd : RCH (LDs OPR ONE2) (v0, D0) w) (hw : w.1.toInt ≤ 0) : PRX e C1 C2 D1 w.2 := by
  have q0 := il_0
  have L := lockE (fun x y : Int32 × mM => ∃ D : mM, PRL e x.2 D ∧ OPR D y.1 y.2 ∧ (0 ≤ x.1.toInt ∧ x.1.toInt ≤ (D.1 (12, 0, 0) 9).toInt) ∧ (D1.1 (12, 0, 0) 9).toInt ≤ (D.1 (12, 0, 0) 9).toInt) hc hd ⟨D1, h, h0, by dsimp only; have := PRL_at h; omega, Int.le_refl _⟩
    (fun x z y w r s t => by
      obtain ⟨D, r1, r2, r3, r4⟩ := r
      obtain ⟨s1, s2, rr, ww, zz, Cn, Ci, Ca, s3, s4, s5, s6, s7, s8, s9, s10, s11⟩ := s
      obtain ⟨t1, Dm, Dc, t2, t3, t4, t5, t6, t7, t8, t9, t10⟩ := t
      have ab := PRL_at r1
      have op := hP D y.1 y.2 ab r2
      have T := r1.1
      rcases r1.2 with k | k
      · have nx := x4next s3 T (by have := k.2.2.1; omega)
        rw [k.2.2.1] at nx
        obtain ⟨op1, op2⟩ := op
        rcases op2 with op2 | ⟨op2, q, c, op3, op4, op5⟩
        · exact absurd k.2.1 op2.1
        · have u := nxT_uniq ab.1 nx.1 op3
          have gc := hg c
          rw [u.2] at s4
          rcases op5 with op5 | op5
          · exact absurd op5.1 s4
          · have gr := gc.resolve_left s4
            have qN : q < (D.1 (50, 0, 0) 4).toInt := by rcases op3.2.2 with z | z <;> omega
            have qp := op3.1
            have hz : zz.toInt = q + 1 := by rw [s5, addI (x := Cn.1 (4, 0, 0) 3) rfl il_1 (by omega) (by have := T.2.1; omega)]; omega
            have kc : ∀ (c : rf) (k : Nat), ¬ (c = (4, 0, 0) ∧ k = 3) → Ci.1 c k = x.2.1 c k := fun c k q => by rw [s6, zupN rfl q]; exact nx.2.2 c k q
            have p3 : (Ci.1 (4, 0, 0) 3).toInt = q + 1 := by rw [s6, zupE rfl rfl rfl]; exact hz
            have T2 : TPE Ci y.2 := by
              unfold TPE
              rw [kc _ _ (by simp), kc (4, 0, 0) 2 (by simp), op1 (50, 0, 0) 4 (by simp), op1 (12, 0, 0) 10 (by simp)]
              refine ⟨T.1, T.2.1, fun i hi => ?_, T.2.2.2⟩
              rw [kc _ _ (by simp), op1 _ _ (by simp)]
              exact T.2.2.1 i hi
            have K : POK (e - 1) Ci y.2 := by
              obtain ⟨k1, k2, k3, k4, k5, k6, k7, k8, k9, k10⟩ := k
              unfold POK
              rw [kc (4, 0, 0) 4 (by simp), kc (4, 0, 0) 6 (by simp), kc (1, 3, 0) 2 (by simp), kc (4, 0, 0) 5 (by simp), op1 (12, 0, 0) 13 (by simp), op1 (12, 0, 0) 12 (by simp), op1 (12, 0, 0) 14 (by simp), op1 (12, 0, 0) 11 (by simp), op1 (12, 0, 0) 10 (by simp), op1 (50, 0, 0) 4 (by simp)]
              refine ⟨k1, k2, by omega, by omega, k5, k6, k7, by omega, k9, fun i hi => ?_⟩
              rw [kc _ _ (by simp), op1 _ _ (by simp)]
              exact k10 i hi
            have R := hO (e - 1) Ci Ca y.2 Dm (by omega) ⟨T2, Or.inl K⟩ s8 t8 s7 t7
            have S := PRL_code R.1 he s10 t9 (by rw [s9, u.2, op5.2.1]; omega) (by omega)
            have m1 := R.2
            have m2 := S.2
            exact ⟨Dc, S.1, t10, by omega, by omega⟩
      · have := k.1; omega)
    (fun y y' r t => by
      obtain ⟨D, r1, r2, r3, r4⟩ := r
      obtain ⟨t1, -⟩ := t
      have ab := PRL_at r1
      have op := hP D y.1 y.2 ab r2
      have T := r1.1
      obtain ⟨op1, op2⟩ := op
      rcases op2 with op2 | ⟨op2, q, c, op3, op4, op5 | op5⟩
      · omega
      · omega
      · have gc := (hg c).resolve_left op5.1
        have qN : q < (D.1 (50, 0, 0) 4).toInt := by rcases op3.2.2 with z | z <;> omega
        have qp := op3.1
        rcases r1.2 with k | k
        · rcases hf with hf | hf | ⟨hf, rr, hf2, hf3⟩
          · have := T.2.1; omega
          · have := k.1; omega
          · have nx := x4next hf2 T (by have := k.2.2.1; omega)
            rw [k.2.2.1] at nx
            have u := nxT_uniq ab.1 nx.1 op3
            rw [u.2] at hf3
            exact op5.1 hf3
        · exact absurd op2 k.2.1)
    (fun x x' r s => by
      obtain ⟨D, r1, r2, r3, r4⟩ := r
      obtain ⟨s1, s2, rr, ww, zz, Cn, Ci, Ca, s3, s4, -⟩ := s
      have ab := PRL_at r1
      have op := hP D w.1 w.2 ab r2
      have T := r1.1
      rcases r1.2 with k | k
      · have nx := x4next s3 T (by have := k.2.2.1; omega)
        rw [k.2.2.1] at nx
        obtain ⟨op1, op2⟩ := op
        rcases op2 with op2 | ⟨op2, q, c, op3, op4, op5 | op5⟩
        · exact absurd k.2.1 op2.1
        · have u := nxT_uniq ab.1 nx.1 op3
          rw [u.2] at s4
          exact s4 op5.1
        · have gc := (hg c).resolve_left op5.1
          omega
      · have := k.1; omega)
  obtain ⟨D, r1, r2, r3, r4⟩ := L
  have ab := PRL_at r1
  have op := hP D w.1 w.2 ab r2
  have T := r1.1
  obtain ⟨op1, op2⟩ := op
  -- the class's end
  have E : ∃ q : Int, (D.1 (12, 0, 0) 9).toInt ≤ q ∧ (w.2.1 (12, 0, 0) 9).toInt = q ∧ ((PBD z.2 D ∧ C2 = z.2 ∧ q = (D.1 (12, 0, 0) 9).toInt) ∨ (POK e z.2 D ∧ q ≤ (D.1 (50, 0, 0) 4).toInt ∧ (C2.1 (4, 0, 0) 3).toInt = q ∧ ∀ (c : rf) (k : Nat), ¬ (c = (4, 0, 0) ∧ k = 3) → C2.1 c k = z.2.1 c k)) := by
    rcases r1.2 with k | k
    · rcases op2 with op2 | ⟨op2, q, c, op3, op4, op5 | op5⟩
      · exact absurd k.2.1 op2.1
      · refine ⟨q, op3.1, op5.2.2, Or.inr ⟨k, op4, ?_⟩⟩
        have qp := op3.1
        rcases hf with hf | hf | ⟨hf, rr, hf2, hf3⟩
        · have := T.2.1
          have := k.2.2.1
          rw [hf.2]
          exact ⟨by omega, fun _ _ _ => rfl⟩
        · have := k.1; omega
        · have nx := x4next hf2 T (by have := k.2.2.1; omega)
          rw [k.2.2.1] at nx
          have u := nxT_uniq ab.1 nx.1 op3
          exact ⟨u.1, nx.2.2⟩
      · have gc := (hg c).resolve_left op5.1
        omega
    · refine ⟨(D.1 (12, 0, 0) 9).toInt, Int.le_refl _, ?_, Or.inl ⟨k, ?_, rfl⟩⟩
      · rcases op2 with op2 | op2
        · exact op2.2.2
        · exact absurd op2.1 k.2.1
      · rcases hf with hf | hf | hf
        · exact hf.2
        · exact hf.2
        · have := k.1; omega
  obtain ⟨q, e1, e2, e3⟩ := E
  refine ⟨?_, by omega⟩
  rcases e3 with ⟨k, e3, e4⟩ | ⟨k, e3, e4, e5⟩
  · rw [e3]
    refine ⟨?_, Or.inr ?_⟩
    · unfold TPE at T ⊢
      rw [op1 (50, 0, 0) 4 (by simp), op1 (12, 0, 0) 10 (by simp)]
      refine ⟨T.1, T.2.1, fun i hi => ?_, T.2.2.2⟩
      rw [op1 _ _ (by simp)]
      exact T.2.2.1 i hi
    · unfold PBD at k ⊢
      rw [op1 (12, 0, 0) 13 (by simp), op1 (50, 0, 0) 4 (by simp)]
      exact ⟨k.1, k.2.1, by omega, by omega⟩
  · refine ⟨?_, Or.inl ?_⟩
    · unfold TPE at T ⊢
      rw [e5 _ _ (by simp), e5 (4, 0, 0) 2 (by simp), op1 (50, 0, 0) 4 (by simp), op1 (12, 0, 0) 10 (by simp)]
      refine ⟨T.1, T.2.1, fun i hi => ?_, T.2.2.2⟩
      rw [e5 _ _ (by simp), op1 _ _ (by simp)]
      exact T.2.2.1 i hi
    · obtain ⟨k1, k2, k3, k4, k5, k6, k7, k8, k9, k10⟩ := k
      unfold POK
      rw [e5 (4, 0, 0) 4 (by simp), e5 (4, 0, 0) 6 (by simp), e5 (1, 3, 0) 2 (by simp), e5 (4, 0, 0) 5 (by simp), op1 (12, 0, 0) 13 (by simp), op1 (12, 0, 0) 12 (by simp), op1 (12, 0, 0) 14 (by simp), op1 (12, 0, 0) 11 (by simp), op1 (12, 0, 0) 10 (by simp), op1 (50, 0, 0) 4 (by simp)]
      refine ⟨k1, k2, by omega, by omega, k5, k6, k7, by omega, k9, fun i hi => ?_⟩
      rw [e5 _ _ (by simp), op1 _ _ (by simp)]
      exact k10 i hi
/-! expect and must -/
set_option maxHeartbeats 2000000 in
theorem expect_both {v : Int32} {s : Int} {W : Nat} {a T : Int} {e : Int} {C C2 D D2 : mM} (h1 : SP_X4_expect v C C2) (h2 : SP_X12_must v s W a T D D2) (hv : 0 ≤ v.toInt) (h : PRL e C D) (hc0 : FR S_c_X4_expect C C2) (hd0 : FR S_must D D2) : PRX e C C2 D D2 := by
  have hc : FR S_reader C C2 := fun c k q => hc0 c k (fun z => q (Or.elim z (fun a => Or.inl a) (fun z => Or.elim z (fun a => Or.inr (Or.inl a)) False.elim)))
  have hd : FR S_par D D2 := fun c k q => hd0 c k (fun z => q (Or.elim z (fun a => Or.inl a) (fun z => Or.elim z (fun a => Or.inr (Or.inr (Or.inr (Or.inl a)))) False.elim)))
  have q0 := il_0
  have q1 := il_1
  have T := h.1
  have ab := PRL_at h
  have T2 := TPE_fr T hc hd
  -- the model
  have M : (∀ (c : rf) (k : Nat), ¬ (c = (12, 0, 0) ∧ (k = 9 ∨ k = 13)) → D2.1 c k = D.1 c k) ∧ ((¬ (D.1 (12, 0, 0) 13).toInt = 0 ∧ (D2.1 (12, 0, 0) 13).toInt = 1 ∧ (D2.1 (12, 0, 0) 9).toInt = (D.1 (12, 0, 0) 9).toInt) ∨ ((D.1 (12, 0, 0) 13).toInt = 0 ∧ ∃ q c : Int, nxT (D.1 (50, 0, 0)) (D.1 (50, 0, 0) 4).toInt (D.1 (12, 0, 0) 9).toInt q c ∧ q ≤ (D.1 (50, 0, 0) 4).toInt ∧ ((c = v.toInt ∧ (D2.1 (12, 0, 0) 13).toInt = 0 ∧ (D2.1 (12, 0, 0) 9).toInt = q + 1) ∨ (¬ c = v.toInt ∧ (D2.1 (12, 0, 0) 13).toInt = 1 ∧ (D2.1 (12, 0, 0) 9).toInt = q)))) := by
    refine xE_SP_X12_must h2 (fun M2_ _ hF6_ => ⟨(fun hs8_ M12_ hM13_ h16_ hM_ => ?_), (fun hs8_ M20_ hM21_ h24_ hM_ => ?_)⟩)
    · obtain ⟨t1, t2⟩ := x12takes hs8_ hv ab
      refine ⟨fun c k q => by rw [hM_, zupN hM13_ (fun z => q ⟨z.1, Or.inr z.2⟩)]; exact t1 c k (fun z => q ⟨z.1, Or.inl z.2⟩), ?_⟩
      rw [hM_, zupE hM13_ rfl rfl, zupN (c' := (12, 0, 0)) (k' := 9) hM13_ (by simp)]
      rcases t2 with t2 | ⟨t2, q, c, t3, t4, t5 | t5⟩
      · omega
      · exact Or.inr ⟨t2, q, c, t3, t4, Or.inl ⟨t5.1, q0, t5.2.2⟩⟩
      · omega
    · obtain ⟨t1, t2⟩ := x12takes hs8_ hv ab
      refine ⟨fun c k q => by rw [hM_, zupN hM21_ (fun z => q ⟨z.1, Or.inr z.2⟩)]; exact t1 c k (fun z => q ⟨z.1, Or.inl z.2⟩), ?_⟩
      rw [hM_, zupE hM21_ rfl rfl, zupN (c' := (12, 0, 0)) (k' := 9) hM21_ (by simp)]
      rcases t2 with t2 | ⟨t2, q, c, t3, t4, t5 | t5⟩
      · exact Or.inl ⟨t2.1, q1, t2.2.2⟩
      · omega
      · exact Or.inr ⟨t2, q, c, t3, t4, Or.inr ⟨t5.1, q1, t5.2.2⟩⟩
  obtain ⟨m1, m2⟩ := M
  have N4 : D2.1 (50, 0, 0) 4 = D.1 (50, 0, 0) 4 := m1 _ _ (by simp)
  rcases h.2 with k | k
  · rcases m2 with m2 | ⟨m2, q, c, m3, m4, m5⟩
    · exact absurd k.2.1 m2.1
    · obtain ⟨k1, k2, k3, k4, k5, k6, k7, k8, k9, k10⟩ := k
      have qp := m3.1
      refine xE_SP_X4_expect h1 (fun M2_ _ hF6_ r1_ hs8_ => ⟨(fun h10_ z11_ e12_ z13_ h14_ M15_ hM16_ hM_ => ?_), (fun h10_ M20_ _ hF24_ hs26_ hM_ => ?_)⟩)
      · have nx := x4next hs8_ T (by omega)
        rw [k3] at nx
        have u := nxT_uniq ab.1 nx.1 m3
        rcases m5 with m5 | m5
        · have qN : q < (D.1 (50, 0, 0) 4).toInt := by rcases m3.2.2 with z | z <;> omega
          have hz : z13_.toInt = q + 1 := by rw [h14_, addI (x := z11_) rfl il_1 (by rw [e12_]; omega) (by rw [e12_]; have := T.2.1; omega), e12_]; omega
          have kc : ∀ (c : rf) (k : Nat), ¬ (c = (4, 0, 0) ∧ k = 3) → C2.1 c k = C.1 c k := fun c k q => by rw [hM_, zupN hM16_ q]; exact nx.2.2 c k q
          refine ⟨⟨T2, Or.inl ?_⟩, by omega⟩
          unfold POK
          rw [kc (4, 0, 0) 4 (by simp), kc (4, 0, 0) 6 (by simp), kc (1, 3, 0) 2 (by simp), kc (4, 0, 0) 5 (by simp), m1 (12, 0, 0) 12 (by simp), m1 (12, 0, 0) 14 (by simp), m1 (12, 0, 0) 11 (by simp), m1 (12, 0, 0) 10 (by simp), N4, show (C2.1 (4, 0, 0) 3).toInt = q + 1 by rw [hM_, zupE hM16_ rfl rfl]; exact hz]
          refine ⟨k1, m5.2.1, by omega, by omega, k5, k6, k7, by omega, k9, fun i hi => ?_⟩
          rw [kc _ _ (by simp), m1 _ _ (by simp)]
          exact k10 i hi
        · omega
      · have nx := x4next hs8_ T (by omega)
        rw [k3] at nx
        have u := nxT_uniq ab.1 nx.1 m3
        rcases m5 with m5 | m5
        · omega
        · have f4 : M2_.1 (4, 0, 0) 4 = C.1 (4, 0, 0) 4 := nx.2.2 _ _ (by simp)
          rcases x4fail hs26_ with f | f
          · rw [f4] at f; omega
          · refine ⟨⟨T2, Or.inr ?_⟩, by omega⟩
            unfold PBD
            rw [N4, hM_, f.2, up_same]
            omega
  · rcases m2 with m2 | m2
    · have f4 : C2.1 (4, 0, 0) 4 = C.1 (4, 0, 0) 4 := by
        have nf : ∀ {r : Int32} {Cn : mM}, SP_X4_next C r Cn → Cn.1 (4, 0, 0) 4 = C.1 (4, 0, 0) 4 := fun {r Cn} hn => by
          unfold SP_X4_next at hn
          obtain ⟨M_0, hL_0, hI_0, hF_0, z2_, e3_, z4_, e5_, hn⟩ := hn
          have fr : M_0.1 (4, 0, 0) 4 = C.1 (4, 0, 0) 4 := hF_0 _ _ (by simp [S_c_X4_next])
          rcases hn with ⟨-, ⟨-, -, hM_⟩ | ⟨-, r14_, -, -, hM_⟩⟩ | ⟨-, r21_, -, -, ⟨-, -, hM_⟩ | ⟨-, r34_, -, -, hM_⟩⟩
          all_goals (rw [hM_]; exact fr)
        refine xE_SP_X4_expect h1 (fun M2_ _ hF6_ r1_ hs8_ => ⟨(fun h10_ z11_ e12_ z13_ h14_ M15_ hM16_ hM_ => ?_), (fun h10_ M20_ _ hF24_ hs26_ hM_ => ?_)⟩)
        · rw [hM_, zupN hM16_ (by simp)]; exact nf hs8_
        · have n4 := nf hs8_
          rcases x4fail hs26_ with f | f
          · rw [hM_, f.2]; exact n4
          · rw [n4] at f; have := k.1; omega
      refine ⟨⟨T2, Or.inr ?_⟩, by omega⟩
      have := k.2.2
      unfold PBD
      rw [N4, f4]
      exact ⟨k.1, by omega, by omega, by omega⟩
    · exact absurd m2.1 k.2.1
end
section
/-! letters -/
def nmL (u j : Nat) : Int32 := if u = 0 then ([108, 111, 121, 112] : List Int32).getD j 0 else if u = 1 then ([115, 110, 116] : List Int32).getD j 0 else ([102, 108, 114, 98, 116] : List Int32).getD j 0
theorem nmL_uniq {u i j : Nat} (hu : u < 3) (hi : i < nnU u) (hj : j < nnU u) (h : (nmL u i).toInt = (nmL u j).toInt) : i = j := by
  have a : ((List.range 3).all fun u => (List.range 5).all fun i => (List.range 5).all fun j => !(decide (i < nnU u) && decide (j < nnU u) && decide ((nmL u i).toInt = (nmL u j).toInt)) || decide (i = j)) = true := by decide +kernel
  have b : nnU u ≤ 5 := by
    unfold nnU
    split
    · omega
    · split <;> omega
  rw [List.all_eq_true] at a
  have a1 := a u (List.mem_range.mpr hu)
  rw [List.all_eq_true] at a1
  have a2 := a1 i (List.mem_range.mpr (by omega))
  rw [List.all_eq_true] at a2
  have a3 := a2 j (List.mem_range.mpr (by omega))
  by_cases e : i = j
  · exact e
  · simp [hi, hj, h, e] at a3
theorem nmL_b {u j : Nat} (hu : u < 3) (hj : j < nnU u) : 97 ≤ (nmL u j).toInt ∧ (nmL u j).toInt ≤ 127 := by
  have a : ∀ u : Nat, u < 3 → ∀ j : Nat, j < 5 → j < nnU u → 97 ≤ (nmL u j).toInt ∧ (nmL u j).toInt ≤ 127 := by decide +kernel
  have b : nnU u ≤ 5 := by
    unfold nnU
    split
    · omega
    · split <;> omega
  exact a u hu j (by omega) hj
theorem b8 {x : Int32} (hx : 0 ≤ x.toInt ∧ x.toInt ≤ 127) : x.toInt8.toInt32 = x := by
  have a : ∀ i : Nat, i < 128 → (Int32.ofNat i).toInt8.toInt32 = Int32.ofNat i ∧ (Int32.ofNat i).toInt = (i : Int) := by decide +kernel
  have b := a x.toInt.toNat (by omega)
  have e : x = Int32.ofNat x.toInt.toNat := i32e (by rw [b.2]; omega)
  rw [e]
  exact b.1
theorem b16 {x : Int32} (hx : 0 ≤ x.toInt ∧ x.toInt ≤ 127) : (x.toUInt32 % 65536).toInt32 = x := by
  have a : ∀ i : Nat, i < 128 → ((Int32.ofNat i).toUInt32 % 65536).toInt32 = Int32.ofNat i ∧ (Int32.ofNat i).toInt = (i : Int) := by decide +kernel
  have b := a x.toInt.toNat (by omega)
  have e : x = Int32.ofNat x.toInt.toNat := i32e (by rw [b.2]; omega)
  rw [e]
  exact b.1
def NLq (u n : Nat) (x z : Int32) : Prop := (0 ≤ z.toInt ∧ z.toInt < (n : Int) ∧ (nmL u z.toInt.toNat).toInt = x.toInt) ∨ (z.toInt = -1 ∧ ∀ j : Nat, j < n → ¬ (nmL u j).toInt = x.toInt)
theorem ixo0 {x z : Int32} {M : mM} (h : IXO 1 x z M) (hx : 0 ≤ x.toInt ∧ x.toInt ≤ 127) : NLq 0 4 x z := by
  have im := il_m1
  have q0 := il_0
  have qn : (4 : Int32).toInt = 4 := by decide
  have h : SP_S_indexOf_1 x M z := h
  refine xE_SP_S_indexOf_1 h (fun r1_ hs5_ hr_ => ?_)
  have ha_ := hs5_
  have hra_ := hr_
  refine xE_SP_S_indexOf2_1 ha_ (fun a_hs5_ a_hs11_ a_r12_ a_hs16_ a_hr_ => ?_)
  refine xE_SP_SL_indexOf_1 a_hs16_ (fun b_r1_ b_hs5_ b_h4_ => ⟨(fun b_h6_ b_z7_ b_h8_ b_z9_ b_h10_ => ⟨(fun b_h11_ b_r12_ b_hs16_ b_hr_ => ?_), (fun b_h11_ b_hr_ => ?_)⟩), (fun b_h6_ b_hr_ => ?_)⟩)
  · refine xE_SP_SL_indexOfChar_1 b_hs16_ (fun c_z1_ c_h2_ c_v5_7 c_hv0_7 c_hL_7 => ⟨(fun c_h4_ c_hr_ => ?_), (fun c_h4_ c_z5_j c_z5_k c_z5_ c_z5_h c_h6_ c_hr_ => ?_)⟩)
    all_goals
      have g := rind c_hL_7 (fun t => 0 ≤ t.toInt ∧ t.toInt ≤ 4 ∧ ∀ j : Nat, (j : Int) < t.toInt → ¬ (nmL 0 j).toInt = x.toInt) ⟨by omega, by omega, fun j hj => by omega⟩ (fun s t p st => by
        (try dsimp only at p st ⊢)
        obtain ⟨p1, p2, p3⟩ := p
        refine xE_ST_SL_indexOfChar_1_7 st (fun k_hv0_7 k_h4_ k_z5_j k_z5_k k_z5_ k_z5_h k_h6_ k_z7_ k_h8_ k_hq_v5_7y => ?_)
        rw [c_h2_, b8 hx] at k_h6_
        have ey := eT k_hq_v5_7y
        refine ⟨by omega, by omega, fun j hj => ?_⟩
        by_cases e : (j : Int) = s.toInt
        · obtain rfl : j = k_z5_j := by omega
          rw [k_z5_h] at k_h6_
          exact k_h6_
        · exact p3 j (by omega))
      (try dsimp only at g)
      obtain ⟨g1, g2, g3⟩ := g
      have er := eT c_hr_
      have eb := eT b_hr_
      have ea := eT a_hr_
      have e0 := eT hra_
    · exact Or.inr ⟨by omega, fun j hj => g3 j (by omega)⟩
    · left
      refine ⟨by omega, by omega, ?_⟩
      rw [c_h2_, b8 hx, c_z5_h] at c_h6_
      rw [show z.toInt.toNat = c_z5_j by omega]
      exact c_h6_
  · omega
  · refine xE_SP_SL_canEncode_0 b_hs5_ ⟨(fun d_h1_ d_hr_ => ?_), (fun d_h1_ => ⟨(fun d_h2_ d_hr_ => ?_), (fun d_h2_ d_hr_ => ?_)⟩)⟩
    · omega
    · omega
    · have := eT d_hr_
      have := il_1
      omega
theorem chx4 {v z : Int32} {M : mM} (h : CHX 4 v z M) (hv : 0 ≤ v.toInt ∧ v.toInt < 4) : z = nmL 0 v.toInt.toNat := by
  have h : SP_S_charAt_4 v M z := h
  refine xE_SP_S_charAt_4 h (fun hs5_ r7_ hs11_ h10_ hr_ => ?_)
  refine xE_SP_SL_charAt_4 hs11_ (fun k_z1_j k_z1_k k_z1_ k_z1_h k_z2_ k_h4_ k_h3_ k_z5_ k_h6_ k_h7_ k_hr_ => ?_)
  obtain rfl : k_z1_j = v.toInt.toNat := by omega
  have hj : v.toInt.toNat < 4 := by omega
  rw [hr_, k_hr_, k_h6_, k_h4_, k_z1_h]
  exact (show ∀ j : Nat, j < 4 → ((([108, 111, 121, 112] : List Int32).getD j 0 &&& (255 : Int32)).toUInt32 % 65536).toInt32 = nmL 0 j by decide +kernel) _ hj
theorem ixo1 {x z : Int32} {M : mM} (h : IXO 2 x z M) (hx : 0 ≤ x.toInt ∧ x.toInt ≤ 127) : NLq 1 3 x z := by
  have im := il_m1
  have q0 := il_0
  have qn : (3 : Int32).toInt = 3 := by decide
  have h : SP_S_indexOf_2 x M z := h
  refine xE_SP_S_indexOf_2 h (fun r1_ hs5_ hr_ => ?_)
  have ha_ := hs5_
  have hra_ := hr_
  refine xE_SP_S_indexOf2_2 ha_ (fun a_hs5_ a_hs11_ a_r12_ a_hs16_ a_hr_ => ?_)
  refine xE_SP_SL_indexOf_2 a_hs16_ (fun b_r1_ b_hs5_ b_h4_ => ⟨(fun b_h6_ b_z7_ b_h8_ b_z9_ b_h10_ => ⟨(fun b_h11_ b_r12_ b_hs16_ b_hr_ => ?_), (fun b_h11_ b_hr_ => ?_)⟩), (fun b_h6_ b_hr_ => ?_)⟩)
  · refine xE_SP_SL_indexOfChar_2 b_hs16_ (fun c_z1_ c_h2_ c_v5_7 c_hv0_7 c_hL_7 => ⟨(fun c_h4_ c_hr_ => ?_), (fun c_h4_ c_z5_j c_z5_k c_z5_ c_z5_h c_h6_ c_hr_ => ?_)⟩)
    all_goals
      have g := rind c_hL_7 (fun t => 0 ≤ t.toInt ∧ t.toInt ≤ 3 ∧ ∀ j : Nat, (j : Int) < t.toInt → ¬ (nmL 1 j).toInt = x.toInt) ⟨by omega, by omega, fun j hj => by omega⟩ (fun s t p st => by
        (try dsimp only at p st ⊢)
        obtain ⟨p1, p2, p3⟩ := p
        refine xE_ST_SL_indexOfChar_2_7 st (fun k_hv0_7 k_h4_ k_z5_j k_z5_k k_z5_ k_z5_h k_h6_ k_z7_ k_h8_ k_hq_v5_7y => ?_)
        rw [c_h2_, b8 hx] at k_h6_
        have ey := eT k_hq_v5_7y
        refine ⟨by omega, by omega, fun j hj => ?_⟩
        by_cases e : (j : Int) = s.toInt
        · obtain rfl : j = k_z5_j := by omega
          rw [k_z5_h] at k_h6_
          exact k_h6_
        · exact p3 j (by omega))
      (try dsimp only at g)
      obtain ⟨g1, g2, g3⟩ := g
      have er := eT c_hr_
      have eb := eT b_hr_
      have ea := eT a_hr_
      have e0 := eT hra_
    · exact Or.inr ⟨by omega, fun j hj => g3 j (by omega)⟩
    · left
      refine ⟨by omega, by omega, ?_⟩
      rw [c_h2_, b8 hx, c_z5_h] at c_h6_
      rw [show z.toInt.toNat = c_z5_j by omega]
      exact c_h6_
  · omega
  · refine xE_SP_SL_canEncode_0 b_hs5_ ⟨(fun d_h1_ d_hr_ => ?_), (fun d_h1_ => ⟨(fun d_h2_ d_hr_ => ?_), (fun d_h2_ d_hr_ => ?_)⟩)⟩
    · omega
    · omega
    · have := eT d_hr_
      have := il_1
      omega
theorem chx5 {v z : Int32} {M : mM} (h : CHX 5 v z M) (hv : 0 ≤ v.toInt ∧ v.toInt < 3) : z = nmL 1 v.toInt.toNat := by
  have h : SP_S_charAt_5 v M z := h
  refine xE_SP_S_charAt_5 h (fun hs5_ r7_ hs11_ h10_ hr_ => ?_)
  refine xE_SP_SL_charAt_5 hs11_ (fun k_z1_j k_z1_k k_z1_ k_z1_h k_z2_ k_h4_ k_h3_ k_z5_ k_h6_ k_h7_ k_hr_ => ?_)
  obtain rfl : k_z1_j = v.toInt.toNat := by omega
  have hj : v.toInt.toNat < 3 := by omega
  rw [hr_, k_hr_, k_h6_, k_h4_, k_z1_h]
  exact (show ∀ j : Nat, j < 3 → ((([115, 110, 116] : List Int32).getD j 0 &&& (255 : Int32)).toUInt32 % 65536).toInt32 = nmL 1 j by decide +kernel) _ hj
theorem ixo2 {x z : Int32} {M : mM} (h : IXO 3 x z M) (hx : 0 ≤ x.toInt ∧ x.toInt ≤ 127) : NLq 2 5 x z := by
  have im := il_m1
  have q0 := il_0
  have qn : (5 : Int32).toInt = 5 := by decide
  have h : SP_S_indexOf_3 x M z := h
  refine xE_SP_S_indexOf_3 h (fun r1_ hs5_ hr_ => ?_)
  have ha_ := hs5_
  have hra_ := hr_
  refine xE_SP_S_indexOf2_3 ha_ (fun a_hs5_ a_hs11_ a_r12_ a_hs16_ a_hr_ => ?_)
  refine xE_SP_SL_indexOf_3 a_hs16_ (fun b_r1_ b_hs5_ b_h4_ => ⟨(fun b_h6_ b_z7_ b_h8_ b_z9_ b_h10_ => ⟨(fun b_h11_ b_r12_ b_hs16_ b_hr_ => ?_), (fun b_h11_ b_hr_ => ?_)⟩), (fun b_h6_ b_hr_ => ?_)⟩)
  · refine xE_SP_SL_indexOfChar_3 b_hs16_ (fun c_z1_ c_h2_ c_v5_7 c_hv0_7 c_hL_7 => ⟨(fun c_h4_ c_hr_ => ?_), (fun c_h4_ c_z5_j c_z5_k c_z5_ c_z5_h c_h6_ c_hr_ => ?_)⟩)
    all_goals
      have g := rind c_hL_7 (fun t => 0 ≤ t.toInt ∧ t.toInt ≤ 5 ∧ ∀ j : Nat, (j : Int) < t.toInt → ¬ (nmL 2 j).toInt = x.toInt) ⟨by omega, by omega, fun j hj => by omega⟩ (fun s t p st => by
        (try dsimp only at p st ⊢)
        obtain ⟨p1, p2, p3⟩ := p
        refine xE_ST_SL_indexOfChar_3_7 st (fun k_hv0_7 k_h4_ k_z5_j k_z5_k k_z5_ k_z5_h k_h6_ k_z7_ k_h8_ k_hq_v5_7y => ?_)
        rw [c_h2_, b8 hx] at k_h6_
        have ey := eT k_hq_v5_7y
        refine ⟨by omega, by omega, fun j hj => ?_⟩
        by_cases e : (j : Int) = s.toInt
        · obtain rfl : j = k_z5_j := by omega
          rw [k_z5_h] at k_h6_
          exact k_h6_
        · exact p3 j (by omega))
      (try dsimp only at g)
      obtain ⟨g1, g2, g3⟩ := g
      have er := eT c_hr_
      have eb := eT b_hr_
      have ea := eT a_hr_
      have e0 := eT hra_
    · exact Or.inr ⟨by omega, fun j hj => g3 j (by omega)⟩
    · left
      refine ⟨by omega, by omega, ?_⟩
      rw [c_h2_, b8 hx, c_z5_h] at c_h6_
      rw [show z.toInt.toNat = c_z5_j by omega]
      exact c_h6_
  · omega
  · refine xE_SP_SL_canEncode_0 b_hs5_ ⟨(fun d_h1_ d_hr_ => ?_), (fun d_h1_ => ⟨(fun d_h2_ d_hr_ => ?_), (fun d_h2_ d_hr_ => ?_)⟩)⟩
    · omega
    · omega
    · have := eT d_hr_
      have := il_1
      omega
theorem chx6 {v z : Int32} {M : mM} (h : CHX 6 v z M) (hv : 0 ≤ v.toInt ∧ v.toInt < 5) : z = nmL 2 v.toInt.toNat := by
  have h : SP_S_charAt_6 v M z := h
  refine xE_SP_S_charAt_6 h (fun hs5_ r7_ hs11_ h10_ hr_ => ?_)
  refine xE_SP_SL_charAt_6 hs11_ (fun k_z1_j k_z1_k k_z1_ k_z1_h k_z2_ k_h4_ k_h3_ k_z5_ k_h6_ k_h7_ k_hr_ => ?_)
  obtain rfl : k_z1_j = v.toInt.toNat := by omega
  have hj : v.toInt.toNat < 5 := by omega
  rw [hr_, k_hr_, k_h6_, k_h4_, k_z1_h]
  exact (show ∀ j : Nat, j < 5 → ((([102, 108, 114, 98, 116] : List Int32).getD j 0 &&& (255 : Int32)).toUInt32 % 65536).toInt32 = nmL 2 j by decide +kernel) _ hj
theorem x12name {v r : Int32} {D : mM} (h : SP_X12_nameOf v D r) (hu : 0 ≤ (D.1 (12, 0, 0) 10).toInt ∧ (D.1 (12, 0, 0) 10).toInt ≤ 2) : NLq (D.1 (12, 0, 0) 10).toInt.toNat (nnU (D.1 (12, 0, 0) 10).toInt.toNat) v r := by
  have im := il_m1
  have q0 := il_0
  refine xE_SP_X12_nameOf h ⟨(fun h1_ v3_4 hv0_4 v2_4 hv1_4 hv2_4 hL_4 z3_ e4_ h5_ h6_ h7_ hr_ => ?_), (fun h1_ v3_4 hv0_4 v2_4 hv1_4 hv2_4 hL_4 z17_ e18_ h19_ h20_ h21_ hr_ => ?_), (fun h1_ v3_4 hv0_4 v2_4 hv1_4 hv2_4 hL_4 z31_ e32_ h33_ h34_ h35_ hr_ => ?_)⟩
  · have g := rind hL_4 (fun t => 0 ≤ t.1.toInt ∧ t.1.toInt ≤ 4 ∧ ((0 ≤ t.2.toInt ∧ t.2.toInt < t.1.toInt ∧ (nmL 0 t.2.toInt.toNat).toInt = v.toInt) ∨ (t.2.toInt = -1 ∧ ∀ j : Nat, (j : Int) < t.1.toInt → ¬ (nmL 0 j).toInt = v.toInt))) ⟨by dsimp only; omega, by dsimp only; omega, Or.inr ⟨im, fun j hj => by dsimp only at hj; omega⟩⟩ (fun s t p st => by
      (try dsimp only at p st ⊢)
      obtain ⟨p1, p2, p3⟩ := p
      refine xE_ST_X12_nameOf_4 st (fun k_hv0_4 k_hv1_4 k_hv2_4 k_z3_ k_e4_ k_h5_ k_h6_ k_h7_ k_z10_ k_z10_h => ⟨(fun k_h11_ k_z12_ k_h13_ k_hq_v3_4y k_hq_v2_4y => ?_), (fun k_h11_ k_z14_ k_h15_ k_hq_v3_4y k_hq_v2_4y => ?_)⟩)
      · have cx := chx4 k_z10_h ⟨p1, k_h7_⟩
        have e1 := eT k_hq_v3_4y
        have e2 := eT k_hq_v2_4y
        rw [cx] at k_h11_
        refine ⟨by omega, by omega, ?_⟩
        rcases p3 with p3 | p3
        · left
          rw [k_hq_v2_4y]
          exact ⟨p3.1, by omega, p3.2.2⟩
        · right
          refine ⟨by omega, fun j hj => ?_⟩
          by_cases e : (j : Int) = s.1.toInt
          · rw [show j = s.1.toInt.toNat by omega]; exact k_h11_
          · exact p3.2 j (by omega)
      · have cx := chx4 k_z10_h ⟨p1, k_h7_⟩
        have e1 := eT k_hq_v3_4y
        have e2 := eT k_hq_v2_4y
        rw [cx] at k_h11_
        refine ⟨by omega, by omega, Or.inl ⟨by omega, by omega, ?_⟩⟩
        rw [k_hq_v2_4y]
        exact k_h11_)
    (try dsimp only at g)
    obtain ⟨g1, g2, g3⟩ := g
    have eu : (D.1 (12, 0, 0) 10).toInt.toNat = 0 := by omega
    rw [eu, show nnU 0 = 4 by decide]
    unfold NLq
    rw [hr_]
    rcases g3 with g3 | g3
    · exact Or.inl ⟨g3.1, by omega, g3.2.2⟩
    · exact Or.inr ⟨g3.1, fun j hj => g3.2 j (by omega)⟩
  · have g := rind hL_4 (fun t => 0 ≤ t.1.toInt ∧ t.1.toInt ≤ 3 ∧ ((0 ≤ t.2.toInt ∧ t.2.toInt < t.1.toInt ∧ (nmL 1 t.2.toInt.toNat).toInt = v.toInt) ∨ (t.2.toInt = -1 ∧ ∀ j : Nat, (j : Int) < t.1.toInt → ¬ (nmL 1 j).toInt = v.toInt))) ⟨by dsimp only; omega, by dsimp only; omega, Or.inr ⟨im, fun j hj => by dsimp only at hj; omega⟩⟩ (fun s t p st => by
      (try dsimp only at p st ⊢)
      obtain ⟨p1, p2, p3⟩ := p
      refine xE_ST_X12_nameOf_4b st (fun k_hv0_4 k_hv1_4 k_hv2_4 k_z17_ k_e18_ k_h19_ k_h20_ k_h21_ k_z24_ k_z24_h => ⟨(fun k_h25_ k_z26_ k_h27_ k_hq_v3_4y k_hq_v2_4y => ?_), (fun k_h25_ k_z28_ k_h29_ k_hq_v3_4y k_hq_v2_4y => ?_)⟩)
      · have cx := chx5 k_z24_h ⟨p1, k_h21_⟩
        have e1 := eT k_hq_v3_4y
        have e2 := eT k_hq_v2_4y
        rw [cx] at k_h25_
        refine ⟨by omega, by omega, ?_⟩
        rcases p3 with p3 | p3
        · left
          rw [k_hq_v2_4y]
          exact ⟨p3.1, by omega, p3.2.2⟩
        · right
          refine ⟨by omega, fun j hj => ?_⟩
          by_cases e : (j : Int) = s.1.toInt
          · rw [show j = s.1.toInt.toNat by omega]; exact k_h25_
          · exact p3.2 j (by omega)
      · have cx := chx5 k_z24_h ⟨p1, k_h21_⟩
        have e1 := eT k_hq_v3_4y
        have e2 := eT k_hq_v2_4y
        rw [cx] at k_h25_
        refine ⟨by omega, by omega, Or.inl ⟨by omega, by omega, ?_⟩⟩
        rw [k_hq_v2_4y]
        exact k_h25_)
    (try dsimp only at g)
    obtain ⟨g1, g2, g3⟩ := g
    have eu : (D.1 (12, 0, 0) 10).toInt.toNat = 1 := by omega
    rw [eu, show nnU 1 = 3 by decide]
    unfold NLq
    rw [hr_]
    rcases g3 with g3 | g3
    · exact Or.inl ⟨g3.1, by omega, g3.2.2⟩
    · exact Or.inr ⟨g3.1, fun j hj => g3.2 j (by omega)⟩
  · have g := rind hL_4 (fun t => 0 ≤ t.1.toInt ∧ t.1.toInt ≤ 5 ∧ ((0 ≤ t.2.toInt ∧ t.2.toInt < t.1.toInt ∧ (nmL 2 t.2.toInt.toNat).toInt = v.toInt) ∨ (t.2.toInt = -1 ∧ ∀ j : Nat, (j : Int) < t.1.toInt → ¬ (nmL 2 j).toInt = v.toInt))) ⟨by dsimp only; omega, by dsimp only; omega, Or.inr ⟨im, fun j hj => by dsimp only at hj; omega⟩⟩ (fun s t p st => by
      (try dsimp only at p st ⊢)
      obtain ⟨p1, p2, p3⟩ := p
      refine xE_ST_X12_nameOf_4c st (fun k_hv0_4 k_hv1_4 k_hv2_4 k_z31_ k_e32_ k_h33_ k_h34_ k_h35_ k_z38_ k_z38_h => ⟨(fun k_h39_ k_z40_ k_h41_ k_hq_v3_4y k_hq_v2_4y => ?_), (fun k_h39_ k_z42_ k_h43_ k_hq_v3_4y k_hq_v2_4y => ?_)⟩)
      · have cx := chx6 k_z38_h ⟨p1, k_h35_⟩
        have e1 := eT k_hq_v3_4y
        have e2 := eT k_hq_v2_4y
        rw [cx] at k_h39_
        refine ⟨by omega, by omega, ?_⟩
        rcases p3 with p3 | p3
        · left
          rw [k_hq_v2_4y]
          exact ⟨p3.1, by omega, p3.2.2⟩
        · right
          refine ⟨by omega, fun j hj => ?_⟩
          by_cases e : (j : Int) = s.1.toInt
          · rw [show j = s.1.toInt.toNat by omega]; exact k_h39_
          · exact p3.2 j (by omega)
      · have cx := chx6 k_z38_h ⟨p1, k_h35_⟩
        have e1 := eT k_hq_v3_4y
        have e2 := eT k_hq_v2_4y
        rw [cx] at k_h39_
        refine ⟨by omega, by omega, Or.inl ⟨by omega, by omega, ?_⟩⟩
        rw [k_hq_v2_4y]
        exact k_h39_)
    (try dsimp only at g)
    obtain ⟨g1, g2, g3⟩ := g
    have eu : (D.1 (12, 0, 0) 10).toInt.toNat = 2 := by omega
    rw [eu, show nnU 2 = 5 by decide]
    unfold NLq
    rw [hr_]
    rcases g3 with g3 | g3
    · exact Or.inl ⟨g3.1, by omega, g3.2.2⟩
    · exact Or.inr ⟨g3.1, fun j hj => g3.2 j (by omega)⟩
/-- a code more, at a new place -/
theorem POK_mk {e p : Int} {C C2 D D2 : mM} {v w : Int32} (h : POK e C D) (hp : (D.1 (12, 0, 0) 9).toInt + 1 ≤ p ∧ p ≤ (D.1 (50, 0, 0) 4).toInt)
    (c1 : (C2.1 (4, 0, 0) 3).toInt = p ∧ C2.1 (4, 0, 0) 6 = C.1 (4, 0, 0) 6 + (1 : Int32) ∧ C2.1 (4, 0, 0) 4 = C.1 (4, 0, 0) 4 ∧ C2.1 (4, 0, 0) 5 = C.1 (4, 0, 0) 5 ∧ (C2.1 (1, 3, 0) 2).toInt = (C.1 (1, 3, 0) 2).toInt + 1 ∧ C2.1 (24, 3, 0) = upd (C.1 (24, 3, 0)) (C.1 (1, 3, 0) 2).toInt.toNat v)
    (d1 : (D2.1 (12, 0, 0) 9).toInt = p ∧ D2.1 (12, 0, 0) 12 = D.1 (12, 0, 0) 12 + (1 : Int32) ∧ (D2.1 (12, 0, 0) 13).toInt = 0 ∧ D2.1 (12, 0, 0) 11 = D.1 (12, 0, 0) 11 ∧ D2.1 (12, 0, 0) 10 = D.1 (12, 0, 0) 10 ∧ (D2.1 (12, 0, 0) 14).toInt = (D.1 (12, 0, 0) 14).toInt + 1 ∧ D2.1 (57, 0, 0) = upd (D.1 (57, 0, 0)) (D.1 (12, 0, 0) 14).toInt.toNat w ∧ D2.1 (50, 0, 0) 4 = D.1 (50, 0, 0) 4)
    (hv : v.toInt = cmI w.toInt) (hw : cOK (nnU (D.1 (12, 0, 0) 10).toInt.toNat) w) (h48 : (D.1 (12, 0, 0) 14).toInt < 48) : POK e C2 D2 := by
  obtain ⟨h1, h2, h3, h4, h5, h6, h7, h8, h9, h10⟩ := h
  obtain ⟨c1, c2, c3, c4, c5, c6⟩ := c1
  obtain ⟨d1, d2, d3, d4, d5, d6, d7, d8⟩ := d1
  unfold POK
  have e12 := addI (x := D.1 (12, 0, 0) 12) rfl il_1 (by omega) (by omega)
  rw [c3, c2, c4, d2, d4, d5, d8, h5.1]
  refine ⟨h1, d3, by omega, by omega, ⟨rfl, by omega, by omega⟩, by omega, by omega, by omega, h9, fun i hi => ?_⟩
  rw [c6, d7, h6]
  by_cases z : i = (D.1 (12, 0, 0) 14).toInt.toNat
  · rw [updE z, updE z]; exact ⟨hv, hw⟩
  · rw [updN z, updN z]; exact h10 i (by omega)
theorem cmI_lo {c : Int} (h : c < 2000) : cmI c = c := by
  unfold cmI
  rw [if_neg (by omega), if_neg (by omega), if_neg (by omega), if_neg (by omega), if_neg (by omega), if_neg (by omega), if_neg (by omega), if_neg (by omega), if_neg (by omega), if_neg (by omega)]
/-- the two readers of a number -/
def NUc (C : mM) (x y : Int32 × Int32 × mM) : Prop := ST_X4_readNumber_4 C x.1 x.2.1 x.2.2 y.1 y.2.1 y.2.2
def NUd (s : Int) (W : Nat) (a T : Int) (D : mM) (x y : Int32 × Int32 × mM) : Prop := ST_X12_one_46 s W a T D x.1 x.2.1 x.2.2 y.1 y.2.1 y.2.2
def NUR (C D : mM) (x y : Int32 × Int32 × mM) : Prop := x.1.toInt = y.1.toInt ∧ (0 ≤ y.1.toInt ∧ y.1.toInt ≤ 3) ∧ x.2.1.toInt = y.2.1.toInt ∧ ((y.1.toInt = 0 ∧ y.2.1.toInt = 0) ∨ (y.1.toInt = 1 ∧ 0 ≤ y.2.1.toInt ∧ y.2.1.toInt ≤ 9) ∨ (y.1.toInt = 2 ∧ 0 ≤ y.2.1.toInt ∧ y.2.1.toInt ≤ 99) ∨ (y.1.toInt = 3 ∧ 0 ≤ y.2.1.toInt ∧ y.2.1.toInt ≤ 999)) ∧ (x.2.2.1 (4, 0, 0) 3).toInt = (D.1 (12, 0, 0) 9).toInt + y.1.toInt ∧ (y.2.2.1 (12, 0, 0) 9).toInt = (D.1 (12, 0, 0) 9).toInt + y.1.toInt ∧ (y.2.2.1 (12, 0, 0) 9).toInt ≤ (D.1 (50, 0, 0) 4).toInt ∧ (∀ (c : rf) (k : Nat), ¬ (c = (4, 0, 0) ∧ k = 3) → x.2.2.1 c k = C.1 c k) ∧ (∀ (c : rf) (k : Nat), ¬ (c = (12, 0, 0) ∧ k = 9) → y.2.2.1 c k = D.1 c k)
/-- the digit that both read -/
theorem digC {C D x : mM} {v r z : Int32} (hT : TPE C D) (hx : ∀ (c : rf) (k : Nat), ¬ (c = (4, 0, 0) ∧ k = 3) → x.1 c k = C.1 c k) (h : SP_X5_get 0 0 v x r) (hv : 0 ≤ v.toInt ∧ v.toInt < (D.1 (50, 0, 0) 4).toInt) (hz : z = r - (48 : Int32)) : z.toInt = (D.1 (50, 0, 0) (273 + v.toInt.toNat)).toInt - 48 := by
  have q48 : (48 : Int32).toInt = 48 := by decide
  have hc := eT hT.1
  have g := x5get h (by rw [hx _ _ (by simp)]; omega) (by rw [hx _ _ (by simp)]; have := hT.2.1; omega)
  have cell := hT.2.2.1 v.toInt.toNat (by omega)
  rw [hx _ _ (by simp), cell.1] at g
  rw [hz, g, subI (x := D.1 (50, 0, 0) (273 + v.toInt.toNat)) rfl q48 (by omega) (by omega)]
theorem num_lock {C D : mM} {s : Int} {W : Nat} {a T : Int} {z w : Int32 × Int32 × mM} (hT : TPE C D) (h0 : (C.1 (4, 0, 0) 3).toInt = (D.1 (12, 0, 0) 9).toInt ∧ 0 ≤ (D.1 (12, 0, 0) 9).toInt ∧ (D.1 (12, 0, 0) 9).toInt ≤ (D.1 (50, 0, 0) 4).toInt) {C0 D0 : mM}
    (hc : RCH (NUc C0) ((0 : Int32), (0 : Int32), C) z) (hd : RCH (NUd s W a T D0) ((0 : Int32), (0 : Int32), D) w)
    (fc : 3 ≤ z.1.toInt ∨ (z.1.toInt < 3 ∧ ((z.2.2.1 (5, 0, 0) 1).toInt ≤ (z.2.2.1 (4, 0, 0) 3).toInt ∨ ((z.2.2.1 (4, 0, 0) 3).toInt < (z.2.2.1 (5, 0, 0) 1).toInt ∧ ∃ r y : Int32, SP_X5_get 0 0 (z.2.2.1 (4, 0, 0) 3) z.2.2 r ∧ y = r - (48 : Int32) ∧ (y.toInt < 0 ∨ 9 < y.toInt)))))
    (fd : 3 ≤ w.1.toInt ∨ (w.1.toInt < 3 ∧ ((w.2.2.1 (50, 0, 0) 4).toInt ≤ (w.2.2.1 (12, 0, 0) 9).toInt ∨ ((w.2.2.1 (12, 0, 0) 9).toInt < (w.2.2.1 (50, 0, 0) 4).toInt ∧ ¬ (48 ≤ (w.2.2.1 (50, 0, 0) (273 + (w.2.2.1 (12, 0, 0) 9).toInt.toNat)).toInt ∧ (w.2.2.1 (50, 0, 0) (273 + (w.2.2.1 (12, 0, 0) 9).toInt.toNat)).toInt ≤ 57))))) : NUR C D z w := by
  have q0 := il_0
  have q10 : (10 : Int32).toInt = 10 := by decide
  have hN := eT hT.1
  refine lockE (NUR C D) hc hd ⟨rfl, by (try dsimp only); omega, rfl, Or.inl ⟨q0, q0⟩, by dsimp only; omega, by dsimp only; omega, by dsimp only; omega, fun _ _ _ => rfl, fun _ _ _ => rfl⟩ ?_ ?_ ?_
  · intro x z y w r st tt
    obtain ⟨r1, r2, r3, r4, r5, r6, r7, r8, r9⟩ := r
    unfold NUc at st
    unfold NUd at tt
    refine xE_ST_X4_readNumber_4 st (fun s_hv0_4 s_hv1_4 _ s_hF_4 s_h2_ s_z20_ s_e21_ s_z22_ s_e23_ s_h24_ s_r45_ s_hs49_ s_z50_ s_h51_ s_h52_ s_h70_ s_z71_ s_h72_ s_z73_ s_h74_ s_z77_ s_h78_ s_M79_ s_hM80_ s_z84_ s_h85_ s_hq_v2_4y s_hq_v1_4y s_hM_ => ?_)
    refine xE_ST_X12_one_46 tt (fun t_hv0_46 t_hv1_46 t_hv2_46 _ t_hF_46 t_h49_ t_z70_ t_e71_ t_h72_ t_z73_ t_e74_ t_h75_ t_h76_ t_z99_ t_h100_ t_j103_ t_h104_ t_z101_ t_e102_ t_hs109_ t_h108_ t_z111_ t_h112_ t_z115_ t_h116_ t_j119_ t_h120_ t_z117_ t_e118_ t_h121_ t_z122_ t_h123_ t_z124_ t_h125_ t_z128_ t_h129_ t_M130_ t_hM131_ t_h135_ t_z136_ t_h137_ t_hq_v3_46y t_hq_v2_46y t_hM_ => ?_)
    have w1 := eT s_e21_
    have w2 := eT s_e23_
    rw [r8 _ _ (by simp)] at w2
    have v1 := eT t_e71_
    have v2 := eT t_e74_
    rw [r9 _ _ (by simp)] at v2
    have dg := digC hT r8 s_hs49_ (by omega) s_h51_
    obtain rfl : t_j119_ = 273 + s_z20_.toInt.toNat := by omega
    have v3 := eT t_e118_
    rw [r9 _ _ (by simp)] at v3
    have m1 : s_z71_.toInt = 10 * x.2.1.toInt := by rw [s_h72_, mulI q10 rfl (by omega) (by omega)]
    have m2 : s_z73_.toInt = 10 * x.2.1.toInt + s_z50_.toInt := by rw [s_h74_, addI m1 rfl (by omega) (by omega)]
    have k1 := eT s_hq_v2_4y
    have k2 := eT s_hq_v1_4y
    have k3 := eT t_hq_v3_46y
    have k4 := eT t_hq_v2_46y
    refine ⟨by omega, by omega, by omega, by omega, ?_, ?_, ?_, fun c k q => ?_, fun c k q => ?_⟩
    · rw [s_hM_, zupE s_hM80_ rfl rfl]; omega
    · rw [t_hM_, zupE t_hM131_ rfl rfl]; omega
    · rw [t_hM_, zupE t_hM131_ rfl rfl]; omega
    · rw [s_hM_, zupN s_hM80_ q]; exact r8 c k q
    · rw [t_hM_, zupN t_hM131_ q]; exact r9 c k q
  · intro y y' r tt
    obtain ⟨r1, r2, r3, r4, r5, r6, r7, r8, r9⟩ := r
    unfold NUd at tt
    refine xE_ST_X12_one_46 tt (fun t_hv0_46 t_hv1_46 t_hv2_46 _ t_hF_46 t_h49_ t_z70_ t_e71_ t_h72_ t_z73_ t_e74_ t_h75_ t_h76_ t_z99_ t_h100_ t_j103_ t_h104_ t_z101_ t_e102_ t_hs109_ t_h108_ t_z111_ t_h112_ t_z115_ t_h116_ t_j119_ t_h120_ t_z117_ t_e118_ t_h121_ t_z122_ t_h123_ t_z124_ t_h125_ t_z128_ t_h129_ t_M130_ t_hM131_ t_h135_ t_z136_ t_h137_ t_hq_v3_46y t_hq_v2_46y t_hM_ => ?_)
    have v1 := eT t_e71_
    have v2 := eT t_e74_
    have v3 := eT t_e102_
    rw [r9 _ _ (by simp)] at v2 v3
    rcases fc with f | ⟨f, f2 | ⟨f2, rr, yy, f3, f4, f5⟩⟩
    · omega
    · rw [r8 (5, 0, 0) 1 (by simp)] at f2; omega
    · rw [r8 (5, 0, 0) 1 (by simp)] at f2
      have dg := digC hT r8 f3 (by omega) f4
      rw [show t_j103_ = 273 + (z.2.2.1 (4, 0, 0) 3).toInt.toNat by omega] at v3
      omega
  · intro x x' r st
    obtain ⟨r1, r2, r3, r4, r5, r6, r7, r8, r9⟩ := r
    unfold NUc at st
    refine xE_ST_X4_readNumber_4 st (fun s_hv0_4 s_hv1_4 _ s_hF_4 s_h2_ s_z20_ s_e21_ s_z22_ s_e23_ s_h24_ s_r45_ s_hs49_ s_z50_ s_h51_ s_h52_ s_h70_ s_z71_ s_h72_ s_z73_ s_h74_ s_z77_ s_h78_ s_M79_ s_hM80_ s_z84_ s_h85_ s_hq_v2_4y s_hq_v1_4y s_hM_ => ?_)
    have w1 := eT s_e21_
    have w2 := eT s_e23_
    rw [r8 _ _ (by simp)] at w2
    have dg := digC hT r8 s_hs49_ (by omega) s_h51_
    rcases fd with f | ⟨f, f2 | ⟨f2, f3⟩⟩
    · omega
    · rw [r9 (50, 0, 0) 4 (by simp)] at f2; omega
    · rw [r9 (50, 0, 0) 4 (by simp)] at f2
      rw [r9 (50, 0, 0) _ (by simp), show (w.2.2.1 (12, 0, 0) 9).toInt.toNat = s_z20_.toInt.toNat by omega] at f3
      omega
end
