/-! signs as the model reads them -/
def TK (k b : Int32) (D D2 : mM) : Prop := ∃ (s : Int) (W : Nat) (a T : Int), SP_X12_takes k s W a T D b D2
def RAW2 (k1 k2 v1 v2 : Int32) (D : mM) (v : Int32) (D2 : mM) : Prop := (TK k1 1 D D2 ∧ v = v1) ∨ ∃ Da, TK k1 0 D Da ∧ ((TK k2 1 Da D2 ∧ v = v2) ∨ (TK k2 0 Da D2 ∧ v = 0))
def RAW3 (k1 k2 k3 v1 v2 v3 : Int32) (D : mM) (v : Int32) (D2 : mM) : Prop := (TK k1 1 D D2 ∧ v = v1) ∨ ∃ Da, TK k1 0 D Da ∧ ((TK k2 1 Da D2 ∧ v = v2) ∨ ∃ Db, TK k2 0 Da Db ∧ ((TK k3 1 Db D2 ∧ v = v3) ∨ (TK k3 0 Db D2 ∧ v = 0)))
theorem hP2 {g : Int → Int} {k1 k2 v1 v2 : Int32} (hk : 0 ≤ k1.toInt ∧ 0 ≤ k2.toInt) (h1 : ¬ g k1.toInt = 0 ∧ v1.toInt = g k1.toInt) (h2 : ¬ g k2.toInt = 0 ∧ v2.toInt = g k2.toInt) (h0 : ∀ c : Int, ¬ c = k1.toInt ∧ ¬ c = k2.toInt → g c = 0) (D : mM) (v : Int32) (D2 : mM) (hb : ATb D) (h : RAW2 k1 k2 v1 v2 D v D2) : OPQ g D v D2 := by
  rcases h with ⟨⟨s, W, a, T, t⟩, rfl⟩ | ⟨Da, ⟨s, W, a, T, t⟩, ⟨⟨s2, W2, a2, T2, t2⟩, rfl⟩ | ⟨⟨s2, W2, a2, T2, t2⟩, rfl⟩⟩
  · exact hit1 t hk.1 hb h1
  · exact hit2 (mis1 t hk.1 hb) t2 hk.2 hb h2
  · exact mis0 (mis2 (mis1 t hk.1 hb) t2 hk.2 hb) (fun c q => h0 c q) il_0
theorem hP3 {g : Int → Int} {k1 k2 k3 v1 v2 v3 : Int32} (hk : 0 ≤ k1.toInt ∧ 0 ≤ k2.toInt ∧ 0 ≤ k3.toInt) (h1 : ¬ g k1.toInt = 0 ∧ v1.toInt = g k1.toInt) (h2 : ¬ g k2.toInt = 0 ∧ v2.toInt = g k2.toInt) (h3 : ¬ g k3.toInt = 0 ∧ v3.toInt = g k3.toInt) (h0 : ∀ c : Int, (¬ c = k1.toInt ∧ ¬ c = k2.toInt) ∧ ¬ c = k3.toInt → g c = 0) (D : mM) (v : Int32) (D2 : mM) (hb : ATb D) (h : RAW3 k1 k2 k3 v1 v2 v3 D v D2) : OPQ g D v D2 := by
  rcases h with ⟨⟨s, W, a, T, t⟩, rfl⟩ | ⟨Da, ⟨s, W, a, T, t⟩, ⟨⟨s2, W2, a2, T2, t2⟩, rfl⟩ | ⟨Db, ⟨s2, W2, a2, T2, t2⟩, ⟨⟨s3, W3, a3, T3, t3⟩, rfl⟩ | ⟨⟨s3, W3, a3, T3, t3⟩, rfl⟩⟩⟩
  · exact hit1 t hk.1 hb h1
  · exact hit2 (mis1 t hk.1 hb) t2 hk.2.1 hb h2
  · exact hit2 (mis2 (mis1 t hk.1 hb) t2 hk.2.1 hb) t3 hk.2.2 hb h3
  · exact mis0 (mis2 (mis2 (mis1 t hk.1 hb) t2 hk.2.1 hb) t3 hk.2.2 hb) (fun c q => h0 c q) il_0
/-! term -/
theorem i_term : (42 : Int32).toInt = 42 ∧ (47 : Int32).toInt = 47 ∧ (37 : Int32).toInt = 37 ∧ (2005 : Int32).toInt = 2005 ∧ (2006 : Int32).toInt = 2006 ∧ (2007 : Int32).toInt = 2007 := by decide
theorem hP_term (D : mM) (v : Int32) (D2 : mM) (hb : ATb D) (h : RAW3 42 47 37 2005 2006 2007 D v D2) : OPQ opT D v D2 := by
  refine hP3 (by first | decide | simp | (dsimp only; omega)) (by first | decide | simp | (dsimp only; omega)) (by first | decide | simp | (dsimp only; omega)) (by first | decide | simp | (dsimp only; omega)) (fun c q => ?_) D v D2 hb h
  have i := i_term
  unfold opT
  rw [if_neg (by omega), if_neg (by omega), if_neg (by omega)]
theorem st_readTerm {N m : Nat} {QA QB : mM → mM → Prop} {Mz : mM} {x y : Int32 × mM} (h : ST_X4_readTerm_6 N m QA QB Mz x.1 x.2 y.1 y.2) : LCs opT (SP_X4_readOne N m QA QB) x y := by
  refine xE_ST_X4_readTerm_6 h (fun hv0_6 hv1_6 _ hF_6 h11_ z12_ e13_ h14_ M16_ _ hF20_ r15_ hs22_ => ⟨(fun h26_ z27_ e28_ z29_ h30_ M31_ hM32_ _ M38_ _ hF42_ hs44_ h40_ z47_ h48_ M49_ _ hF53_ hs55_ z59_ h60_ hq_v1_6y hM_ => ?_), (fun h26_ => ⟨(fun h61_ z62_ e63_ z64_ h65_ M66_ hM67_ _ M73_ _ hF77_ hs79_ h75_ z82_ h83_ M84_ _ hF88_ hs90_ z94_ h95_ hq_v1_6y hM_ => ?_), (fun h61_ h96_ z97_ e98_ z99_ h100_ M101_ hM102_ _ M108_ _ hF112_ hs114_ h110_ z117_ h118_ M119_ _ hF123_ hs125_ z129_ h130_ hq_v1_6y hM_ => ?_)⟩)⟩)
  · exact ⟨h11_, by rw [← e13_]; exact h14_, r15_, z47_, z29_, M16_, M31_, M38_, hs22_, (show ¬ opT r15_.toInt = 0 by unfold opT; rw [if_pos h26_]; decide), by rw [h30_, e28_], hM32_, hF42_, hs44_, h48_, by rw [hM_]; exact hs55_, by rw [hq_v1_6y]; exact h60_⟩
  · exact ⟨h11_, by rw [← e13_]; exact h14_, r15_, z82_, z64_, M16_, M66_, M73_, hs22_, (show ¬ opT r15_.toInt = 0 by unfold opT; rw [if_neg h26_, if_pos h61_]; decide), by rw [h65_, e63_], hM67_, hF77_, hs79_, h83_, by rw [hM_]; exact hs90_, by rw [hq_v1_6y]; exact h95_⟩
  · exact ⟨h11_, by rw [← e13_]; exact h14_, r15_, z117_, z99_, M16_, M101_, M108_, hs22_, (show ¬ opT r15_.toInt = 0 by unfold opT; rw [if_neg h26_, if_neg h61_, if_pos h96_]; decide), by rw [h100_, e98_], hM102_, hF112_, hs114_, h118_, by rw [hM_]; exact hs125_, by rw [hq_v1_6y]; exact h130_⟩
theorem st_X12_term_51 {N2 m : Nat} {QA2 QB2 : mM → mM → Prop} {s : Int} {W : Nat} {T : Int} {Mz : mM} {x y : Int32 × mM} (h : ST_X12_term_51 N2 m QA2 QB2 s W T Mz x.1 x.2 y.1 y.2) : LDs (RAW3 42 47 37 2005 2006 2007) (fun D D2 : mM => ∃ (s : Int) (W : Nat) (a T : Int), SP_X12_one N2 m QA2 QB2 s W a T D D2) x y := by
  refine xE_ST_X12_term_51 h (fun hv0_51 _ hF_51 h23_ h24_ M27_ _ hF31_ hs33_ M36_ _ hF40_ hs42_ M45_ _ hF49_ => ⟨(fun hs51_ h53_ hq_v1_51y hM_ => ?_), (fun hs51_ M58_ _ hF62_ => ⟨(fun hs64_ h66_ hq_v1_51y hM_ => ?_), (fun hs64_ M71_ _ hF75_ => ⟨(fun hs77_ h79_ hq_v1_51y hM_ => ?_), (fun hs77_ h73_ hq_v1_51y hM_ => ?_)⟩)⟩)⟩)
  · exact ⟨h24_, M27_, M36_, _, _, _, _, _, hF31_, ⟨_, _, _, _, hs33_⟩, hs42_, Or.inl ⟨⟨_, _, _, _, by rw [hM_]; exact hs51_⟩, hq_v1_51y⟩⟩
  · exact ⟨h24_, M27_, M36_, _, _, _, _, _, hF31_, ⟨_, _, _, _, hs33_⟩, hs42_, Or.inr ⟨M45_, ⟨_, _, _, _, hs51_⟩, Or.inl ⟨⟨_, _, _, _, by rw [hM_]; exact hs64_⟩, hq_v1_51y⟩⟩⟩
  · exact ⟨h24_, M27_, M36_, _, _, _, _, _, hF31_, ⟨_, _, _, _, hs33_⟩, hs42_, Or.inr ⟨M45_, ⟨_, _, _, _, hs51_⟩, Or.inr ⟨M58_, ⟨_, _, _, _, hs64_⟩, Or.inl ⟨⟨_, _, _, _, by rw [hM_]; exact hs77_⟩, hq_v1_51y⟩⟩⟩⟩
  · exact ⟨h24_, M27_, M36_, _, _, _, _, _, hF31_, ⟨_, _, _, _, hs33_⟩, hs42_, Or.inr ⟨M45_, ⟨_, _, _, _, hs51_⟩, Or.inr ⟨M58_, ⟨_, _, _, _, hs64_⟩, Or.inr ⟨⟨_, _, _, _, by rw [hM_]; exact hs77_⟩, hq_v1_51y⟩⟩⟩⟩
theorem st_X12_term_51b {N2 m : Nat} {QA2 QB2 : mM → mM → Prop} {s : Int} {W : Nat} {T : Int} {Mz : mM} {x y : Int32 × mM} (h : ST_X12_term_51b N2 m QA2 QB2 s W T Mz x.1 x.2 y.1 y.2) : LDs (RAW3 42 47 37 2005 2006 2007) (fun D D2 : mM => ∃ (s : Int) (W : Nat) (a T : Int), SP_X12_one N2 m QA2 QB2 s W a T D D2) x y := by
  refine xE_ST_X12_term_51b h (fun hv0_51 _ hF_51 h97_ h98_ M101_ _ hF105_ hs107_ M110_ _ hF114_ hs116_ M119_ _ hF123_ => ⟨(fun hs125_ h127_ hq_v1_51y hM_ => ?_), (fun hs125_ M132_ _ hF136_ => ⟨(fun hs138_ h140_ hq_v1_51y hM_ => ?_), (fun hs138_ M145_ _ hF149_ => ⟨(fun hs151_ h153_ hq_v1_51y hM_ => ?_), (fun hs151_ h147_ hq_v1_51y hM_ => ?_)⟩)⟩)⟩)
  · exact ⟨h98_, M101_, M110_, _, _, _, _, _, hF105_, ⟨_, _, _, _, hs107_⟩, hs116_, Or.inl ⟨⟨_, _, _, _, by rw [hM_]; exact hs125_⟩, hq_v1_51y⟩⟩
  · exact ⟨h98_, M101_, M110_, _, _, _, _, _, hF105_, ⟨_, _, _, _, hs107_⟩, hs116_, Or.inr ⟨M119_, ⟨_, _, _, _, hs125_⟩, Or.inl ⟨⟨_, _, _, _, by rw [hM_]; exact hs138_⟩, hq_v1_51y⟩⟩⟩
  · exact ⟨h98_, M101_, M110_, _, _, _, _, _, hF105_, ⟨_, _, _, _, hs107_⟩, hs116_, Or.inr ⟨M119_, ⟨_, _, _, _, hs125_⟩, Or.inr ⟨M132_, ⟨_, _, _, _, hs138_⟩, Or.inl ⟨⟨_, _, _, _, by rw [hM_]; exact hs151_⟩, hq_v1_51y⟩⟩⟩⟩
  · exact ⟨h98_, M101_, M110_, _, _, _, _, _, hF105_, ⟨_, _, _, _, hs107_⟩, hs116_, Or.inr ⟨M119_, ⟨_, _, _, _, hs125_⟩, Or.inr ⟨M132_, ⟨_, _, _, _, hs138_⟩, Or.inr ⟨⟨_, _, _, _, by rw [hM_]; exact hs151_⟩, hq_v1_51y⟩⟩⟩⟩
theorem st_X12_term_51c {N2 m : Nat} {QA2 QB2 : mM → mM → Prop} {s : Int} {W : Nat} {T : Int} {Mz : mM} {x y : Int32 × mM} (h : ST_X12_term_51c N2 m QA2 QB2 s W T Mz x.1 x.2 y.1 y.2) : LDs (RAW3 42 47 37 2005 2006 2007) (fun D D2 : mM => ∃ (s : Int) (W : Nat) (a T : Int), SP_X12_one N2 m QA2 QB2 s W a T D D2) x y := by
  refine xE_ST_X12_term_51c h (fun hv0_51 _ hF_51 h171_ h172_ M175_ _ hF179_ hs181_ M184_ _ hF188_ hs190_ M193_ _ hF197_ => ⟨(fun hs199_ h201_ hq_v1_51y hM_ => ?_), (fun hs199_ M206_ _ hF210_ => ⟨(fun hs212_ h214_ hq_v1_51y hM_ => ?_), (fun hs212_ M219_ _ hF223_ => ⟨(fun hs225_ h227_ hq_v1_51y hM_ => ?_), (fun hs225_ h221_ hq_v1_51y hM_ => ?_)⟩)⟩)⟩)
  · exact ⟨h172_, M175_, M184_, _, _, _, _, _, hF179_, ⟨_, _, _, _, hs181_⟩, hs190_, Or.inl ⟨⟨_, _, _, _, by rw [hM_]; exact hs199_⟩, hq_v1_51y⟩⟩
  · exact ⟨h172_, M175_, M184_, _, _, _, _, _, hF179_, ⟨_, _, _, _, hs181_⟩, hs190_, Or.inr ⟨M193_, ⟨_, _, _, _, hs199_⟩, Or.inl ⟨⟨_, _, _, _, by rw [hM_]; exact hs212_⟩, hq_v1_51y⟩⟩⟩
  · exact ⟨h172_, M175_, M184_, _, _, _, _, _, hF179_, ⟨_, _, _, _, hs181_⟩, hs190_, Or.inr ⟨M193_, ⟨_, _, _, _, hs199_⟩, Or.inr ⟨M206_, ⟨_, _, _, _, hs212_⟩, Or.inl ⟨⟨_, _, _, _, by rw [hM_]; exact hs225_⟩, hq_v1_51y⟩⟩⟩⟩
  · exact ⟨h172_, M175_, M184_, _, _, _, _, _, hF179_, ⟨_, _, _, _, hs181_⟩, hs190_, Or.inr ⟨M193_, ⟨_, _, _, _, hs199_⟩, Or.inr ⟨M206_, ⟨_, _, _, _, hs212_⟩, Or.inr ⟨⟨_, _, _, _, by rw [hM_]; exact hs225_⟩, hq_v1_51y⟩⟩⟩⟩
theorem st_X12_term_51d {N2 m : Nat} {QA2 QB2 : mM → mM → Prop} {s : Int} {W : Nat} {T : Int} {Mz : mM} {x y : Int32 × mM} (h : ST_X12_term_51d N2 m QA2 QB2 s W T Mz x.1 x.2 y.1 y.2) : LDs (RAW3 42 47 37 2005 2006 2007) (fun D D2 : mM => ∃ (s : Int) (W : Nat) (a T : Int), SP_X12_one N2 m QA2 QB2 s W a T D D2) x y := by
  refine xE_ST_X12_term_51d h (fun hv0_51 _ hF_51 h233_ h234_ M237_ _ hF241_ hs243_ M246_ _ hF250_ hs252_ M255_ _ hF259_ => ⟨(fun hs261_ h263_ hq_v1_51y hM_ => ?_), (fun hs261_ M268_ _ hF272_ => ⟨(fun hs274_ h276_ hq_v1_51y hM_ => ?_), (fun hs274_ M281_ _ hF285_ => ⟨(fun hs287_ h289_ hq_v1_51y hM_ => ?_), (fun hs287_ h283_ hq_v1_51y hM_ => ?_)⟩)⟩)⟩)
  · exact ⟨h234_, M237_, M246_, _, _, _, _, _, hF241_, ⟨_, _, _, _, hs243_⟩, hs252_, Or.inl ⟨⟨_, _, _, _, by rw [hM_]; exact hs261_⟩, hq_v1_51y⟩⟩
  · exact ⟨h234_, M237_, M246_, _, _, _, _, _, hF241_, ⟨_, _, _, _, hs243_⟩, hs252_, Or.inr ⟨M255_, ⟨_, _, _, _, hs261_⟩, Or.inl ⟨⟨_, _, _, _, by rw [hM_]; exact hs274_⟩, hq_v1_51y⟩⟩⟩
  · exact ⟨h234_, M237_, M246_, _, _, _, _, _, hF241_, ⟨_, _, _, _, hs243_⟩, hs252_, Or.inr ⟨M255_, ⟨_, _, _, _, hs261_⟩, Or.inr ⟨M268_, ⟨_, _, _, _, hs274_⟩, Or.inl ⟨⟨_, _, _, _, by rw [hM_]; exact hs287_⟩, hq_v1_51y⟩⟩⟩⟩
  · exact ⟨h234_, M237_, M246_, _, _, _, _, _, hF241_, ⟨_, _, _, _, hs243_⟩, hs252_, Or.inr ⟨M255_, ⟨_, _, _, _, hs261_⟩, Or.inr ⟨M268_, ⟨_, _, _, _, hs274_⟩, Or.inr ⟨⟨_, _, _, _, by rw [hM_]; exact hs287_⟩, hq_v1_51y⟩⟩⟩⟩
theorem term_both {N N2 m : Nat} {QA QB QA2 QB2 : mM → mM → Prop} (hO : BOTH (SP_X4_readOne N m QA QB) (fun D D2 : mM => ∃ (s : Int) (W : Nat) (a T : Int), SP_X12_one N2 m QA2 QB2 s W a T D D2)) : BOTH (SP_X4_readTerm N m QA QB) (fun D D2 : mM => ∃ (s : Int) (W : Nat) (a T : Int), SP_X12_term N2 m QA2 QB2 s W a T D D2) := by
  intro e C C2 D D2 he h h1 h2 hf hg
  obtain ⟨s, W, a, T, h2⟩ := h2
  refine xE_SP_X4_readTerm h1 (fun c_M1_ _ c_hF5_ c_hs7_ c_h3_ c_v1_6 c_hv0_6 c_hv1_6 c_M_6 c_hL_6 _ c_hF_6 => ⟨(fun c_h11_ c_hM_ => ?_), (fun c_h11_ c_z12_ c_e13_ => ⟨(fun c_h14_ c_hM_ => ?_), (fun c_h14_ c_M16_ _ c_hF20_ c_r15_ c_hs22_ c_h26_ c_h61_ c_h96_ c_hM_ => ?_)⟩)⟩)
  ·
    refine xE_SP_X12_term h2 (fun d_M1_ _ d_hF5_ d_hs7_ d_M11_ _ d_hF15_ => ⟨(fun d_hs17_ d_v1_51 d_hv0_51 d_M_51 d_hL_51 _ d_hF_51 d_hv1_51 d_h23_ d_h24_ d_hM_ => ?_), (fun d_hs17_ d_M85_ _ d_hF89_ => ⟨(fun d_hs91_ d_v1_51 d_hv0_51 d_M_51 d_hL_51 _ d_hF_51 d_hv1_51 d_h97_ d_h98_ d_hM_ => ?_), (fun d_hs91_ d_M159_ _ d_hF163_ => ⟨(fun d_hs165_ d_v1_51 d_hv0_51 d_M_51 d_hL_51 _ d_hF_51 d_hv1_51 d_h171_ d_h172_ d_hM_ => ?_), (fun d_hs165_ d_v1_51 d_hv0_51 d_M_51 d_hL_51 _ d_hF_51 d_hv1_51 d_h233_ d_h234_ d_hM_ => ?_)⟩)⟩)⟩)
    · have o1 := hO e _ _ _ _ he h c_hs7_ ⟨_, _, _, _, d_hs7_⟩ c_hF5_ d_hF5_
      have lb := loop_both gopT hP_term hO he (z := (c_v1_6, c_M_6)) (w := (d_v1_51, d_M_51)) o1.1 (RCH_mono c_hL_6 (fun x y k => st_readTerm k)) (Or.inl ⟨c_h11_, c_hM_⟩) (show (RAW3 42 47 37 2005 2006 2007) _ _ _ from Or.inl ⟨⟨_, _, _, _, d_hs17_⟩, rfl⟩) (RCH_mono d_hL_51 (fun x y k => st_X12_term_51 k)) d_h24_
      rw [d_hM_]
      exact PRX_pre lb o1.2
    · have o1 := hO e _ _ _ _ he h c_hs7_ ⟨_, _, _, _, d_hs7_⟩ c_hF5_ d_hF5_
      have lb := loop_both gopT hP_term hO he (z := (c_v1_6, c_M_6)) (w := (d_v1_51, d_M_51)) o1.1 (RCH_mono c_hL_6 (fun x y k => st_readTerm k)) (Or.inl ⟨c_h11_, c_hM_⟩) (show (RAW3 42 47 37 2005 2006 2007) _ _ _ from Or.inr ⟨d_M11_, ⟨_, _, _, _, d_hs17_⟩, Or.inl ⟨⟨_, _, _, _, d_hs91_⟩, rfl⟩⟩) (RCH_mono d_hL_51 (fun x y k => st_X12_term_51b k)) d_h98_
      rw [d_hM_]
      exact PRX_pre lb o1.2
    · have o1 := hO e _ _ _ _ he h c_hs7_ ⟨_, _, _, _, d_hs7_⟩ c_hF5_ d_hF5_
      have lb := loop_both gopT hP_term hO he (z := (c_v1_6, c_M_6)) (w := (d_v1_51, d_M_51)) o1.1 (RCH_mono c_hL_6 (fun x y k => st_readTerm k)) (Or.inl ⟨c_h11_, c_hM_⟩) (show (RAW3 42 47 37 2005 2006 2007) _ _ _ from Or.inr ⟨d_M11_, ⟨_, _, _, _, d_hs17_⟩, Or.inr ⟨d_M85_, ⟨_, _, _, _, d_hs91_⟩, Or.inl ⟨⟨_, _, _, _, d_hs165_⟩, rfl⟩⟩⟩) (RCH_mono d_hL_51 (fun x y k => st_X12_term_51c k)) d_h172_
      rw [d_hM_]
      exact PRX_pre lb o1.2
    · have o1 := hO e _ _ _ _ he h c_hs7_ ⟨_, _, _, _, d_hs7_⟩ c_hF5_ d_hF5_
      have lb := loop_both gopT hP_term hO he (z := (c_v1_6, c_M_6)) (w := (d_v1_51, d_M_51)) o1.1 (RCH_mono c_hL_6 (fun x y k => st_readTerm k)) (Or.inl ⟨c_h11_, c_hM_⟩) (show (RAW3 42 47 37 2005 2006 2007) _ _ _ from Or.inr ⟨d_M11_, ⟨_, _, _, _, d_hs17_⟩, Or.inr ⟨d_M85_, ⟨_, _, _, _, d_hs91_⟩, Or.inr ⟨⟨_, _, _, _, d_hs165_⟩, rfl⟩⟩⟩) (RCH_mono d_hL_51 (fun x y k => st_X12_term_51d k)) d_h234_
      rw [d_hM_]
      exact PRX_pre lb o1.2
  ·
    refine xE_SP_X12_term h2 (fun d_M1_ _ d_hF5_ d_hs7_ d_M11_ _ d_hF15_ => ⟨(fun d_hs17_ d_v1_51 d_hv0_51 d_M_51 d_hL_51 _ d_hF_51 d_hv1_51 d_h23_ d_h24_ d_hM_ => ?_), (fun d_hs17_ d_M85_ _ d_hF89_ => ⟨(fun d_hs91_ d_v1_51 d_hv0_51 d_M_51 d_hL_51 _ d_hF_51 d_hv1_51 d_h97_ d_h98_ d_hM_ => ?_), (fun d_hs91_ d_M159_ _ d_hF163_ => ⟨(fun d_hs165_ d_v1_51 d_hv0_51 d_M_51 d_hL_51 _ d_hF_51 d_hv1_51 d_h171_ d_h172_ d_hM_ => ?_), (fun d_hs165_ d_v1_51 d_hv0_51 d_M_51 d_hL_51 _ d_hF_51 d_hv1_51 d_h233_ d_h234_ d_hM_ => ?_)⟩)⟩)⟩)
    · have o1 := hO e _ _ _ _ he h c_hs7_ ⟨_, _, _, _, d_hs7_⟩ c_hF5_ d_hF5_
      have lb := loop_both gopT hP_term hO he (z := (c_v1_6, c_M_6)) (w := (d_v1_51, d_M_51)) o1.1 (RCH_mono c_hL_6 (fun x y k => st_readTerm k)) (Or.inr (Or.inl ⟨by rw [← c_e13_]; exact c_h14_, c_hM_⟩)) (show (RAW3 42 47 37 2005 2006 2007) _ _ _ from Or.inl ⟨⟨_, _, _, _, d_hs17_⟩, rfl⟩) (RCH_mono d_hL_51 (fun x y k => st_X12_term_51 k)) d_h24_
      rw [d_hM_]
      exact PRX_pre lb o1.2
    · have o1 := hO e _ _ _ _ he h c_hs7_ ⟨_, _, _, _, d_hs7_⟩ c_hF5_ d_hF5_
      have lb := loop_both gopT hP_term hO he (z := (c_v1_6, c_M_6)) (w := (d_v1_51, d_M_51)) o1.1 (RCH_mono c_hL_6 (fun x y k => st_readTerm k)) (Or.inr (Or.inl ⟨by rw [← c_e13_]; exact c_h14_, c_hM_⟩)) (show (RAW3 42 47 37 2005 2006 2007) _ _ _ from Or.inr ⟨d_M11_, ⟨_, _, _, _, d_hs17_⟩, Or.inl ⟨⟨_, _, _, _, d_hs91_⟩, rfl⟩⟩) (RCH_mono d_hL_51 (fun x y k => st_X12_term_51b k)) d_h98_
      rw [d_hM_]
      exact PRX_pre lb o1.2
    · have o1 := hO e _ _ _ _ he h c_hs7_ ⟨_, _, _, _, d_hs7_⟩ c_hF5_ d_hF5_
      have lb := loop_both gopT hP_term hO he (z := (c_v1_6, c_M_6)) (w := (d_v1_51, d_M_51)) o1.1 (RCH_mono c_hL_6 (fun x y k => st_readTerm k)) (Or.inr (Or.inl ⟨by rw [← c_e13_]; exact c_h14_, c_hM_⟩)) (show (RAW3 42 47 37 2005 2006 2007) _ _ _ from Or.inr ⟨d_M11_, ⟨_, _, _, _, d_hs17_⟩, Or.inr ⟨d_M85_, ⟨_, _, _, _, d_hs91_⟩, Or.inl ⟨⟨_, _, _, _, d_hs165_⟩, rfl⟩⟩⟩) (RCH_mono d_hL_51 (fun x y k => st_X12_term_51c k)) d_h172_
      rw [d_hM_]
      exact PRX_pre lb o1.2
    · have o1 := hO e _ _ _ _ he h c_hs7_ ⟨_, _, _, _, d_hs7_⟩ c_hF5_ d_hF5_
      have lb := loop_both gopT hP_term hO he (z := (c_v1_6, c_M_6)) (w := (d_v1_51, d_M_51)) o1.1 (RCH_mono c_hL_6 (fun x y k => st_readTerm k)) (Or.inr (Or.inl ⟨by rw [← c_e13_]; exact c_h14_, c_hM_⟩)) (show (RAW3 42 47 37 2005 2006 2007) _ _ _ from Or.inr ⟨d_M11_, ⟨_, _, _, _, d_hs17_⟩, Or.inr ⟨d_M85_, ⟨_, _, _, _, d_hs91_⟩, Or.inr ⟨⟨_, _, _, _, d_hs165_⟩, rfl⟩⟩⟩) (RCH_mono d_hL_51 (fun x y k => st_X12_term_51d k)) d_h234_
      rw [d_hM_]
      exact PRX_pre lb o1.2
  ·
    refine xE_SP_X12_term h2 (fun d_M1_ _ d_hF5_ d_hs7_ d_M11_ _ d_hF15_ => ⟨(fun d_hs17_ d_v1_51 d_hv0_51 d_M_51 d_hL_51 _ d_hF_51 d_hv1_51 d_h23_ d_h24_ d_hM_ => ?_), (fun d_hs17_ d_M85_ _ d_hF89_ => ⟨(fun d_hs91_ d_v1_51 d_hv0_51 d_M_51 d_hL_51 _ d_hF_51 d_hv1_51 d_h97_ d_h98_ d_hM_ => ?_), (fun d_hs91_ d_M159_ _ d_hF163_ => ⟨(fun d_hs165_ d_v1_51 d_hv0_51 d_M_51 d_hL_51 _ d_hF_51 d_hv1_51 d_h171_ d_h172_ d_hM_ => ?_), (fun d_hs165_ d_v1_51 d_hv0_51 d_M_51 d_hL_51 _ d_hF_51 d_hv1_51 d_h233_ d_h234_ d_hM_ => ?_)⟩)⟩)⟩)
    · have o1 := hO e _ _ _ _ he h c_hs7_ ⟨_, _, _, _, d_hs7_⟩ c_hF5_ d_hF5_
      have lb := loop_both gopT hP_term hO he (z := (c_v1_6, c_M_6)) (w := (d_v1_51, d_M_51)) o1.1 (RCH_mono c_hL_6 (fun x y k => st_readTerm k)) (Or.inr (Or.inr ⟨by rw [← c_e13_]; exact c_h14_, c_r15_, (show SP_X4_next c_M_6 c_r15_ C2 by rw [c_hM_]; exact c_hs22_), by unfold opT; rw [if_neg c_h26_, if_neg c_h61_, if_neg c_h96_]⟩)) (show (RAW3 42 47 37 2005 2006 2007) _ _ _ from Or.inl ⟨⟨_, _, _, _, d_hs17_⟩, rfl⟩) (RCH_mono d_hL_51 (fun x y k => st_X12_term_51 k)) d_h24_
      rw [d_hM_]
      exact PRX_pre lb o1.2
    · have o1 := hO e _ _ _ _ he h c_hs7_ ⟨_, _, _, _, d_hs7_⟩ c_hF5_ d_hF5_
      have lb := loop_both gopT hP_term hO he (z := (c_v1_6, c_M_6)) (w := (d_v1_51, d_M_51)) o1.1 (RCH_mono c_hL_6 (fun x y k => st_readTerm k)) (Or.inr (Or.inr ⟨by rw [← c_e13_]; exact c_h14_, c_r15_, (show SP_X4_next c_M_6 c_r15_ C2 by rw [c_hM_]; exact c_hs22_), by unfold opT; rw [if_neg c_h26_, if_neg c_h61_, if_neg c_h96_]⟩)) (show (RAW3 42 47 37 2005 2006 2007) _ _ _ from Or.inr ⟨d_M11_, ⟨_, _, _, _, d_hs17_⟩, Or.inl ⟨⟨_, _, _, _, d_hs91_⟩, rfl⟩⟩) (RCH_mono d_hL_51 (fun x y k => st_X12_term_51b k)) d_h98_
      rw [d_hM_]
      exact PRX_pre lb o1.2
    · have o1 := hO e _ _ _ _ he h c_hs7_ ⟨_, _, _, _, d_hs7_⟩ c_hF5_ d_hF5_
      have lb := loop_both gopT hP_term hO he (z := (c_v1_6, c_M_6)) (w := (d_v1_51, d_M_51)) o1.1 (RCH_mono c_hL_6 (fun x y k => st_readTerm k)) (Or.inr (Or.inr ⟨by rw [← c_e13_]; exact c_h14_, c_r15_, (show SP_X4_next c_M_6 c_r15_ C2 by rw [c_hM_]; exact c_hs22_), by unfold opT; rw [if_neg c_h26_, if_neg c_h61_, if_neg c_h96_]⟩)) (show (RAW3 42 47 37 2005 2006 2007) _ _ _ from Or.inr ⟨d_M11_, ⟨_, _, _, _, d_hs17_⟩, Or.inr ⟨d_M85_, ⟨_, _, _, _, d_hs91_⟩, Or.inl ⟨⟨_, _, _, _, d_hs165_⟩, rfl⟩⟩⟩) (RCH_mono d_hL_51 (fun x y k => st_X12_term_51c k)) d_h172_
      rw [d_hM_]
      exact PRX_pre lb o1.2
    · have o1 := hO e _ _ _ _ he h c_hs7_ ⟨_, _, _, _, d_hs7_⟩ c_hF5_ d_hF5_
      have lb := loop_both gopT hP_term hO he (z := (c_v1_6, c_M_6)) (w := (d_v1_51, d_M_51)) o1.1 (RCH_mono c_hL_6 (fun x y k => st_readTerm k)) (Or.inr (Or.inr ⟨by rw [← c_e13_]; exact c_h14_, c_r15_, (show SP_X4_next c_M_6 c_r15_ C2 by rw [c_hM_]; exact c_hs22_), by unfold opT; rw [if_neg c_h26_, if_neg c_h61_, if_neg c_h96_]⟩)) (show (RAW3 42 47 37 2005 2006 2007) _ _ _ from Or.inr ⟨d_M11_, ⟨_, _, _, _, d_hs17_⟩, Or.inr ⟨d_M85_, ⟨_, _, _, _, d_hs91_⟩, Or.inr ⟨⟨_, _, _, _, d_hs165_⟩, rfl⟩⟩⟩) (RCH_mono d_hL_51 (fun x y k => st_X12_term_51d k)) d_h234_
      rw [d_hM_]
      exact PRX_pre lb o1.2
/-! sum -/
theorem i_sum : (43 : Int32).toInt = 43 ∧ (45 : Int32).toInt = 45 ∧ (2003 : Int32).toInt = 2003 ∧ (2004 : Int32).toInt = 2004 := by decide
theorem hP_sum (D : mM) (v : Int32) (D2 : mM) (hb : ATb D) (h : RAW2 43 45 2003 2004 D v D2) : OPQ opU D v D2 := by
  refine hP2 (by first | decide | simp | (dsimp only; omega)) (by first | decide | simp | (dsimp only; omega)) (by first | decide | simp | (dsimp only; omega)) (fun c q => ?_) D v D2 hb h
  have i := i_sum
  unfold opU
  rw [if_neg (by omega), if_neg (by omega)]
theorem st_readSum {N m : Nat} {QA QB : mM → mM → Prop} {Mz : mM} {x y : Int32 × mM} (h : ST_X4_readSum_6 N m QA QB Mz x.1 x.2 y.1 y.2) : LCs opU (SP_X4_readTerm N m QA QB) x y := by
  refine xE_ST_X4_readSum_6 h (fun hv0_6 hv1_6 _ hF_6 h11_ z12_ e13_ h14_ M16_ _ hF20_ r15_ hs22_ => ⟨(fun h26_ z27_ e28_ z29_ h30_ M31_ hM32_ _ M38_ _ hF42_ hs44_ h40_ z47_ h48_ M49_ _ hF53_ hs55_ z59_ h60_ hq_v1_6y hM_ => ?_), (fun h26_ h61_ z62_ e63_ z64_ h65_ M66_ hM67_ _ M73_ _ hF77_ hs79_ h75_ z82_ h83_ M84_ _ hF88_ hs90_ z94_ h95_ hq_v1_6y hM_ => ?_)⟩)
  · exact ⟨h11_, by rw [← e13_]; exact h14_, r15_, z47_, z29_, M16_, M31_, M38_, hs22_, (show ¬ opU r15_.toInt = 0 by unfold opU; rw [if_pos h26_]; decide), by rw [h30_, e28_], hM32_, hF42_, hs44_, h48_, by rw [hM_]; exact hs55_, by rw [hq_v1_6y]; exact h60_⟩
  · exact ⟨h11_, by rw [← e13_]; exact h14_, r15_, z82_, z64_, M16_, M66_, M73_, hs22_, (show ¬ opU r15_.toInt = 0 by unfold opU; rw [if_neg h26_, if_pos h61_]; decide), by rw [h65_, e63_], hM67_, hF77_, hs79_, h83_, by rw [hM_]; exact hs90_, by rw [hq_v1_6y]; exact h95_⟩
theorem st_X12_sum_36 {N2 m : Nat} {QA2 QB2 : mM → mM → Prop} {s : Int} {W : Nat} {T : Int} {Mz : mM} {x y : Int32 × mM} (h : ST_X12_sum_36 N2 m QA2 QB2 s W T Mz x.1 x.2 y.1 y.2) : LDs (RAW2 43 45 2003 2004) (fun D D2 : mM => ∃ (s : Int) (W : Nat) (a T : Int), SP_X12_term N2 m QA2 QB2 s W a T D D2) x y := by
  refine xE_ST_X12_sum_36 h (fun hv0_36 _ hF_36 h23_ h24_ M27_ _ hF31_ hs33_ M36_ _ hF40_ hs42_ M45_ _ hF49_ => ⟨(fun hs51_ h53_ hq_v1_36y hM_ => ?_), (fun hs51_ M58_ _ hF62_ => ⟨(fun hs64_ h66_ hq_v1_36y hM_ => ?_), (fun hs64_ h60_ hq_v1_36y hM_ => ?_)⟩)⟩)
  · exact ⟨h24_, M27_, M36_, _, _, _, _, _, hF31_, ⟨_, _, _, _, hs33_⟩, hs42_, Or.inl ⟨⟨_, _, _, _, by rw [hM_]; exact hs51_⟩, hq_v1_36y⟩⟩
  · exact ⟨h24_, M27_, M36_, _, _, _, _, _, hF31_, ⟨_, _, _, _, hs33_⟩, hs42_, Or.inr ⟨M45_, ⟨_, _, _, _, hs51_⟩, Or.inl ⟨⟨_, _, _, _, by rw [hM_]; exact hs64_⟩, hq_v1_36y⟩⟩⟩
  · exact ⟨h24_, M27_, M36_, _, _, _, _, _, hF31_, ⟨_, _, _, _, hs33_⟩, hs42_, Or.inr ⟨M45_, ⟨_, _, _, _, hs51_⟩, Or.inr ⟨⟨_, _, _, _, by rw [hM_]; exact hs64_⟩, hq_v1_36y⟩⟩⟩
theorem st_X12_sum_36b {N2 m : Nat} {QA2 QB2 : mM → mM → Prop} {s : Int} {W : Nat} {T : Int} {Mz : mM} {x y : Int32 × mM} (h : ST_X12_sum_36b N2 m QA2 QB2 s W T Mz x.1 x.2 y.1 y.2) : LDs (RAW2 43 45 2003 2004) (fun D D2 : mM => ∃ (s : Int) (W : Nat) (a T : Int), SP_X12_term N2 m QA2 QB2 s W a T D D2) x y := by
  refine xE_ST_X12_sum_36b h (fun hv0_36 _ hF_36 h84_ h85_ M88_ _ hF92_ hs94_ M97_ _ hF101_ hs103_ M106_ _ hF110_ => ⟨(fun hs112_ h114_ hq_v1_36y hM_ => ?_), (fun hs112_ M119_ _ hF123_ => ⟨(fun hs125_ h127_ hq_v1_36y hM_ => ?_), (fun hs125_ h121_ hq_v1_36y hM_ => ?_)⟩)⟩)
  · exact ⟨h85_, M88_, M97_, _, _, _, _, _, hF92_, ⟨_, _, _, _, hs94_⟩, hs103_, Or.inl ⟨⟨_, _, _, _, by rw [hM_]; exact hs112_⟩, hq_v1_36y⟩⟩
  · exact ⟨h85_, M88_, M97_, _, _, _, _, _, hF92_, ⟨_, _, _, _, hs94_⟩, hs103_, Or.inr ⟨M106_, ⟨_, _, _, _, hs112_⟩, Or.inl ⟨⟨_, _, _, _, by rw [hM_]; exact hs125_⟩, hq_v1_36y⟩⟩⟩
  · exact ⟨h85_, M88_, M97_, _, _, _, _, _, hF92_, ⟨_, _, _, _, hs94_⟩, hs103_, Or.inr ⟨M106_, ⟨_, _, _, _, hs112_⟩, Or.inr ⟨⟨_, _, _, _, by rw [hM_]; exact hs125_⟩, hq_v1_36y⟩⟩⟩
theorem st_X12_sum_36c {N2 m : Nat} {QA2 QB2 : mM → mM → Prop} {s : Int} {W : Nat} {T : Int} {Mz : mM} {x y : Int32 × mM} (h : ST_X12_sum_36c N2 m QA2 QB2 s W T Mz x.1 x.2 y.1 y.2) : LDs (RAW2 43 45 2003 2004) (fun D D2 : mM => ∃ (s : Int) (W : Nat) (a T : Int), SP_X12_term N2 m QA2 QB2 s W a T D D2) x y := by
  refine xE_ST_X12_sum_36c h (fun hv0_36 _ hF_36 h133_ h134_ M137_ _ hF141_ hs143_ M146_ _ hF150_ hs152_ M155_ _ hF159_ => ⟨(fun hs161_ h163_ hq_v1_36y hM_ => ?_), (fun hs161_ M168_ _ hF172_ => ⟨(fun hs174_ h176_ hq_v1_36y hM_ => ?_), (fun hs174_ h170_ hq_v1_36y hM_ => ?_)⟩)⟩)
  · exact ⟨h134_, M137_, M146_, _, _, _, _, _, hF141_, ⟨_, _, _, _, hs143_⟩, hs152_, Or.inl ⟨⟨_, _, _, _, by rw [hM_]; exact hs161_⟩, hq_v1_36y⟩⟩
  · exact ⟨h134_, M137_, M146_, _, _, _, _, _, hF141_, ⟨_, _, _, _, hs143_⟩, hs152_, Or.inr ⟨M155_, ⟨_, _, _, _, hs161_⟩, Or.inl ⟨⟨_, _, _, _, by rw [hM_]; exact hs174_⟩, hq_v1_36y⟩⟩⟩
  · exact ⟨h134_, M137_, M146_, _, _, _, _, _, hF141_, ⟨_, _, _, _, hs143_⟩, hs152_, Or.inr ⟨M155_, ⟨_, _, _, _, hs161_⟩, Or.inr ⟨⟨_, _, _, _, by rw [hM_]; exact hs174_⟩, hq_v1_36y⟩⟩⟩
theorem sum_both {N N2 m : Nat} {QA QB QA2 QB2 : mM → mM → Prop} (hO : BOTH (SP_X4_readTerm N m QA QB) (fun D D2 : mM => ∃ (s : Int) (W : Nat) (a T : Int), SP_X12_term N2 m QA2 QB2 s W a T D D2)) : BOTH (SP_X4_readSum N m QA QB) (fun D D2 : mM => ∃ (s : Int) (W : Nat) (a T : Int), SP_X12_sum N2 m QA2 QB2 s W a T D D2) := by
  intro e C C2 D D2 he h h1 h2 hf hg
  obtain ⟨s, W, a, T, h2⟩ := h2
  refine xE_SP_X4_readSum h1 (fun c_M1_ _ c_hF5_ c_hs7_ c_h3_ c_v1_6 c_hv0_6 c_hv1_6 c_M_6 c_hL_6 _ c_hF_6 => ⟨(fun c_h11_ c_hM_ => ?_), (fun c_h11_ c_z12_ c_e13_ => ⟨(fun c_h14_ c_hM_ => ?_), (fun c_h14_ c_M16_ _ c_hF20_ c_r15_ c_hs22_ c_h26_ c_h61_ c_hM_ => ?_)⟩)⟩)
  ·
    refine xE_SP_X12_sum h2 (fun d_M1_ _ d_hF5_ d_hs7_ d_M11_ _ d_hF15_ => ⟨(fun d_hs17_ d_v1_36 d_hv0_36 d_M_36 d_hL_36 _ d_hF_36 d_hv1_36 d_h23_ d_h24_ d_hM_ => ?_), (fun d_hs17_ d_M72_ _ d_hF76_ => ⟨(fun d_hs78_ d_v1_36 d_hv0_36 d_M_36 d_hL_36 _ d_hF_36 d_hv1_36 d_h84_ d_h85_ d_hM_ => ?_), (fun d_hs78_ d_v1_36 d_hv0_36 d_M_36 d_hL_36 _ d_hF_36 d_hv1_36 d_h133_ d_h134_ d_hM_ => ?_)⟩)⟩)
    · have o1 := hO e _ _ _ _ he h c_hs7_ ⟨_, _, _, _, d_hs7_⟩ c_hF5_ d_hF5_
      have lb := loop_both gopU hP_sum hO he (z := (c_v1_6, c_M_6)) (w := (d_v1_36, d_M_36)) o1.1 (RCH_mono c_hL_6 (fun x y k => st_readSum k)) (Or.inl ⟨c_h11_, c_hM_⟩) (show (RAW2 43 45 2003 2004) _ _ _ from Or.inl ⟨⟨_, _, _, _, d_hs17_⟩, rfl⟩) (RCH_mono d_hL_36 (fun x y k => st_X12_sum_36 k)) d_h24_
      rw [d_hM_]
      exact PRX_pre lb o1.2
    · have o1 := hO e _ _ _ _ he h c_hs7_ ⟨_, _, _, _, d_hs7_⟩ c_hF5_ d_hF5_
      have lb := loop_both gopU hP_sum hO he (z := (c_v1_6, c_M_6)) (w := (d_v1_36, d_M_36)) o1.1 (RCH_mono c_hL_6 (fun x y k => st_readSum k)) (Or.inl ⟨c_h11_, c_hM_⟩) (show (RAW2 43 45 2003 2004) _ _ _ from Or.inr ⟨d_M11_, ⟨_, _, _, _, d_hs17_⟩, Or.inl ⟨⟨_, _, _, _, d_hs78_⟩, rfl⟩⟩) (RCH_mono d_hL_36 (fun x y k => st_X12_sum_36b k)) d_h85_
      rw [d_hM_]
      exact PRX_pre lb o1.2
    · have o1 := hO e _ _ _ _ he h c_hs7_ ⟨_, _, _, _, d_hs7_⟩ c_hF5_ d_hF5_
      have lb := loop_both gopU hP_sum hO he (z := (c_v1_6, c_M_6)) (w := (d_v1_36, d_M_36)) o1.1 (RCH_mono c_hL_6 (fun x y k => st_readSum k)) (Or.inl ⟨c_h11_, c_hM_⟩) (show (RAW2 43 45 2003 2004) _ _ _ from Or.inr ⟨d_M11_, ⟨_, _, _, _, d_hs17_⟩, Or.inr ⟨⟨_, _, _, _, d_hs78_⟩, rfl⟩⟩) (RCH_mono d_hL_36 (fun x y k => st_X12_sum_36c k)) d_h134_
      rw [d_hM_]
      exact PRX_pre lb o1.2
  ·
    refine xE_SP_X12_sum h2 (fun d_M1_ _ d_hF5_ d_hs7_ d_M11_ _ d_hF15_ => ⟨(fun d_hs17_ d_v1_36 d_hv0_36 d_M_36 d_hL_36 _ d_hF_36 d_hv1_36 d_h23_ d_h24_ d_hM_ => ?_), (fun d_hs17_ d_M72_ _ d_hF76_ => ⟨(fun d_hs78_ d_v1_36 d_hv0_36 d_M_36 d_hL_36 _ d_hF_36 d_hv1_36 d_h84_ d_h85_ d_hM_ => ?_), (fun d_hs78_ d_v1_36 d_hv0_36 d_M_36 d_hL_36 _ d_hF_36 d_hv1_36 d_h133_ d_h134_ d_hM_ => ?_)⟩)⟩)
    · have o1 := hO e _ _ _ _ he h c_hs7_ ⟨_, _, _, _, d_hs7_⟩ c_hF5_ d_hF5_
      have lb := loop_both gopU hP_sum hO he (z := (c_v1_6, c_M_6)) (w := (d_v1_36, d_M_36)) o1.1 (RCH_mono c_hL_6 (fun x y k => st_readSum k)) (Or.inr (Or.inl ⟨by rw [← c_e13_]; exact c_h14_, c_hM_⟩)) (show (RAW2 43 45 2003 2004) _ _ _ from Or.inl ⟨⟨_, _, _, _, d_hs17_⟩, rfl⟩) (RCH_mono d_hL_36 (fun x y k => st_X12_sum_36 k)) d_h24_
      rw [d_hM_]
      exact PRX_pre lb o1.2
    · have o1 := hO e _ _ _ _ he h c_hs7_ ⟨_, _, _, _, d_hs7_⟩ c_hF5_ d_hF5_
      have lb := loop_both gopU hP_sum hO he (z := (c_v1_6, c_M_6)) (w := (d_v1_36, d_M_36)) o1.1 (RCH_mono c_hL_6 (fun x y k => st_readSum k)) (Or.inr (Or.inl ⟨by rw [← c_e13_]; exact c_h14_, c_hM_⟩)) (show (RAW2 43 45 2003 2004) _ _ _ from Or.inr ⟨d_M11_, ⟨_, _, _, _, d_hs17_⟩, Or.inl ⟨⟨_, _, _, _, d_hs78_⟩, rfl⟩⟩) (RCH_mono d_hL_36 (fun x y k => st_X12_sum_36b k)) d_h85_
      rw [d_hM_]
      exact PRX_pre lb o1.2
    · have o1 := hO e _ _ _ _ he h c_hs7_ ⟨_, _, _, _, d_hs7_⟩ c_hF5_ d_hF5_
      have lb := loop_both gopU hP_sum hO he (z := (c_v1_6, c_M_6)) (w := (d_v1_36, d_M_36)) o1.1 (RCH_mono c_hL_6 (fun x y k => st_readSum k)) (Or.inr (Or.inl ⟨by rw [← c_e13_]; exact c_h14_, c_hM_⟩)) (show (RAW2 43 45 2003 2004) _ _ _ from Or.inr ⟨d_M11_, ⟨_, _, _, _, d_hs17_⟩, Or.inr ⟨⟨_, _, _, _, d_hs78_⟩, rfl⟩⟩) (RCH_mono d_hL_36 (fun x y k => st_X12_sum_36c k)) d_h134_
      rw [d_hM_]
      exact PRX_pre lb o1.2
  ·
    refine xE_SP_X12_sum h2 (fun d_M1_ _ d_hF5_ d_hs7_ d_M11_ _ d_hF15_ => ⟨(fun d_hs17_ d_v1_36 d_hv0_36 d_M_36 d_hL_36 _ d_hF_36 d_hv1_36 d_h23_ d_h24_ d_hM_ => ?_), (fun d_hs17_ d_M72_ _ d_hF76_ => ⟨(fun d_hs78_ d_v1_36 d_hv0_36 d_M_36 d_hL_36 _ d_hF_36 d_hv1_36 d_h84_ d_h85_ d_hM_ => ?_), (fun d_hs78_ d_v1_36 d_hv0_36 d_M_36 d_hL_36 _ d_hF_36 d_hv1_36 d_h133_ d_h134_ d_hM_ => ?_)⟩)⟩)
    · have o1 := hO e _ _ _ _ he h c_hs7_ ⟨_, _, _, _, d_hs7_⟩ c_hF5_ d_hF5_
      have lb := loop_both gopU hP_sum hO he (z := (c_v1_6, c_M_6)) (w := (d_v1_36, d_M_36)) o1.1 (RCH_mono c_hL_6 (fun x y k => st_readSum k)) (Or.inr (Or.inr ⟨by rw [← c_e13_]; exact c_h14_, c_r15_, (show SP_X4_next c_M_6 c_r15_ C2 by rw [c_hM_]; exact c_hs22_), by unfold opU; rw [if_neg c_h26_, if_neg c_h61_]⟩)) (show (RAW2 43 45 2003 2004) _ _ _ from Or.inl ⟨⟨_, _, _, _, d_hs17_⟩, rfl⟩) (RCH_mono d_hL_36 (fun x y k => st_X12_sum_36 k)) d_h24_
      rw [d_hM_]
      exact PRX_pre lb o1.2
    · have o1 := hO e _ _ _ _ he h c_hs7_ ⟨_, _, _, _, d_hs7_⟩ c_hF5_ d_hF5_
      have lb := loop_both gopU hP_sum hO he (z := (c_v1_6, c_M_6)) (w := (d_v1_36, d_M_36)) o1.1 (RCH_mono c_hL_6 (fun x y k => st_readSum k)) (Or.inr (Or.inr ⟨by rw [← c_e13_]; exact c_h14_, c_r15_, (show SP_X4_next c_M_6 c_r15_ C2 by rw [c_hM_]; exact c_hs22_), by unfold opU; rw [if_neg c_h26_, if_neg c_h61_]⟩)) (show (RAW2 43 45 2003 2004) _ _ _ from Or.inr ⟨d_M11_, ⟨_, _, _, _, d_hs17_⟩, Or.inl ⟨⟨_, _, _, _, d_hs78_⟩, rfl⟩⟩) (RCH_mono d_hL_36 (fun x y k => st_X12_sum_36b k)) d_h85_
      rw [d_hM_]
      exact PRX_pre lb o1.2
    · have o1 := hO e _ _ _ _ he h c_hs7_ ⟨_, _, _, _, d_hs7_⟩ c_hF5_ d_hF5_
      have lb := loop_both gopU hP_sum hO he (z := (c_v1_6, c_M_6)) (w := (d_v1_36, d_M_36)) o1.1 (RCH_mono c_hL_6 (fun x y k => st_readSum k)) (Or.inr (Or.inr ⟨by rw [← c_e13_]; exact c_h14_, c_r15_, (show SP_X4_next c_M_6 c_r15_ C2 by rw [c_hM_]; exact c_hs22_), by unfold opU; rw [if_neg c_h26_, if_neg c_h61_]⟩)) (show (RAW2 43 45 2003 2004) _ _ _ from Or.inr ⟨d_M11_, ⟨_, _, _, _, d_hs17_⟩, Or.inr ⟨⟨_, _, _, _, d_hs78_⟩, rfl⟩⟩) (RCH_mono d_hL_36 (fun x y k => st_X12_sum_36c k)) d_h134_
      rw [d_hM_]
      exact PRX_pre lb o1.2
/-! text -/
theorem i_text : (60 : Int32).toInt = 60 ∧ (61 : Int32).toInt = 61 ∧ (62 : Int32).toInt = 62 ∧ (2000 : Int32).toInt = 2000 ∧ (2001 : Int32).toInt = 2001 ∧ (2002 : Int32).toInt = 2002 := by decide
theorem hP_text (D : mM) (v : Int32) (D2 : mM) (hb : ATb D) (h : RAW3 60 61 62 2000 2001 2002 D v D2) : OPQ opV D v D2 := by
  refine hP3 (by first | decide | simp | (dsimp only; omega)) (by first | decide | simp | (dsimp only; omega)) (by first | decide | simp | (dsimp only; omega)) (by first | decide | simp | (dsimp only; omega)) (fun c q => ?_) D v D2 hb h
  have i := i_text
  unfold opV
  rw [if_neg (by omega), if_neg (by omega), if_neg (by omega)]
theorem st_readComparisons {N m : Nat} {QA QB : mM → mM → Prop} {Mz : mM} {x y : Int32 × mM} (h : ST_X4_readComparisons_6 N m QA QB Mz x.1 x.2 y.1 y.2) : LCs opV (SP_X4_readSum N m QA QB) x y := by
  refine xE_ST_X4_readComparisons_6 h (fun hv0_6 hv1_6 _ hF_6 h11_ z12_ e13_ h14_ M16_ _ hF20_ r15_ hs22_ => ⟨(fun h26_ z27_ e28_ z29_ h30_ M31_ hM32_ _ M38_ _ hF42_ hs44_ h40_ z47_ h48_ M49_ _ hF53_ hs55_ z59_ h60_ hq_v1_6y hM_ => ?_), (fun h26_ => ⟨(fun h61_ z62_ e63_ z64_ h65_ M66_ hM67_ _ M73_ _ hF77_ hs79_ h75_ z82_ h83_ M84_ _ hF88_ hs90_ z94_ h95_ hq_v1_6y hM_ => ?_), (fun h61_ h96_ z97_ e98_ z99_ h100_ M101_ hM102_ _ M108_ _ hF112_ hs114_ h110_ z117_ h118_ M119_ _ hF123_ hs125_ z129_ h130_ hq_v1_6y hM_ => ?_)⟩)⟩)
  · exact ⟨h11_, by rw [← e13_]; exact h14_, r15_, z47_, z29_, M16_, M31_, M38_, hs22_, (show ¬ opV r15_.toInt = 0 by unfold opV; rw [if_pos h26_]; decide), by rw [h30_, e28_], hM32_, hF42_, hs44_, h48_, by rw [hM_]; exact hs55_, by rw [hq_v1_6y]; exact h60_⟩
  · exact ⟨h11_, by rw [← e13_]; exact h14_, r15_, z82_, z64_, M16_, M66_, M73_, hs22_, (show ¬ opV r15_.toInt = 0 by unfold opV; rw [if_neg h26_, if_pos h61_]; decide), by rw [h65_, e63_], hM67_, hF77_, hs79_, h83_, by rw [hM_]; exact hs90_, by rw [hq_v1_6y]; exact h95_⟩
  · exact ⟨h11_, by rw [← e13_]; exact h14_, r15_, z117_, z99_, M16_, M101_, M108_, hs22_, (show ¬ opV r15_.toInt = 0 by unfold opV; rw [if_neg h26_, if_neg h61_, if_pos h96_]; decide), by rw [h100_, e98_], hM102_, hF112_, hs114_, h118_, by rw [hM_]; exact hs125_, by rw [hq_v1_6y]; exact h130_⟩
theorem st_X12_text_51 {N2 m : Nat} {QA2 QB2 : mM → mM → Prop} {s : Int} {W : Nat} {T : Int} {Mz : mM} {x y : Int32 × mM} (h : ST_X12_text_51 N2 m QA2 QB2 s W T Mz x.1 x.2 y.1 y.2) : LDs (RAW3 60 61 62 2000 2001 2002) (fun D D2 : mM => ∃ (s : Int) (W : Nat) (a T : Int), SP_X12_sum N2 m QA2 QB2 s W a T D D2) x y := by
  refine xE_ST_X12_text_51 h (fun hv0_51 _ hF_51 h23_ h24_ M27_ _ hF31_ hs33_ M36_ _ hF40_ hs42_ M45_ _ hF49_ => ⟨(fun hs51_ h53_ hq_v1_51y hM_ => ?_), (fun hs51_ M58_ _ hF62_ => ⟨(fun hs64_ h66_ hq_v1_51y hM_ => ?_), (fun hs64_ M71_ _ hF75_ => ⟨(fun hs77_ h79_ hq_v1_51y hM_ => ?_), (fun hs77_ h73_ hq_v1_51y hM_ => ?_)⟩)⟩)⟩)
  · exact ⟨h24_, M27_, M36_, _, _, _, _, _, hF31_, ⟨_, _, _, _, hs33_⟩, hs42_, Or.inl ⟨⟨_, _, _, _, by rw [hM_]; exact hs51_⟩, hq_v1_51y⟩⟩
  · exact ⟨h24_, M27_, M36_, _, _, _, _, _, hF31_, ⟨_, _, _, _, hs33_⟩, hs42_, Or.inr ⟨M45_, ⟨_, _, _, _, hs51_⟩, Or.inl ⟨⟨_, _, _, _, by rw [hM_]; exact hs64_⟩, hq_v1_51y⟩⟩⟩
  · exact ⟨h24_, M27_, M36_, _, _, _, _, _, hF31_, ⟨_, _, _, _, hs33_⟩, hs42_, Or.inr ⟨M45_, ⟨_, _, _, _, hs51_⟩, Or.inr ⟨M58_, ⟨_, _, _, _, hs64_⟩, Or.inl ⟨⟨_, _, _, _, by rw [hM_]; exact hs77_⟩, hq_v1_51y⟩⟩⟩⟩
  · exact ⟨h24_, M27_, M36_, _, _, _, _, _, hF31_, ⟨_, _, _, _, hs33_⟩, hs42_, Or.inr ⟨M45_, ⟨_, _, _, _, hs51_⟩, Or.inr ⟨M58_, ⟨_, _, _, _, hs64_⟩, Or.inr ⟨⟨_, _, _, _, by rw [hM_]; exact hs77_⟩, hq_v1_51y⟩⟩⟩⟩
theorem st_X12_text_51b {N2 m : Nat} {QA2 QB2 : mM → mM → Prop} {s : Int} {W : Nat} {T : Int} {Mz : mM} {x y : Int32 × mM} (h : ST_X12_text_51b N2 m QA2 QB2 s W T Mz x.1 x.2 y.1 y.2) : LDs (RAW3 60 61 62 2000 2001 2002) (fun D D2 : mM => ∃ (s : Int) (W : Nat) (a T : Int), SP_X12_sum N2 m QA2 QB2 s W a T D D2) x y := by
  refine xE_ST_X12_text_51b h (fun hv0_51 _ hF_51 h97_ h98_ M101_ _ hF105_ hs107_ M110_ _ hF114_ hs116_ M119_ _ hF123_ => ⟨(fun hs125_ h127_ hq_v1_51y hM_ => ?_), (fun hs125_ M132_ _ hF136_ => ⟨(fun hs138_ h140_ hq_v1_51y hM_ => ?_), (fun hs138_ M145_ _ hF149_ => ⟨(fun hs151_ h153_ hq_v1_51y hM_ => ?_), (fun hs151_ h147_ hq_v1_51y hM_ => ?_)⟩)⟩)⟩)
  · exact ⟨h98_, M101_, M110_, _, _, _, _, _, hF105_, ⟨_, _, _, _, hs107_⟩, hs116_, Or.inl ⟨⟨_, _, _, _, by rw [hM_]; exact hs125_⟩, hq_v1_51y⟩⟩
  · exact ⟨h98_, M101_, M110_, _, _, _, _, _, hF105_, ⟨_, _, _, _, hs107_⟩, hs116_, Or.inr ⟨M119_, ⟨_, _, _, _, hs125_⟩, Or.inl ⟨⟨_, _, _, _, by rw [hM_]; exact hs138_⟩, hq_v1_51y⟩⟩⟩
  · exact ⟨h98_, M101_, M110_, _, _, _, _, _, hF105_, ⟨_, _, _, _, hs107_⟩, hs116_, Or.inr ⟨M119_, ⟨_, _, _, _, hs125_⟩, Or.inr ⟨M132_, ⟨_, _, _, _, hs138_⟩, Or.inl ⟨⟨_, _, _, _, by rw [hM_]; exact hs151_⟩, hq_v1_51y⟩⟩⟩⟩
  · exact ⟨h98_, M101_, M110_, _, _, _, _, _, hF105_, ⟨_, _, _, _, hs107_⟩, hs116_, Or.inr ⟨M119_, ⟨_, _, _, _, hs125_⟩, Or.inr ⟨M132_, ⟨_, _, _, _, hs138_⟩, Or.inr ⟨⟨_, _, _, _, by rw [hM_]; exact hs151_⟩, hq_v1_51y⟩⟩⟩⟩
theorem st_X12_text_51c {N2 m : Nat} {QA2 QB2 : mM → mM → Prop} {s : Int} {W : Nat} {T : Int} {Mz : mM} {x y : Int32 × mM} (h : ST_X12_text_51c N2 m QA2 QB2 s W T Mz x.1 x.2 y.1 y.2) : LDs (RAW3 60 61 62 2000 2001 2002) (fun D D2 : mM => ∃ (s : Int) (W : Nat) (a T : Int), SP_X12_sum N2 m QA2 QB2 s W a T D D2) x y := by
  refine xE_ST_X12_text_51c h (fun hv0_51 _ hF_51 h171_ h172_ M175_ _ hF179_ hs181_ M184_ _ hF188_ hs190_ M193_ _ hF197_ => ⟨(fun hs199_ h201_ hq_v1_51y hM_ => ?_), (fun hs199_ M206_ _ hF210_ => ⟨(fun hs212_ h214_ hq_v1_51y hM_ => ?_), (fun hs212_ M219_ _ hF223_ => ⟨(fun hs225_ h227_ hq_v1_51y hM_ => ?_), (fun hs225_ h221_ hq_v1_51y hM_ => ?_)⟩)⟩)⟩)
  · exact ⟨h172_, M175_, M184_, _, _, _, _, _, hF179_, ⟨_, _, _, _, hs181_⟩, hs190_, Or.inl ⟨⟨_, _, _, _, by rw [hM_]; exact hs199_⟩, hq_v1_51y⟩⟩
  · exact ⟨h172_, M175_, M184_, _, _, _, _, _, hF179_, ⟨_, _, _, _, hs181_⟩, hs190_, Or.inr ⟨M193_, ⟨_, _, _, _, hs199_⟩, Or.inl ⟨⟨_, _, _, _, by rw [hM_]; exact hs212_⟩, hq_v1_51y⟩⟩⟩
  · exact ⟨h172_, M175_, M184_, _, _, _, _, _, hF179_, ⟨_, _, _, _, hs181_⟩, hs190_, Or.inr ⟨M193_, ⟨_, _, _, _, hs199_⟩, Or.inr ⟨M206_, ⟨_, _, _, _, hs212_⟩, Or.inl ⟨⟨_, _, _, _, by rw [hM_]; exact hs225_⟩, hq_v1_51y⟩⟩⟩⟩
  · exact ⟨h172_, M175_, M184_, _, _, _, _, _, hF179_, ⟨_, _, _, _, hs181_⟩, hs190_, Or.inr ⟨M193_, ⟨_, _, _, _, hs199_⟩, Or.inr ⟨M206_, ⟨_, _, _, _, hs212_⟩, Or.inr ⟨⟨_, _, _, _, by rw [hM_]; exact hs225_⟩, hq_v1_51y⟩⟩⟩⟩
theorem st_X12_text_51d {N2 m : Nat} {QA2 QB2 : mM → mM → Prop} {s : Int} {W : Nat} {T : Int} {Mz : mM} {x y : Int32 × mM} (h : ST_X12_text_51d N2 m QA2 QB2 s W T Mz x.1 x.2 y.1 y.2) : LDs (RAW3 60 61 62 2000 2001 2002) (fun D D2 : mM => ∃ (s : Int) (W : Nat) (a T : Int), SP_X12_sum N2 m QA2 QB2 s W a T D D2) x y := by
  refine xE_ST_X12_text_51d h (fun hv0_51 _ hF_51 h233_ h234_ M237_ _ hF241_ hs243_ M246_ _ hF250_ hs252_ M255_ _ hF259_ => ⟨(fun hs261_ h263_ hq_v1_51y hM_ => ?_), (fun hs261_ M268_ _ hF272_ => ⟨(fun hs274_ h276_ hq_v1_51y hM_ => ?_), (fun hs274_ M281_ _ hF285_ => ⟨(fun hs287_ h289_ hq_v1_51y hM_ => ?_), (fun hs287_ h283_ hq_v1_51y hM_ => ?_)⟩)⟩)⟩)
  · exact ⟨h234_, M237_, M246_, _, _, _, _, _, hF241_, ⟨_, _, _, _, hs243_⟩, hs252_, Or.inl ⟨⟨_, _, _, _, by rw [hM_]; exact hs261_⟩, hq_v1_51y⟩⟩
  · exact ⟨h234_, M237_, M246_, _, _, _, _, _, hF241_, ⟨_, _, _, _, hs243_⟩, hs252_, Or.inr ⟨M255_, ⟨_, _, _, _, hs261_⟩, Or.inl ⟨⟨_, _, _, _, by rw [hM_]; exact hs274_⟩, hq_v1_51y⟩⟩⟩
  · exact ⟨h234_, M237_, M246_, _, _, _, _, _, hF241_, ⟨_, _, _, _, hs243_⟩, hs252_, Or.inr ⟨M255_, ⟨_, _, _, _, hs261_⟩, Or.inr ⟨M268_, ⟨_, _, _, _, hs274_⟩, Or.inl ⟨⟨_, _, _, _, by rw [hM_]; exact hs287_⟩, hq_v1_51y⟩⟩⟩⟩
  · exact ⟨h234_, M237_, M246_, _, _, _, _, _, hF241_, ⟨_, _, _, _, hs243_⟩, hs252_, Or.inr ⟨M255_, ⟨_, _, _, _, hs261_⟩, Or.inr ⟨M268_, ⟨_, _, _, _, hs274_⟩, Or.inr ⟨⟨_, _, _, _, by rw [hM_]; exact hs287_⟩, hq_v1_51y⟩⟩⟩⟩
theorem text_both {N N2 m : Nat} {QA QB QA2 QB2 : mM → mM → Prop} (hO : BOTH (SP_X4_readSum N m QA QB) (fun D D2 : mM => ∃ (s : Int) (W : Nat) (a T : Int), SP_X12_sum N2 m QA2 QB2 s W a T D D2)) : BOTH (SP_X4_readComparisons N m QA QB) (fun D D2 : mM => ∃ (s : Int) (W : Nat) (a T : Int), SP_X12_text N2 m QA2 QB2 s W a T D D2) := by
  intro e C C2 D D2 he h h1 h2 hf hg
  obtain ⟨s, W, a, T, h2⟩ := h2
  refine xE_SP_X4_readComparisons h1 (fun c_M1_ _ c_hF5_ c_hs7_ c_h3_ c_v1_6 c_hv0_6 c_hv1_6 c_M_6 c_hL_6 _ c_hF_6 => ⟨(fun c_h11_ c_hM_ => ?_), (fun c_h11_ c_z12_ c_e13_ => ⟨(fun c_h14_ c_hM_ => ?_), (fun c_h14_ c_M16_ _ c_hF20_ c_r15_ c_hs22_ c_h26_ c_h61_ c_h96_ c_hM_ => ?_)⟩)⟩)
  ·
    refine xE_SP_X12_text h2 (fun d_M1_ _ d_hF5_ d_hs7_ d_M11_ _ d_hF15_ => ⟨(fun d_hs17_ d_v1_51 d_hv0_51 d_M_51 d_hL_51 _ d_hF_51 d_hv1_51 d_h23_ d_h24_ d_hM_ => ?_), (fun d_hs17_ d_M85_ _ d_hF89_ => ⟨(fun d_hs91_ d_v1_51 d_hv0_51 d_M_51 d_hL_51 _ d_hF_51 d_hv1_51 d_h97_ d_h98_ d_hM_ => ?_), (fun d_hs91_ d_M159_ _ d_hF163_ => ⟨(fun d_hs165_ d_v1_51 d_hv0_51 d_M_51 d_hL_51 _ d_hF_51 d_hv1_51 d_h171_ d_h172_ d_hM_ => ?_), (fun d_hs165_ d_v1_51 d_hv0_51 d_M_51 d_hL_51 _ d_hF_51 d_hv1_51 d_h233_ d_h234_ d_hM_ => ?_)⟩)⟩)⟩)
    · have o1 := hO e _ _ _ _ he h c_hs7_ ⟨_, _, _, _, d_hs7_⟩ c_hF5_ d_hF5_
      have lb := loop_both gopV hP_text hO he (z := (c_v1_6, c_M_6)) (w := (d_v1_51, d_M_51)) o1.1 (RCH_mono c_hL_6 (fun x y k => st_readComparisons k)) (Or.inl ⟨c_h11_, c_hM_⟩) (show (RAW3 60 61 62 2000 2001 2002) _ _ _ from Or.inl ⟨⟨_, _, _, _, d_hs17_⟩, rfl⟩) (RCH_mono d_hL_51 (fun x y k => st_X12_text_51 k)) d_h24_
      rw [d_hM_]
      exact PRX_pre lb o1.2
    · have o1 := hO e _ _ _ _ he h c_hs7_ ⟨_, _, _, _, d_hs7_⟩ c_hF5_ d_hF5_
      have lb := loop_both gopV hP_text hO he (z := (c_v1_6, c_M_6)) (w := (d_v1_51, d_M_51)) o1.1 (RCH_mono c_hL_6 (fun x y k => st_readComparisons k)) (Or.inl ⟨c_h11_, c_hM_⟩) (show (RAW3 60 61 62 2000 2001 2002) _ _ _ from Or.inr ⟨d_M11_, ⟨_, _, _, _, d_hs17_⟩, Or.inl ⟨⟨_, _, _, _, d_hs91_⟩, rfl⟩⟩) (RCH_mono d_hL_51 (fun x y k => st_X12_text_51b k)) d_h98_
      rw [d_hM_]
      exact PRX_pre lb o1.2
    · have o1 := hO e _ _ _ _ he h c_hs7_ ⟨_, _, _, _, d_hs7_⟩ c_hF5_ d_hF5_
      have lb := loop_both gopV hP_text hO he (z := (c_v1_6, c_M_6)) (w := (d_v1_51, d_M_51)) o1.1 (RCH_mono c_hL_6 (fun x y k => st_readComparisons k)) (Or.inl ⟨c_h11_, c_hM_⟩) (show (RAW3 60 61 62 2000 2001 2002) _ _ _ from Or.inr ⟨d_M11_, ⟨_, _, _, _, d_hs17_⟩, Or.inr ⟨d_M85_, ⟨_, _, _, _, d_hs91_⟩, Or.inl ⟨⟨_, _, _, _, d_hs165_⟩, rfl⟩⟩⟩) (RCH_mono d_hL_51 (fun x y k => st_X12_text_51c k)) d_h172_
      rw [d_hM_]
      exact PRX_pre lb o1.2
    · have o1 := hO e _ _ _ _ he h c_hs7_ ⟨_, _, _, _, d_hs7_⟩ c_hF5_ d_hF5_
      have lb := loop_both gopV hP_text hO he (z := (c_v1_6, c_M_6)) (w := (d_v1_51, d_M_51)) o1.1 (RCH_mono c_hL_6 (fun x y k => st_readComparisons k)) (Or.inl ⟨c_h11_, c_hM_⟩) (show (RAW3 60 61 62 2000 2001 2002) _ _ _ from Or.inr ⟨d_M11_, ⟨_, _, _, _, d_hs17_⟩, Or.inr ⟨d_M85_, ⟨_, _, _, _, d_hs91_⟩, Or.inr ⟨⟨_, _, _, _, d_hs165_⟩, rfl⟩⟩⟩) (RCH_mono d_hL_51 (fun x y k => st_X12_text_51d k)) d_h234_
      rw [d_hM_]
      exact PRX_pre lb o1.2
  ·
    refine xE_SP_X12_text h2 (fun d_M1_ _ d_hF5_ d_hs7_ d_M11_ _ d_hF15_ => ⟨(fun d_hs17_ d_v1_51 d_hv0_51 d_M_51 d_hL_51 _ d_hF_51 d_hv1_51 d_h23_ d_h24_ d_hM_ => ?_), (fun d_hs17_ d_M85_ _ d_hF89_ => ⟨(fun d_hs91_ d_v1_51 d_hv0_51 d_M_51 d_hL_51 _ d_hF_51 d_hv1_51 d_h97_ d_h98_ d_hM_ => ?_), (fun d_hs91_ d_M159_ _ d_hF163_ => ⟨(fun d_hs165_ d_v1_51 d_hv0_51 d_M_51 d_hL_51 _ d_hF_51 d_hv1_51 d_h171_ d_h172_ d_hM_ => ?_), (fun d_hs165_ d_v1_51 d_hv0_51 d_M_51 d_hL_51 _ d_hF_51 d_hv1_51 d_h233_ d_h234_ d_hM_ => ?_)⟩)⟩)⟩)
    · have o1 := hO e _ _ _ _ he h c_hs7_ ⟨_, _, _, _, d_hs7_⟩ c_hF5_ d_hF5_
      have lb := loop_both gopV hP_text hO he (z := (c_v1_6, c_M_6)) (w := (d_v1_51, d_M_51)) o1.1 (RCH_mono c_hL_6 (fun x y k => st_readComparisons k)) (Or.inr (Or.inl ⟨by rw [← c_e13_]; exact c_h14_, c_hM_⟩)) (show (RAW3 60 61 62 2000 2001 2002) _ _ _ from Or.inl ⟨⟨_, _, _, _, d_hs17_⟩, rfl⟩) (RCH_mono d_hL_51 (fun x y k => st_X12_text_51 k)) d_h24_
      rw [d_hM_]
      exact PRX_pre lb o1.2
    · have o1 := hO e _ _ _ _ he h c_hs7_ ⟨_, _, _, _, d_hs7_⟩ c_hF5_ d_hF5_
      have lb := loop_both gopV hP_text hO he (z := (c_v1_6, c_M_6)) (w := (d_v1_51, d_M_51)) o1.1 (RCH_mono c_hL_6 (fun x y k => st_readComparisons k)) (Or.inr (Or.inl ⟨by rw [← c_e13_]; exact c_h14_, c_hM_⟩)) (show (RAW3 60 61 62 2000 2001 2002) _ _ _ from Or.inr ⟨d_M11_, ⟨_, _, _, _, d_hs17_⟩, Or.inl ⟨⟨_, _, _, _, d_hs91_⟩, rfl⟩⟩) (RCH_mono d_hL_51 (fun x y k => st_X12_text_51b k)) d_h98_
      rw [d_hM_]
      exact PRX_pre lb o1.2
    · have o1 := hO e _ _ _ _ he h c_hs7_ ⟨_, _, _, _, d_hs7_⟩ c_hF5_ d_hF5_
      have lb := loop_both gopV hP_text hO he (z := (c_v1_6, c_M_6)) (w := (d_v1_51, d_M_51)) o1.1 (RCH_mono c_hL_6 (fun x y k => st_readComparisons k)) (Or.inr (Or.inl ⟨by rw [← c_e13_]; exact c_h14_, c_hM_⟩)) (show (RAW3 60 61 62 2000 2001 2002) _ _ _ from Or.inr ⟨d_M11_, ⟨_, _, _, _, d_hs17_⟩, Or.inr ⟨d_M85_, ⟨_, _, _, _, d_hs91_⟩, Or.inl ⟨⟨_, _, _, _, d_hs165_⟩, rfl⟩⟩⟩) (RCH_mono d_hL_51 (fun x y k => st_X12_text_51c k)) d_h172_
      rw [d_hM_]
      exact PRX_pre lb o1.2
    · have o1 := hO e _ _ _ _ he h c_hs7_ ⟨_, _, _, _, d_hs7_⟩ c_hF5_ d_hF5_
      have lb := loop_both gopV hP_text hO he (z := (c_v1_6, c_M_6)) (w := (d_v1_51, d_M_51)) o1.1 (RCH_mono c_hL_6 (fun x y k => st_readComparisons k)) (Or.inr (Or.inl ⟨by rw [← c_e13_]; exact c_h14_, c_hM_⟩)) (show (RAW3 60 61 62 2000 2001 2002) _ _ _ from Or.inr ⟨d_M11_, ⟨_, _, _, _, d_hs17_⟩, Or.inr ⟨d_M85_, ⟨_, _, _, _, d_hs91_⟩, Or.inr ⟨⟨_, _, _, _, d_hs165_⟩, rfl⟩⟩⟩) (RCH_mono d_hL_51 (fun x y k => st_X12_text_51d k)) d_h234_
      rw [d_hM_]
      exact PRX_pre lb o1.2
  ·
    refine xE_SP_X12_text h2 (fun d_M1_ _ d_hF5_ d_hs7_ d_M11_ _ d_hF15_ => ⟨(fun d_hs17_ d_v1_51 d_hv0_51 d_M_51 d_hL_51 _ d_hF_51 d_hv1_51 d_h23_ d_h24_ d_hM_ => ?_), (fun d_hs17_ d_M85_ _ d_hF89_ => ⟨(fun d_hs91_ d_v1_51 d_hv0_51 d_M_51 d_hL_51 _ d_hF_51 d_hv1_51 d_h97_ d_h98_ d_hM_ => ?_), (fun d_hs91_ d_M159_ _ d_hF163_ => ⟨(fun d_hs165_ d_v1_51 d_hv0_51 d_M_51 d_hL_51 _ d_hF_51 d_hv1_51 d_h171_ d_h172_ d_hM_ => ?_), (fun d_hs165_ d_v1_51 d_hv0_51 d_M_51 d_hL_51 _ d_hF_51 d_hv1_51 d_h233_ d_h234_ d_hM_ => ?_)⟩)⟩)⟩)
    · have o1 := hO e _ _ _ _ he h c_hs7_ ⟨_, _, _, _, d_hs7_⟩ c_hF5_ d_hF5_
      have lb := loop_both gopV hP_text hO he (z := (c_v1_6, c_M_6)) (w := (d_v1_51, d_M_51)) o1.1 (RCH_mono c_hL_6 (fun x y k => st_readComparisons k)) (Or.inr (Or.inr ⟨by rw [← c_e13_]; exact c_h14_, c_r15_, (show SP_X4_next c_M_6 c_r15_ C2 by rw [c_hM_]; exact c_hs22_), by unfold opV; rw [if_neg c_h26_, if_neg c_h61_, if_neg c_h96_]⟩)) (show (RAW3 60 61 62 2000 2001 2002) _ _ _ from Or.inl ⟨⟨_, _, _, _, d_hs17_⟩, rfl⟩) (RCH_mono d_hL_51 (fun x y k => st_X12_text_51 k)) d_h24_
      rw [d_hM_]
      exact PRX_pre lb o1.2
    · have o1 := hO e _ _ _ _ he h c_hs7_ ⟨_, _, _, _, d_hs7_⟩ c_hF5_ d_hF5_
      have lb := loop_both gopV hP_text hO he (z := (c_v1_6, c_M_6)) (w := (d_v1_51, d_M_51)) o1.1 (RCH_mono c_hL_6 (fun x y k => st_readComparisons k)) (Or.inr (Or.inr ⟨by rw [← c_e13_]; exact c_h14_, c_r15_, (show SP_X4_next c_M_6 c_r15_ C2 by rw [c_hM_]; exact c_hs22_), by unfold opV; rw [if_neg c_h26_, if_neg c_h61_, if_neg c_h96_]⟩)) (show (RAW3 60 61 62 2000 2001 2002) _ _ _ from Or.inr ⟨d_M11_, ⟨_, _, _, _, d_hs17_⟩, Or.inl ⟨⟨_, _, _, _, d_hs91_⟩, rfl⟩⟩) (RCH_mono d_hL_51 (fun x y k => st_X12_text_51b k)) d_h98_
      rw [d_hM_]
      exact PRX_pre lb o1.2
    · have o1 := hO e _ _ _ _ he h c_hs7_ ⟨_, _, _, _, d_hs7_⟩ c_hF5_ d_hF5_
      have lb := loop_both gopV hP_text hO he (z := (c_v1_6, c_M_6)) (w := (d_v1_51, d_M_51)) o1.1 (RCH_mono c_hL_6 (fun x y k => st_readComparisons k)) (Or.inr (Or.inr ⟨by rw [← c_e13_]; exact c_h14_, c_r15_, (show SP_X4_next c_M_6 c_r15_ C2 by rw [c_hM_]; exact c_hs22_), by unfold opV; rw [if_neg c_h26_, if_neg c_h61_, if_neg c_h96_]⟩)) (show (RAW3 60 61 62 2000 2001 2002) _ _ _ from Or.inr ⟨d_M11_, ⟨_, _, _, _, d_hs17_⟩, Or.inr ⟨d_M85_, ⟨_, _, _, _, d_hs91_⟩, Or.inl ⟨⟨_, _, _, _, d_hs165_⟩, rfl⟩⟩⟩) (RCH_mono d_hL_51 (fun x y k => st_X12_text_51c k)) d_h172_
      rw [d_hM_]
      exact PRX_pre lb o1.2
    · have o1 := hO e _ _ _ _ he h c_hs7_ ⟨_, _, _, _, d_hs7_⟩ c_hF5_ d_hF5_
      have lb := loop_both gopV hP_text hO he (z := (c_v1_6, c_M_6)) (w := (d_v1_51, d_M_51)) o1.1 (RCH_mono c_hL_6 (fun x y k => st_readComparisons k)) (Or.inr (Or.inr ⟨by rw [← c_e13_]; exact c_h14_, c_r15_, (show SP_X4_next c_M_6 c_r15_ C2 by rw [c_hM_]; exact c_hs22_), by unfold opV; rw [if_neg c_h26_, if_neg c_h61_, if_neg c_h96_]⟩)) (show (RAW3 60 61 62 2000 2001 2002) _ _ _ from Or.inr ⟨d_M11_, ⟨_, _, _, _, d_hs17_⟩, Or.inr ⟨d_M85_, ⟨_, _, _, _, d_hs91_⟩, Or.inr ⟨⟨_, _, _, _, d_hs165_⟩, rfl⟩⟩⟩) (RCH_mono d_hL_51 (fun x y k => st_X12_text_51d k)) d_h234_
      rw [d_hM_]
      exact PRX_pre lb o1.2
/-! the two parses whole -/
theorem parse_both : ∀ m : Nat, BOTH (SPRp m).1 (SPRd m).1 ∧ BOTH (SPRp m).2 (SPRd m).2 := fun m => by
  have F : BOTH (fun _ _ => False) (fun _ _ => False) := fun _ _ _ _ _ _ _ z => z.elim
  induction m with
  | zero =>
    have a := one_both (N := 0) (N2 := 0) (m := 0) F F
    exact ⟨a, text_both (sum_both (term_both a))⟩
  | succ m ih =>
    have a := fun N N2 => one_both (N := N) (N2 := N2) (m := m + 1) ih.1 ih.2
    exact ⟨a _ _, text_both (sum_both (term_both (a _ _)))⟩
theorem cmp5_both : BOTH SP_X4_cmp5 (SP_X12_text5 0) := (parse_both 5).2
