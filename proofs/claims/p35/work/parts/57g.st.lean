/-! the calls step by step: those that touch nothing of it -/
theorem st_0 {v1 : Int32} {u1 : Int32} {v2 : Int32} {u2 : Int32} {M M1 M2 : mM} {r1 r2 : Int32} (h : RXz M.1) (hD : InvD M) (hF1 : FR S_c_X11_thing M M1) (hs1 : SP_X11_thing v1 u1 M r1 M1) (hF2 : FR S_c_X12_thing_ M1 M2) (hs2 : SP_X12_thing_ v2 u2 M1 r2 M2) : RXz M2.1 ∧ True := by
  refine ⟨RXz_t (T := [1]) (fun _ _ => False) h hF1 hF2 (KSP_X12_thing_ hs2) (Or.inl ((hF2 (12, 0, 0) 3 (by simp [S_c_X12_thing_])).trans (hF1 (12, 0, 0) 3 (by simp [S_c_X11_thing])))) (fun _ _ _ _ _ e _ => e.elim) (fun c k d j p _ => ?_), trivial⟩
  unfold PRz at p
  refine ⟨fun q => ?_, fun q => ?_, fun q => ?_, ?_⟩
  · simp only [S_c_X11_thing, or_false] at q; omega
  · simp only [S_c_X11_thing, or_false] at q; omega
  · simp only [S_c_X12_thing_, or_false] at q; omega
  · by_cases hd : d.1 = 50
    · exact Or.inl ⟨hd, by omega, by omega, by omega, by simp <;> omega⟩
    · exact Or.inr (fun q => by simp only [S_c_X12_thing_, or_false] at q; omega)
theorem st_1 {v1 : Int32} {u1 : Int32} {v2 : Int32} {u2 : Int32} {M M1 M2 : mM} {r1 r2 : Int32} (h : RXz M.1) (hD : InvD M) (hF1 : FR S_c_X11_thingIs M M1) (hs1 : SP_X11_thingIs v1 u1 M r1 M1) (hF2 : FR S_c_X12_thingIs M1 M2) (hs2 : SP_X12_thingIs v2 u2 M1 r2 M2) : RXz M2.1 ∧ True := by
  refine ⟨RXz_t (T := []) (fun _ _ => False) h hF1 hF2 (kq_FR hF2 (by intro j q; simp [S_c_X12_thingIs] at q)) (Or.inl ((hF2 (12, 0, 0) 3 (by simp [S_c_X12_thingIs])).trans (hF1 (12, 0, 0) 3 (by simp [S_c_X11_thingIs])))) (fun _ _ _ _ _ e _ => e.elim) (fun c k d j p _ => ?_), trivial⟩
  unfold PRz at p
  refine ⟨fun q => ?_, fun q => ?_, fun q => ?_, ?_⟩
  · simp only [S_c_X11_thingIs, or_false] at q; omega
  · simp only [S_c_X11_thingIs, or_false] at q; omega
  · simp only [S_c_X12_thingIs, or_false] at q; omega
  · by_cases hd : d.1 = 50
    · exact Or.inl ⟨hd, by omega, by omega, by omega, by simp <;> omega⟩
    · exact Or.inr (fun q => by simp only [S_c_X12_thingIs, or_false] at q; omega)
theorem st_2 {v1 : Int32} {u1 : Int32} {t1 : Int32} {v2 : Int32} {u2 : Int32} {t2 : Int32} {M M1 M2 : mM} {r1 r2 : Int32} (h : RXz M.1) (hD : InvD M) (hF1 : FR S_c_X11_moves M M1) (hs1 : SP_X11_moves v1 u1 t1 M r1 M1) (hF2 : FR S_c_X12_moves M1 M2) (hs2 : SP_X12_moves v2 u2 t2 M1 r2 M2) : RXz M2.1 ∧ True := by
  refine ⟨RXz_t (T := []) (fun _ _ => False) h hF1 hF2 (KSP_X12_moves hs2) (Or.inl ((hF2 (12, 0, 0) 3 (by simp [S_c_X12_moves])).trans (hF1 (12, 0, 0) 3 (by simp [S_c_X11_moves])))) (fun _ _ _ _ _ e _ => e.elim) (fun c k d j p _ => ?_), trivial⟩
  unfold PRz at p
  refine ⟨fun q => ?_, fun q => ?_, fun q => ?_, ?_⟩
  · simp only [S_c_X11_moves, or_false] at q; omega
  · simp only [S_c_X11_moves, or_false] at q; omega
  · simp only [S_c_X12_moves, or_false] at q; omega
  · by_cases hd : d.1 = 50
    · exact Or.inl ⟨hd, by omega, by omega, by omega, by simp <;> omega⟩
    · exact Or.inr (fun q => by simp only [S_c_X12_moves, or_false] at q; omega)
theorem st_3 {v1 : Int32} {v2 : Int32} {M M1 M2 : mM} {r1 r2 : Int32} (h : RXz M.1) (hD : InvD M) (hF1 : FR S_c_X11_away M M1) (hs1 : SP_X11_away v1 M r1 M1) (hF2 : FR S_c_X12_away M1 M2) (hs2 : SP_X12_away v2 M1 r2 M2) : RXz M2.1 ∧ True := by
  refine ⟨RXz_t (T := []) (fun _ _ => False) h hF1 hF2 (KSP_X12_away hs2) (Or.inl ((hF2 (12, 0, 0) 3 (by simp [S_c_X12_away])).trans (hF1 (12, 0, 0) 3 (by simp [S_c_X11_away])))) (fun _ _ _ _ _ e _ => e.elim) (fun c k d j p _ => ?_), trivial⟩
  unfold PRz at p
  refine ⟨fun q => ?_, fun q => ?_, fun q => ?_, ?_⟩
  · simp only [S_c_X11_away, or_false] at q; omega
  · simp only [S_c_X11_away, or_false] at q; omega
  · simp only [S_c_X12_away, or_false] at q; omega
  · by_cases hd : d.1 = 50
    · exact Or.inl ⟨hd, by omega, by omega, by omega, by simp <;> omega⟩
    · exact Or.inr (fun q => by simp only [S_c_X12_away, or_false] at q; omega)
theorem st_5 {v1 : Int32} {v2 : Int32} {M M1 M2 : mM} {r1 r2 : Int32} (h : RXz M.1) (hD : InvD M) (hF1 : FR S_c_X11_at M M1) (hs1 : SP_X11_at v1 M r1 M1) (hF2 : FR S_c_X12_at M1 M2) (hs2 : SP_X12_at v2 M1 r2 M2) : RXz M2.1 ∧ True := by
  refine ⟨RXz_t (T := []) (fun _ _ => False) h hF1 hF2 (kq_FR hF2 (by intro j q; simp [S_c_X12_at] at q)) (Or.inl ((hF2 (12, 0, 0) 3 (by simp [S_c_X12_at])).trans (hF1 (12, 0, 0) 3 (by simp [S_c_X11_at])))) (fun _ _ _ _ _ e _ => e.elim) (fun c k d j p _ => ?_), trivial⟩
  unfold PRz at p
  refine ⟨fun q => ?_, fun q => ?_, fun q => ?_, ?_⟩
  · simp only [S_c_X11_at, or_false] at q; omega
  · simp only [S_c_X11_at, or_false] at q; omega
  · simp only [S_c_X12_at, or_false] at q; omega
  · by_cases hd : d.1 = 50
    · exact Or.inl ⟨hd, by omega, by omega, by omega, by simp <;> omega⟩
    · exact Or.inr (fun q => by simp only [S_c_X12_at, or_false] at q; omega)
theorem st_6 {v1 : Int32} {u1 : Int32} {v2 : Int32} {u2 : Int32} {M M1 M2 : mM} {r1 r2 : Int32} (h : RXz M.1) (hD : InvD M) (hF1 : FR S_c_X11_lays M M1) (hs1 : SP_X11_lays v1 u1 M r1 M1) (hF2 : FR S_c_X12_lays M1 M2) (hs2 : SP_X12_lays v2 u2 M1 r2 M2) : RXz M2.1 ∧ True := by
  refine ⟨RXz_t (T := [1]) (fun _ _ => False) h hF1 hF2 (KSP_X12_lays hs2) (Or.inl ((hF2 (12, 0, 0) 3 (by simp [S_c_X12_lays])).trans (hF1 (12, 0, 0) 3 (by simp [S_c_X11_lays])))) (fun _ _ _ _ _ e _ => e.elim) (fun c k d j p _ => ?_), trivial⟩
  unfold PRz at p
  refine ⟨fun q => ?_, fun q => ?_, fun q => ?_, ?_⟩
  · simp only [S_c_X11_lays, or_false] at q; omega
  · simp only [S_c_X11_lays, or_false] at q; omega
  · simp only [S_c_X12_lays, or_false] at q; omega
  · by_cases hd : d.1 = 50
    · exact Or.inl ⟨hd, by omega, by omega, by omega, by simp <;> omega⟩
    · exact Or.inr (fun q => by simp only [S_c_X12_lays, or_false] at q; omega)
theorem st_8 {v1 : Int32} {u1 : Int32} {t1 : Int32} {v2 : Int32} {u2 : Int32} {t2 : Int32} {M M1 M2 : mM} {r1 r2 : Int32} (h : RXz M.1) (hD : InvD M) (hF1 : FR S_c_X11_walker M M1) (hs1 : SP_X11_walker v1 u1 t1 M r1 M1) (hF2 : FR S_c_X12_walker M1 M2) (hs2 : SP_X12_walker v2 u2 t2 M1 r2 M2) : RXz M2.1 ∧ True := by
  refine ⟨RXz_t (T := [2]) (fun _ _ => False) h hF1 hF2 (KSP_X12_walker hs2) (Or.inl ((hF2 (12, 0, 0) 3 (by simp [S_c_X12_walker])).trans (hF1 (12, 0, 0) 3 (by simp [S_c_X11_walker])))) (fun _ _ _ _ _ e _ => e.elim) (fun c k d j p _ => ?_), trivial⟩
  unfold PRz at p
  refine ⟨fun q => ?_, fun q => ?_, fun q => ?_, ?_⟩
  · simp only [S_c_X11_walker, or_false] at q; omega
  · simp only [S_c_X11_walker, or_false] at q; omega
  · simp only [S_c_X12_walker, or_false] at q; omega
  · by_cases hd : d.1 = 50
    · exact Or.inl ⟨hd, by omega, by omega, by omega, by simp <;> omega⟩
    · exact Or.inr (fun q => by simp only [S_c_X12_walker, or_false] at q; omega)
theorem st_9 {v1 : Int32} {u1 : Int32} {v2 : Int32} {u2 : Int32} {M M1 M2 : mM} {r1 r2 : Int32} (h : RXz M.1) (hD : InvD M) (hF1 : FR S_c_X11_walkerIs M M1) (hs1 : SP_X11_walkerIs v1 u1 M r1 M1) (hF2 : FR S_c_X12_walkerIs M1 M2) (hs2 : SP_X12_walkerIs v2 u2 M1 r2 M2) : RXz M2.1 ∧ True := by
  refine ⟨RXz_t (T := []) (fun _ _ => False) h hF1 hF2 (kq_FR hF2 (by intro j q; simp [S_c_X12_walkerIs] at q)) (Or.inl ((hF2 (12, 0, 0) 3 (by simp [S_c_X12_walkerIs])).trans (hF1 (12, 0, 0) 3 (by simp [S_c_X11_walkerIs])))) (fun _ _ _ _ _ e _ => e.elim) (fun c k d j p _ => ?_), trivial⟩
  unfold PRz at p
  refine ⟨fun q => ?_, fun q => ?_, fun q => ?_, ?_⟩
  · simp only [S_c_X11_walkerIs, or_false] at q; omega
  · simp only [S_c_X11_walkerIs, or_false] at q; omega
  · simp only [S_c_X12_walkerIs, or_false] at q; omega
  · by_cases hd : d.1 = 50
    · exact Or.inl ⟨hd, by omega, by omega, by omega, by simp <;> omega⟩
    · exact Or.inr (fun q => by simp only [S_c_X12_walkerIs, or_false] at q; omega)
theorem st_10 {v1 : Int32} {u1 : Int32} {v2 : Int32} {u2 : Int32} {M M1 M2 : mM} {r1 r2 : Int32} (h : RXz M.1) (hD : InvD M) (hF1 : FR S_c_X11_as M M1) (hs1 : SP_X11_as v1 u1 M r1 M1) (hF2 : FR S_c_X12_as M1 M2) (hs2 : SP_X12_as v2 u2 M1 r2 M2) : RXz M2.1 ∧ True := by
  refine ⟨RXz_t (T := []) (fun _ _ => False) h hF1 hF2 (kq_FR hF2 (by intro j q; simp [S_c_X12_as] at q)) (Or.inl ((hF2 (12, 0, 0) 3 (by simp [S_c_X12_as])).trans (hF1 (12, 0, 0) 3 (by simp [S_c_X11_as])))) (fun _ _ _ _ _ e _ => e.elim) (fun c k d j p _ => ?_), trivial⟩
  unfold PRz at p
  refine ⟨fun q => ?_, fun q => ?_, fun q => ?_, ?_⟩
  · simp only [S_c_X11_as, or_false] at q; omega
  · simp only [S_c_X11_as, or_false] at q; omega
  · simp only [S_c_X12_as, or_false] at q; omega
  · by_cases hd : d.1 = 50
    · exact Or.inl ⟨hd, by omega, by omega, by omega, by simp <;> omega⟩
    · exact Or.inr (fun q => by simp only [S_c_X12_as, or_false] at q; omega)
theorem st_11 {v1 : Int32} {u1 : Int32} {t1 : Int32} {s1 : Int32} {v2 : Int32} {u2 : Int32} {t2 : Int32} {s2 : Int32} {M M1 M2 : mM} {r1 r2 : Int32} (h : RXz M.1) (hD : InvD M) (hF1 : FR S_c_X11_habit M M1) (hs1 : SP_X11_habit v1 u1 t1 s1 M r1 M1) (hF2 : FR S_c_X12_habit M1 M2) (hs2 : SP_X12_habit v2 u2 t2 s2 M1 r2 M2) : RXz M2.1 ∧ True := by
  refine ⟨RXz_t (T := []) (fun _ _ => False) h hF1 hF2 (KSP_X12_habit hs2) (Or.inl ((hF2 (12, 0, 0) 3 (by simp [S_c_X12_habit])).trans (hF1 (12, 0, 0) 3 (by simp [S_c_X11_habit])))) (fun _ _ _ _ _ e _ => e.elim) (fun c k d j p _ => ?_), trivial⟩
  unfold PRz at p
  refine ⟨fun q => ?_, fun q => ?_, fun q => ?_, ?_⟩
  · simp only [S_c_X11_habit, or_false] at q; omega
  · simp only [S_c_X11_habit, or_false] at q; omega
  · simp only [S_c_X12_habit, or_false] at q; omega
  · by_cases hd : d.1 = 50
    · exact Or.inl ⟨hd, by omega, by omega, by omega, by simp <;> omega⟩
    · exact Or.inr (fun q => by simp only [S_c_X12_habit, or_false] at q; omega)
theorem st_12 {v1 : Int32} {u1 : Int32} {v2 : Int32} {u2 : Int32} {M M1 M2 : mM} {r1 r2 : Int32} (h : RXz M.1) (hD : InvD M) (hF1 : FR S_c_X11_face M M1) (hs1 : SP_X11_face v1 u1 M r1 M1) (hF2 : FR S_c_X12_face M1 M2) (hs2 : SP_X12_face v2 u2 M1 r2 M2) : RXz M2.1 ∧ True := by
  refine ⟨RXz_t (T := []) (fun _ _ => False) h hF1 hF2 (KSP_X12_face hs2) (Or.inl ((hF2 (12, 0, 0) 3 (by simp [S_c_X12_face])).trans (hF1 (12, 0, 0) 3 (by simp [S_c_X11_face])))) (fun _ _ _ _ _ e _ => e.elim) (fun c k d j p _ => ?_), trivial⟩
  unfold PRz at p
  refine ⟨fun q => ?_, fun q => ?_, fun q => ?_, ?_⟩
  · simp only [S_c_X11_face, or_false] at q; omega
  · simp only [S_c_X11_face, or_false] at q; omega
  · simp only [S_c_X12_face, or_false] at q; omega
  · by_cases hd : d.1 = 50
    · exact Or.inl ⟨hd, by omega, by omega, by omega, by simp <;> omega⟩
    · exact Or.inr (fun q => by simp only [S_c_X12_face, or_false] at q; omega)
theorem st_13 {v1 : Int32} {u1 : Int32} {v2 : Int32} {u2 : Int32} {M M1 M2 : mM} {r1 r2 : Int32} (h : RXz M.1) (hD : InvD M) (hF1 : FR S_c_X11_goes M M1) (hs1 : SP_X11_goes v1 u1 M r1 M1) (hF2 : FR S_c_X12_goes M1 M2) (hs2 : SP_X12_goes v2 u2 M1 r2 M2) : RXz M2.1 ∧ True := by
  refine ⟨RXz_t (T := []) (fun _ _ => False) h hF1 hF2 (KSP_X12_goes hs2) (Or.inl ((hF2 (12, 0, 0) 3 (by simp [S_c_X12_goes])).trans (hF1 (12, 0, 0) 3 (by simp [S_c_X11_goes])))) (fun _ _ _ _ _ e _ => e.elim) (fun c k d j p _ => ?_), trivial⟩
  unfold PRz at p
  refine ⟨fun q => ?_, fun q => ?_, fun q => ?_, ?_⟩
  · simp only [S_c_X11_goes, or_false] at q; omega
  · simp only [S_c_X11_goes, or_false] at q; omega
  · simp only [S_c_X12_goes, or_false] at q; omega
  · by_cases hd : d.1 = 50
    · exact Or.inl ⟨hd, by omega, by omega, by omega, by simp <;> omega⟩
    · exact Or.inr (fun q => by simp only [S_c_X12_goes, or_false] at q; omega)
theorem st_16 {v1 : Int32} {u1 : Int32} {t1 : Int32} {s1 : Int32} {v2 : Int32} {u2 : Int32} {t2 : Int32} {s2 : Int32} {M M1 M2 : mM} {r1 r2 : Int32} (h : RXz M.1) (hD : InvD M) (hF1 : FR S_c_X11_echo M M1) (hs1 : SP_X11_echo v1 u1 t1 s1 M r1 M1) (hF2 : FR S_c_X12_echo M1 M2) (hs2 : SP_X12_echo v2 u2 t2 s2 M1 r2 M2) : RXz M2.1 ∧ True := by
  refine ⟨RXz_t (T := []) (fun _ _ => False) h hF1 hF2 (kq_FR hF2 (by intro j q; simp [S_c_X12_echo] at q)) (Or.inl ((hF2 (12, 0, 0) 3 (by simp [S_c_X12_echo])).trans (hF1 (12, 0, 0) 3 (by simp [S_c_X11_echo])))) (fun _ _ _ _ _ e _ => e.elim) (fun c k d j p _ => ?_), trivial⟩
  unfold PRz at p
  refine ⟨fun q => ?_, fun q => ?_, fun q => ?_, ?_⟩
  · simp only [S_c_X11_echo, or_false] at q; omega
  · simp only [S_c_X11_echo, or_false] at q; omega
  · simp only [S_c_X12_echo, or_false] at q; omega
  · by_cases hd : d.1 = 50
    · exact Or.inl ⟨hd, by omega, by omega, by omega, by simp <;> omega⟩
    · exact Or.inr (fun q => by simp only [S_c_X12_echo, or_false] at q; omega)
theorem st_17 {v1 : Int32} {v2 : Int32} {M M1 M2 : mM} {r1 r2 : Int32} (h : RXz M.1) (hD : InvD M) (hF1 : FR S_c_X11_click M M1) (hs1 : SP_X11_click v1 M r1 M1) (hF2 : FR S_c_X12_click M1 M2) (hs2 : SP_X12_click v2 M1 r2 M2) : RXz M2.1 ∧ True := by
  refine ⟨RXz_t (T := []) (fun _ _ => False) h hF1 hF2 (KSP_X12_click hs2) (Or.inl ((hF2 (12, 0, 0) 3 (by simp [S_c_X12_click])).trans (hF1 (12, 0, 0) 3 (by simp [S_c_X11_click])))) (fun _ _ _ _ _ e _ => e.elim) (fun c k d j p _ => ?_), trivial⟩
  unfold PRz at p
  refine ⟨fun q => ?_, fun q => ?_, fun q => ?_, ?_⟩
  · simp only [S_c_X11_click, or_false] at q; omega
  · simp only [S_c_X11_click, or_false] at q; omega
  · simp only [S_c_X12_click, or_false] at q; omega
  · by_cases hd : d.1 = 50
    · exact Or.inl ⟨hd, by omega, by omega, by omega, by simp <;> omega⟩
    · exact Or.inr (fun q => by simp only [S_c_X12_click, or_false] at q; omega)
theorem st_18 {v1 : Int32} {u1 : Int32} {t1 : Int32} {v2 : Int32} {u2 : Int32} {t2 : Int32} {M M1 M2 : mM} {r1 r2 : Int32} (h : RXz M.1) (hD : InvD M) (hF1 : FR S_c_X11_head M M1) (hs1 : SP_X11_head v1 u1 t1 M r1 M1) (hF2 : FR S_c_X12_head M1 M2) (hs2 : SP_X12_head v2 u2 t2 M1 r2 M2) : RXz M2.1 ∧ True := by
  refine ⟨RXz_t (T := []) (fun _ _ => False) h hF1 hF2 (kq_FR hF2 (by intro j q; simp [S_c_X12_head] at q)) (Or.inl ((hF2 (12, 0, 0) 3 (by simp [S_c_X12_head])).trans (hF1 (12, 0, 0) 3 (by simp [S_c_X11_head])))) (fun _ _ _ _ _ e _ => e.elim) (fun c k d j p _ => ?_), trivial⟩
  unfold PRz at p
  refine ⟨fun q => ?_, fun q => ?_, fun q => ?_, ?_⟩
  · simp only [S_c_X11_head, or_false] at q; omega
  · simp only [S_c_X11_head, or_false] at q; omega
  · simp only [S_c_X12_head, or_false] at q; omega
  · by_cases hd : d.1 = 50
    · exact Or.inl ⟨hd, by omega, by omega, by omega, by simp <;> omega⟩
    · exact Or.inr (fun q => by simp only [S_c_X12_head, or_false] at q; omega)
theorem st_19 {v1 : Int32} {u1 : Int32} {v2 : Int32} {u2 : Int32} {M M1 M2 : mM} {r1 r2 : Int32} (h : RXz M.1) (hD : InvD M) (hF1 : FR S_c_X11_heads M M1) (hs1 : SP_X11_heads v1 u1 M r1 M1) (hF2 : FR S_c_X12_heads M1 M2) (hs2 : SP_X12_heads v2 u2 M1 r2 M2) : RXz M2.1 ∧ True := by
  refine ⟨RXz_t (T := []) (fun _ _ => False) h hF1 hF2 (kq_FR hF2 (by intro j q; simp [S_c_X12_heads] at q)) (Or.inl ((hF2 (12, 0, 0) 3 (by simp [S_c_X12_heads])).trans (hF1 (12, 0, 0) 3 (by simp [S_c_X11_heads])))) (fun _ _ _ _ _ e _ => e.elim) (fun c k d j p _ => ?_), trivial⟩
  unfold PRz at p
  refine ⟨fun q => ?_, fun q => ?_, fun q => ?_, ?_⟩
  · simp only [S_c_X11_heads, or_false] at q; omega
  · simp only [S_c_X11_heads, or_false] at q; omega
  · simp only [S_c_X12_heads, or_false] at q; omega
  · by_cases hd : d.1 = 50
    · exact Or.inl ⟨hd, by omega, by omega, by omega, by simp <;> omega⟩
    · exact Or.inr (fun q => by simp only [S_c_X12_heads, or_false] at q; omega)
theorem st_20 {v1 : Int32} {u1 : Int32} {t1 : Int32} {s1 : Int32} {q1 : Int32} {v2 : Int32} {u2 : Int32} {t2 : Int32} {s2 : Int32} {q2 : Int32} {M M1 M2 : mM} {r1 r2 : Int32} (h : RXz M.1) (hD : InvD M) (hF1 : FR S_c_X11_alike M M1) (hs1 : SP_X11_alike v1 u1 t1 s1 q1 M r1 M1) (hF2 : FR S_c_X12_alike M1 M2) (hs2 : SP_X12_alike v2 u2 t2 s2 q2 M1 r2 M2) : RXz M2.1 ∧ True := by
  refine ⟨RXz_t (T := []) (fun _ _ => False) h hF1 hF2 (kq_FR hF2 (by intro j q; simp [S_c_X12_alike] at q)) (Or.inl ((hF2 (12, 0, 0) 3 (by simp [S_c_X12_alike])).trans (hF1 (12, 0, 0) 3 (by simp [S_c_X11_alike])))) (fun _ _ _ _ _ e _ => e.elim) (fun c k d j p _ => ?_), trivial⟩
  unfold PRz at p
  refine ⟨fun q => ?_, fun q => ?_, fun q => ?_, ?_⟩
  · simp only [S_c_X11_alike, or_false] at q; omega
  · simp only [S_c_X11_alike, or_false] at q; omega
  · simp only [S_c_X12_alike, or_false] at q; omega
  · by_cases hd : d.1 = 50
    · exact Or.inl ⟨hd, by omega, by omega, by omega, by simp <;> omega⟩
    · exact Or.inr (fun q => by simp only [S_c_X12_alike, or_false] at q; omega)
theorem st_21 {v1 : Int32} {u1 : Int32} {t1 : Int32} {s1 : Int32} {v2 : Int32} {u2 : Int32} {t2 : Int32} {s2 : Int32} {M M1 M2 : mM} {r1 r2 : Int32} (h : RXz M.1) (hD : InvD M) (hF1 : FR S_c_X11_least M M1) (hs1 : SP_X11_least v1 u1 t1 s1 M r1 M1) (hF2 : FR S_c_X12_least M1 M2) (hs2 : SP_X12_least v2 u2 t2 s2 M1 r2 M2) : RXz M2.1 ∧ True := by
  refine ⟨RXz_t (T := []) (fun _ _ => False) h hF1 hF2 (kq_FR hF2 (by intro j q; simp [S_c_X12_least] at q)) (Or.inl ((hF2 (12, 0, 0) 3 (by simp [S_c_X12_least])).trans (hF1 (12, 0, 0) 3 (by simp [S_c_X11_least])))) (fun _ _ _ _ _ e _ => e.elim) (fun c k d j p _ => ?_), trivial⟩
  unfold PRz at p
  refine ⟨fun q => ?_, fun q => ?_, fun q => ?_, ?_⟩
  · simp only [S_c_X11_least, or_false] at q; omega
  · simp only [S_c_X11_least, or_false] at q; omega
  · simp only [S_c_X12_least, or_false] at q; omega
  · by_cases hd : d.1 = 50
    · exact Or.inl ⟨hd, by omega, by omega, by omega, by simp <;> omega⟩
    · exact Or.inr (fun q => by simp only [S_c_X12_least, or_false] at q; omega)
theorem st_22 {v1 : Int32} {u1 : Int32} {t1 : Int32} {v2 : Int32} {u2 : Int32} {t2 : Int32} {M M1 M2 : mM} {r1 r2 : Int32} (h : RXz M.1) (hD : InvD M) (hF1 : FR S_c_X11_farthest M M1) (hs1 : SP_X11_farthest v1 u1 t1 M r1 M1) (hF2 : FR S_c_X12_farthest M1 M2) (hs2 : SP_X12_farthest v2 u2 t2 M1 r2 M2) : RXz M2.1 ∧ True := by
  refine ⟨RXz_t (T := []) (fun _ _ => False) h hF1 hF2 (kq_FR hF2 (by intro j q; simp [S_c_X12_farthest] at q)) (Or.inl ((hF2 (12, 0, 0) 3 (by simp [S_c_X12_farthest])).trans (hF1 (12, 0, 0) 3 (by simp [S_c_X11_farthest])))) (fun _ _ _ _ _ e _ => e.elim) (fun c k d j p _ => ?_), trivial⟩
  unfold PRz at p
  refine ⟨fun q => ?_, fun q => ?_, fun q => ?_, ?_⟩
  · simp only [S_c_X11_farthest, or_false] at q; omega
  · simp only [S_c_X11_farthest, or_false] at q; omega
  · simp only [S_c_X12_farthest, or_false] at q; omega
  · by_cases hd : d.1 = 50
    · exact Or.inl ⟨hd, by omega, by omega, by omega, by simp <;> omega⟩
    · exact Or.inr (fun q => by simp only [S_c_X12_farthest, or_false] at q; omega)
theorem st_23 {v1 : Int32} {u1 : Int32} {t1 : Int32} {s1 : Int32} {v2 : Int32} {u2 : Int32} {t2 : Int32} {s2 : Int32} {M M1 M2 : mM} {r1 r2 : Int32} (h : RXz M.1) (hD : InvD M) (hF1 : FR S_c_X11_spots M M1) (hs1 : SP_X11_spots v1 u1 t1 s1 M r1 M1) (hF2 : FR S_c_X12_spots M1 M2) (hs2 : SP_X12_spots v2 u2 t2 s2 M1 r2 M2) : RXz M2.1 ∧ True := by
  refine ⟨RXz_t (T := []) (fun _ _ => False) h hF1 hF2 (kq_FR hF2 (by intro j q; simp [S_c_X12_spots] at q)) (Or.inl ((hF2 (12, 0, 0) 3 (by simp [S_c_X12_spots])).trans (hF1 (12, 0, 0) 3 (by simp [S_c_X11_spots])))) (fun _ _ _ _ _ e _ => e.elim) (fun c k d j p _ => ?_), trivial⟩
  unfold PRz at p
  refine ⟨fun q => ?_, fun q => ?_, fun q => ?_, ?_⟩
  · simp only [S_c_X11_spots, or_false] at q; omega
  · simp only [S_c_X11_spots, or_false] at q; omega
  · simp only [S_c_X12_spots, or_false] at q; omega
  · by_cases hd : d.1 = 50
    · exact Or.inl ⟨hd, by omega, by omega, by omega, by simp <;> omega⟩
    · exact Or.inr (fun q => by simp only [S_c_X12_spots, or_false] at q; omega)
theorem st_25 {v1 : Int32} {u1 : Int32} {t1 : Int32} {v2 : Int32} {u2 : Int32} {t2 : Int32} {M M1 M2 : mM} {r1 r2 : Int32} (h : RXz M.1) (hD : InvD M) (hF1 : FR S_c_X11_way M M1) (hs1 : SP_X11_way v1 u1 t1 M r1 M1) (hF2 : FR S_c_X12_way M1 M2) (hs2 : SP_X12_way v2 u2 t2 M1 r2 M2) : RXz M2.1 ∧ True := by
  refine ⟨RXz_t (T := []) (fun _ _ => False) h hF1 hF2 (kq_FR hF2 (by intro j q; simp [S_c_X12_way] at q)) (Or.inl ((hF2 (12, 0, 0) 3 (by simp [S_c_X12_way])).trans (hF1 (12, 0, 0) 3 (by simp [S_c_X11_way])))) (fun _ _ _ _ _ e _ => e.elim) (fun c k d j p _ => ?_), trivial⟩
  unfold PRz at p
  refine ⟨fun q => ?_, fun q => ?_, fun q => ?_, ?_⟩
  · simp only [S_c_X11_way, or_false] at q; omega
  · simp only [S_c_X11_way, or_false] at q; omega
  · simp only [S_c_X12_way, or_false] at q; omega
  · by_cases hd : d.1 = 50
    · exact Or.inl ⟨hd, by omega, by omega, by omega, by simp <;> omega⟩
    · exact Or.inr (fun q => by simp only [S_c_X12_way, or_false] at q; omega)
theorem st_26 {v1 : Int32} {v2 : Int32} {M M1 M2 : mM} {r1 r2 : Int32} (h : RXz M.1) (hD : InvD M) (hF1 : FR S_c_X11_safe M M1) (hs1 : SP_X11_safe v1 M r1 M1) (hF2 : FR S_c_X12_safe M1 M2) (hs2 : SP_X12_safe v2 M1 r2 M2) : RXz M2.1 ∧ True := by
  refine ⟨RXz_t (T := []) (fun _ _ => False) h hF1 hF2 (kq_FR hF2 (by intro j q; simp [S_c_X12_safe] at q)) (Or.inl ((hF2 (12, 0, 0) 3 (by simp [S_c_X12_safe])).trans (hF1 (12, 0, 0) 3 (by simp [S_c_X11_safe])))) (fun _ _ _ _ _ e _ => e.elim) (fun c k d j p _ => ?_), trivial⟩
  unfold PRz at p
  refine ⟨fun q => ?_, fun q => ?_, fun q => ?_, ?_⟩
  · simp only [S_c_X11_safe, or_false] at q; omega
  · simp only [S_c_X11_safe, or_false] at q; omega
  · simp only [S_c_X12_safe, or_false] at q; omega
  · by_cases hd : d.1 = 50
    · exact Or.inl ⟨hd, by omega, by omega, by omega, by simp <;> omega⟩
    · exact Or.inr (fun q => by simp only [S_c_X12_safe, or_false] at q; omega)
theorem st_28 {v1 : Int32} {u1 : Int32} {t1 : Int32} {v2 : Int32} {u2 : Int32} {t2 : Int32} {M M1 M2 : mM} {r1 r2 : Int32} (h : RXz M.1) (hD : InvD M) (hF1 : FR S_c_X11_learn M M1) (hs1 : SP_X11_learn v1 u1 t1 M r1 M1) (hF2 : FR S_c_X12_learn M1 M2) (hs2 : SP_X12_learn v2 u2 t2 M1 r2 M2) : RXz M2.1 ∧ True := by
  refine ⟨RXz_t (T := []) (fun _ _ => False) h hF1 hF2 (kq_FR hF2 (by intro j q; simp [S_c_X12_learn] at q)) (Or.inl ((hF2 (12, 0, 0) 3 (by simp [S_c_X12_learn])).trans (hF1 (12, 0, 0) 3 (by simp [S_c_X11_learn])))) (fun _ _ _ _ _ e _ => e.elim) (fun c k d j p _ => ?_), trivial⟩
  unfold PRz at p
  refine ⟨fun q => ?_, fun q => ?_, fun q => ?_, ?_⟩
  · simp only [S_c_X11_learn, or_false] at q; omega
  · simp only [S_c_X11_learn, or_false] at q; omega
  · simp only [S_c_X12_learn, or_false] at q; omega
  · by_cases hd : d.1 = 50
    · exact Or.inl ⟨hd, by omega, by omega, by omega, by simp <;> omega⟩
    · exact Or.inr (fun q => by simp only [S_c_X12_learn, or_false] at q; omega)
theorem st_29 {v1 : Int32} {u1 : Int32} {t1 : Int32} {s1 : Int32} {v2 : Int32} {u2 : Int32} {t2 : Int32} {s2 : Int32} {M M1 M2 : mM} {r1 r2 : Int32} (h : RXz M.1) (hD : InvD M) (hF1 : FR S_c_X11_posts M M1) (hs1 : SP_X11_posts v1 u1 t1 s1 M r1 M1) (hF2 : FR S_c_X12_posts M1 M2) (hs2 : SP_X12_posts v2 u2 t2 s2 M1 r2 M2) : RXz M2.1 ∧ True := by
  refine ⟨RXz_t (T := []) (fun _ _ => False) h hF1 hF2 (kq_FR hF2 (by intro j q; simp [S_c_X12_posts] at q)) (Or.inl ((hF2 (12, 0, 0) 3 (by simp [S_c_X12_posts])).trans (hF1 (12, 0, 0) 3 (by simp [S_c_X11_posts])))) (fun _ _ _ _ _ e _ => e.elim) (fun c k d j p _ => ?_), trivial⟩
  unfold PRz at p
  refine ⟨fun q => ?_, fun q => ?_, fun q => ?_, ?_⟩
  · simp only [S_c_X11_posts, or_false] at q; omega
  · simp only [S_c_X11_posts, or_false] at q; omega
  · simp only [S_c_X12_posts, or_false] at q; omega
  · by_cases hd : d.1 = 50
    · exact Or.inl ⟨hd, by omega, by omega, by omega, by simp <;> omega⟩
    · exact Or.inr (fun q => by simp only [S_c_X12_posts, or_false] at q; omega)
theorem st_30 {v1 : Int32} {u1 : Int32} {t1 : Int32} {v2 : Int32} {u2 : Int32} {t2 : Int32} {M M1 M2 : mM} {r1 r2 : Int32} (h : RXz M.1) (hD : InvD M) (hF1 : FR S_c_X11_voice M M1) (hs1 : SP_X11_voice v1 u1 t1 M r1 M1) (hF2 : FR S_c_X12_voice M1 M2) (hs2 : SP_X12_voice v2 u2 t2 M1 r2 M2) : RXz M2.1 ∧ True := by
  refine ⟨RXz_t (T := []) (fun _ _ => False) h hF1 hF2 (kq_FR hF2 (by intro j q; simp [S_c_X12_voice] at q)) (Or.inl ((hF2 (12, 0, 0) 3 (by simp [S_c_X12_voice])).trans (hF1 (12, 0, 0) 3 (by simp [S_c_X11_voice])))) (fun _ _ _ _ _ e _ => e.elim) (fun c k d j p _ => ?_), trivial⟩
  unfold PRz at p
  refine ⟨fun q => ?_, fun q => ?_, fun q => ?_, ?_⟩
  · simp only [S_c_X11_voice, or_false] at q; omega
  · simp only [S_c_X11_voice, or_false] at q; omega
  · simp only [S_c_X12_voice, or_false] at q; omega
  · by_cases hd : d.1 = 50
    · exact Or.inl ⟨hd, by omega, by omega, by omega, by simp <;> omega⟩
    · exact Or.inr (fun q => by simp only [S_c_X12_voice, or_false] at q; omega)
theorem st_31 {v1 : Int32} {v2 : Int32} {M M1 M2 : mM} {r1 r2 : Int32} (h : RXz M.1) (hD : InvD M) (hF1 : FR S_c_X11_trace M M1) (hs1 : SP_X11_trace v1 M r1 M1) (hF2 : FR S_c_X12_trace M1 M2) (hs2 : SP_X12_trace v2 M1 r2 M2) : RXz M2.1 ∧ True := by
  refine ⟨RXz_t (T := []) (fun _ _ => False) h hF1 hF2 (kq_FR hF2 (by intro j q; simp [S_c_X12_trace] at q)) (Or.inl ((hF2 (12, 0, 0) 3 (by simp [S_c_X12_trace])).trans (hF1 (12, 0, 0) 3 (by simp [S_c_X11_trace])))) (fun _ _ _ _ _ e _ => e.elim) (fun c k d j p _ => ?_), trivial⟩
  unfold PRz at p
  refine ⟨fun q => ?_, fun q => ?_, fun q => ?_, ?_⟩
  · simp only [S_c_X11_trace, or_false] at q; omega
  · simp only [S_c_X11_trace, or_false] at q; omega
  · simp only [S_c_X12_trace, or_false] at q; omega
  · by_cases hd : d.1 = 50
    · exact Or.inl ⟨hd, by omega, by omega, by omega, by simp <;> omega⟩
    · exact Or.inr (fun q => by simp only [S_c_X12_trace, or_false] at q; omega)
theorem st_39 {v1 : Int32} {v2 : Int32} {M M1 M2 : mM} {r1 r2 : Int32} (h : RXz M.1) (hD : InvD M) (hF1 : FR S_c_X11_count M M1) (hs1 : SP_X11_count v1 M r1 M1) (hF2 : FR S_c_X12_count M1 M2) (hs2 : SP_X12_count v2 M1 r2 M2) : RXz M2.1 ∧ True := by
  refine ⟨RXz_t (T := []) (fun _ _ => False) h hF1 hF2 (kq_FR hF2 (by intro j q; simp [S_c_X12_count] at q)) (Or.inl ((hF2 (12, 0, 0) 3 (by simp [S_c_X12_count])).trans (hF1 (12, 0, 0) 3 (by simp [S_c_X11_count])))) (fun _ _ _ _ _ e _ => e.elim) (fun c k d j p _ => ?_), trivial⟩
  unfold PRz at p
  refine ⟨fun q => ?_, fun q => ?_, fun q => ?_, ?_⟩
  · simp only [S_c_X11_count, or_false] at q; omega
  · simp only [S_c_X11_count, or_false] at q; omega
  · simp only [S_c_X12_count, or_false] at q; omega
  · by_cases hd : d.1 = 50
    · exact Or.inl ⟨hd, by omega, by omega, by omega, by simp <;> omega⟩
    · exact Or.inr (fun q => by simp only [S_c_X12_count, or_false] at q; omega)
theorem st_40 {v1 : Int32} {v2 : Int32} {M M1 M2 : mM} {r1 r2 : Int32} (h : RXz M.1) (hD : InvD M) (hF1 : FR S_c_X11_told M M1) (hs1 : SP_X11_told v1 M r1 M1) (hF2 : FR S_c_X12_told M1 M2) (hs2 : SP_X12_told v2 M1 r2 M2) : RXz M2.1 ∧ True := by
  refine ⟨RXz_t (T := []) (fun _ _ => False) h hF1 hF2 (kq_FR hF2 (by intro j q; simp [S_c_X12_told] at q)) (Or.inl ((hF2 (12, 0, 0) 3 (by simp [S_c_X12_told])).trans (hF1 (12, 0, 0) 3 (by simp [S_c_X11_told])))) (fun _ _ _ _ _ e _ => e.elim) (fun c k d j p _ => ?_), trivial⟩
  unfold PRz at p
  refine ⟨fun q => ?_, fun q => ?_, fun q => ?_, ?_⟩
  · simp only [S_c_X11_told, or_false] at q; omega
  · simp only [S_c_X11_told, or_false] at q; omega
  · simp only [S_c_X12_told, or_false] at q; omega
  · by_cases hd : d.1 = 50
    · exact Or.inl ⟨hd, by omega, by omega, by omega, by simp <;> omega⟩
    · exact Or.inr (fun q => by simp only [S_c_X12_told, or_false] at q; omega)
