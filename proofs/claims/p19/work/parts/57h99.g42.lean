/-! the calls step by step, the full relation -/
theorem sy_0 {v : Int32} {u : Int32} {M M1 M2 : mM} {r1 r2 : Int32} (h : RY M.1) (hD0 : InvD M) (hD : InvD M1) (hD2 : InvD M2) (hF1 : FR S_c_X11_thing M M1) (hs1 : SP_X11_thing v u M r1 M1) (hF2 : FR S_c_X12_thing_ M1 M2) (hs2 : SP_X12_thing_ v u M1 r2 M2) : RY M2.1 ∧ r1 = r2 := by
  have hx := (st_0 h.1 hD0 hF1 hs1 hF2 hs2).1
  have s1 : cC S_c_X11_thing := fun c k q => by simp only [S_c_X11_thing, or_false] at q; omega
  have s2 : cD S_c_X12_thing_ := fun c k q => by simp only [S_c_X12_thing_, or_false] at q; omega
  have c1 : ∀ (c : rf) (k : Nat), c.1 = 12 ∨ 50 ≤ c.1 → M1.1 c k = M.1 c k := fun c k a => hF1 c k (fun q => s1 c k q a)
  have c2 : ∀ (c : rf) (k : Nat), ¬ (c.1 = 12 ∨ 50 ≤ c.1) → M2.1 c k = M1.1 c k := fun c k a => hF2 c k (fun q => a (s2 c k q))
  have e50 : M1.1 (50, 0, 0) = M.1 (50, 0, 0) := funext fun k => c1 _ _ (by simp)
  have hR : RW 0 M.1 (M1.1 (50, 0, 0)) := by rw [e50]; exact h.2.2.1
  have hu : (M1.1 (12, 0, 0) 7).toInt = -1 := by rw [c1 _ _ (by simp)]; exact h.2.1
  have h7 : (M2.1 (12, 0, 0) 7).toInt = -1 := by rw [hF2 (12, 0, 0) 7 (fun q => by simp only [S_c_X12_thing_, or_false] at q; omega)]; exact hu
  have B := cb_0 hs1 hs2 hR hD hu
  exact ⟨RY_of h hF1 hF2 s1 s2 hx hD2.2.1 hD2.2.2.1 h7 B.1 (Or.inl ⟨hF2 _ _ (fun q => by simp only [S_c_X12_thing_, or_false] at q; omega), fun c k a b q => by unfold wR at a; simp only [S_c_X11_thing, or_false] at q; omega, fun k q => by simp only [S_c_X12_thing_, or_false] at q; omega⟩) (SHR_keep h.2.2.2.2 (fun c k a => hF1 c k (fun q => by simp only [S_c_X11_thing, or_false] at q; omega)) (fun c k a => by rw [hF2 c k (fun q => by simp only [S_c_X12_thing_, or_false] at q; omega), c1 c k (by omega)])), B.2⟩
theorem sy_1 {v : Int32} {u : Int32} {M M1 M2 : mM} {r1 r2 : Int32} (h : RY M.1) (hD0 : InvD M) (hD : InvD M1) (hD2 : InvD M2) (hF1 : FR S_c_X11_thingIs M M1) (hs1 : SP_X11_thingIs v u M r1 M1) (hF2 : FR S_c_X12_thingIs M1 M2) (hs2 : SP_X12_thingIs v u M1 r2 M2) : RY M2.1 ∧ True := by
  have hx := (st_1 h.1 hD0 hF1 hs1 hF2 hs2).1
  have s1 : cC S_c_X11_thingIs := fun c k q => by simp only [S_c_X11_thingIs, or_false] at q; omega
  have s2 : cD S_c_X12_thingIs := fun c k q => by simp only [S_c_X12_thingIs, or_false] at q; omega
  have c1 : ∀ (c : rf) (k : Nat), c.1 = 12 ∨ 50 ≤ c.1 → M1.1 c k = M.1 c k := fun c k a => hF1 c k (fun q => s1 c k q a)
  have c2 : ∀ (c : rf) (k : Nat), ¬ (c.1 = 12 ∨ 50 ≤ c.1) → M2.1 c k = M1.1 c k := fun c k a => hF2 c k (fun q => a (s2 c k q))
  have e50 : M1.1 (50, 0, 0) = M.1 (50, 0, 0) := funext fun k => c1 _ _ (by simp)
  have hR : RW 0 M.1 (M1.1 (50, 0, 0)) := by rw [e50]; exact h.2.2.1
  have hu : (M1.1 (12, 0, 0) 7).toInt = -1 := by rw [c1 _ _ (by simp)]; exact h.2.1
  have h7 : (M2.1 (12, 0, 0) 7).toInt = -1 := by rw [hF2 (12, 0, 0) 7 (fun q => by simp only [S_c_X12_thingIs, or_false] at q; omega)]; exact hu
  exact ⟨RY_fr h hF1 hF2 s1 s2 hx hD2.2.1 hD2.2.2.1 (fun c k a b q => by unfold wR at a; simp only [S_c_X11_thingIs, or_false] at q; omega) (fun c k a q => by rcases a with rfl | rfl | ⟨rfl, rfl⟩ | a | a | a <;> (simp only [S_c_X12_thingIs, or_false] at q <;> omega)) (fun c k a q => by simp only [S_c_X11_thingIs, or_false] at q; omega) h7, trivial⟩
theorem sy_2 {v : Int32} {u : Int32} {t : Int32} {M M1 M2 : mM} {r1 r2 : Int32} (h : RY M.1) (hD0 : InvD M) (hD : InvD M1) (hD2 : InvD M2) (hF1 : FR S_c_X11_moves M M1) (hs1 : SP_X11_moves v u t M r1 M1) (hF2 : FR S_c_X12_moves M1 M2) (hs2 : SP_X12_moves v u t M1 r2 M2) : RY M2.1 ∧ r1 = r2 := by
  have hx := (st_2 h.1 hD0 hF1 hs1 hF2 hs2).1
  have s1 : cC S_c_X11_moves := fun c k q => by simp only [S_c_X11_moves, or_false] at q; omega
  have s2 : cD S_c_X12_moves := fun c k q => by simp only [S_c_X12_moves, or_false] at q; omega
  have c1 : ∀ (c : rf) (k : Nat), c.1 = 12 ∨ 50 ≤ c.1 → M1.1 c k = M.1 c k := fun c k a => hF1 c k (fun q => s1 c k q a)
  have c2 : ∀ (c : rf) (k : Nat), ¬ (c.1 = 12 ∨ 50 ≤ c.1) → M2.1 c k = M1.1 c k := fun c k a => hF2 c k (fun q => a (s2 c k q))
  have e50 : M1.1 (50, 0, 0) = M.1 (50, 0, 0) := funext fun k => c1 _ _ (by simp)
  have hR : RW 0 M.1 (M1.1 (50, 0, 0)) := by rw [e50]; exact h.2.2.1
  have hu : (M1.1 (12, 0, 0) 7).toInt = -1 := by rw [c1 _ _ (by simp)]; exact h.2.1
  have h7 : (M2.1 (12, 0, 0) 7).toInt = -1 := by rw [hF2 (12, 0, 0) 7 (fun q => by simp only [S_c_X12_moves, or_false] at q; omega)]; exact hu
  have B := cb_2 hs1 hs2 hR hD hu
  exact ⟨RY_of h hF1 hF2 s1 s2 hx hD2.2.1 hD2.2.2.1 h7 B.1 (Or.inl ⟨hF2 _ _ (fun q => by simp only [S_c_X12_moves, or_false] at q; omega), fun c k a b q => by unfold wR at a; simp only [S_c_X11_moves, or_false] at q; omega, fun k q => by simp only [S_c_X12_moves, or_false] at q; omega⟩) (SHR_keep h.2.2.2.2 (fun c k a => hF1 c k (fun q => by simp only [S_c_X11_moves, or_false] at q; omega)) (fun c k a => by rw [hF2 c k (fun q => by simp only [S_c_X12_moves, or_false] at q; omega), c1 c k (by omega)])), B.2⟩
theorem sy_3 {v : Int32} {M M1 M2 : mM} {r1 r2 : Int32} (h : RY M.1) (hD0 : InvD M) (hD : InvD M1) (hD2 : InvD M2) (hF1 : FR S_c_X11_away M M1) (hs1 : SP_X11_away v M r1 M1) (hF2 : FR S_c_X12_away M1 M2) (hs2 : SP_X12_away v M1 r2 M2) : RY M2.1 ∧ r1 = r2 := by
  have hx := (st_3 h.1 hD0 hF1 hs1 hF2 hs2).1
  have s1 : cC S_c_X11_away := fun c k q => by simp only [S_c_X11_away, or_false] at q; omega
  have s2 : cD S_c_X12_away := fun c k q => by simp only [S_c_X12_away, or_false] at q; omega
  have c1 : ∀ (c : rf) (k : Nat), c.1 = 12 ∨ 50 ≤ c.1 → M1.1 c k = M.1 c k := fun c k a => hF1 c k (fun q => s1 c k q a)
  have c2 : ∀ (c : rf) (k : Nat), ¬ (c.1 = 12 ∨ 50 ≤ c.1) → M2.1 c k = M1.1 c k := fun c k a => hF2 c k (fun q => a (s2 c k q))
  have e50 : M1.1 (50, 0, 0) = M.1 (50, 0, 0) := funext fun k => c1 _ _ (by simp)
  have hR : RW 0 M.1 (M1.1 (50, 0, 0)) := by rw [e50]; exact h.2.2.1
  have hu : (M1.1 (12, 0, 0) 7).toInt = -1 := by rw [c1 _ _ (by simp)]; exact h.2.1
  have h7 : (M2.1 (12, 0, 0) 7).toInt = -1 := by rw [hF2 (12, 0, 0) 7 (fun q => by simp only [S_c_X12_away, or_false] at q; omega)]; exact hu
  have B := cb_3 hs1 hs2 hR hD hu
  exact ⟨RY_of h hF1 hF2 s1 s2 hx hD2.2.1 hD2.2.2.1 h7 B.1 (Or.inl ⟨hF2 _ _ (fun q => by simp only [S_c_X12_away, or_false] at q; omega), fun c k a b q => by unfold wR at a; simp only [S_c_X11_away, or_false] at q; omega, fun k q => by simp only [S_c_X12_away, or_false] at q; omega⟩) (SHR_keep h.2.2.2.2 (fun c k a => hF1 c k (fun q => by simp only [S_c_X11_away, or_false] at q; omega)) (fun c k a => by rw [hF2 c k (fun q => by simp only [S_c_X12_away, or_false] at q; omega), c1 c k (by omega)])), B.2⟩
theorem sy_4 {v : Int32} {u : Int32} {t : Int32} {M M1 M2 : mM} {r1 r2 : Int32} (h : RY M.1) (hD0 : InvD M) (hD : InvD M1) (hD2 : InvD M2) (hF1 : FR S_c_X11_kind M M1) (hs1 : SP_X11_kind v u t M r1 M1) (hF2 : FR S_c_X12_kind M1 M2) (hs2 : SP_X12_kind v u t M1 r2 M2) : RY M2.1 ∧ True := by
  have hx := (st_4 h.1 hD0 hF1 hs1 hF2 hs2).1
  have s1 : cC S_c_X11_kind := fun c k q => by simp only [S_c_X11_kind, or_false] at q; omega
  have s2 : cD S_c_X12_kind := fun c k q => by simp only [S_c_X12_kind, or_false] at q; omega
  have c1 : ∀ (c : rf) (k : Nat), c.1 = 12 ∨ 50 ≤ c.1 → M1.1 c k = M.1 c k := fun c k a => hF1 c k (fun q => s1 c k q a)
  have c2 : ∀ (c : rf) (k : Nat), ¬ (c.1 = 12 ∨ 50 ≤ c.1) → M2.1 c k = M1.1 c k := fun c k a => hF2 c k (fun q => a (s2 c k q))
  have e50 : M1.1 (50, 0, 0) = M.1 (50, 0, 0) := funext fun k => c1 _ _ (by simp)
  have hR : RW 0 M.1 (M1.1 (50, 0, 0)) := by rw [e50]; exact h.2.2.1
  have hu : (M1.1 (12, 0, 0) 7).toInt = -1 := by rw [c1 _ _ (by simp)]; exact h.2.1
  have h7 : (M2.1 (12, 0, 0) 7).toInt = -1 := by rw [hF2 (12, 0, 0) 7 (fun q => by simp only [S_c_X12_kind, or_false] at q; omega)]; exact hu
  have hL : LWR 0 M1.1 (M2.1 (50, 0, 0)) := LWR_keep (LWR_rx hx) (fun r k hr => (c2 _ _ (by dsimp only; omega)).symm) (fun _ _ => rfl)
  exact ⟨RY_of h hF1 hF2 s1 s2 hx hD2.2.1 hD2.2.2.1 h7 (cb_4 hF1 hs2 hR hD hL) (Or.inl ⟨hF2 _ _ (fun q => by simp only [S_c_X12_kind, or_false] at q; omega), fun c k a b q => by unfold wR at a; simp only [S_c_X11_kind, or_false] at q; omega, fun k q => by simp only [S_c_X12_kind, or_false] at q; omega⟩) (SHR_keep h.2.2.2.2 (fun c k a => hF1 c k (fun q => by simp only [S_c_X11_kind, or_false] at q; omega)) (fun c k a => by rw [hF2 c k (fun q => by simp only [S_c_X12_kind, or_false] at q; omega), c1 c k (by omega)])), trivial⟩
theorem sy_5 {v : Int32} {M M1 M2 : mM} {r1 r2 : Int32} (h : RY M.1) (hD0 : InvD M) (hD : InvD M1) (hD2 : InvD M2) (hF1 : FR S_c_X11_at M M1) (hs1 : SP_X11_at v M r1 M1) (hF2 : FR S_c_X12_at M1 M2) (hs2 : SP_X12_at v M1 r2 M2) : RY M2.1 ∧ True := by
  have hx := (st_5 h.1 hD0 hF1 hs1 hF2 hs2).1
  have s1 : cC S_c_X11_at := fun c k q => by simp only [S_c_X11_at, or_false] at q; omega
  have s2 : cD S_c_X12_at := fun c k q => by simp only [S_c_X12_at, or_false] at q; omega
  have c1 : ∀ (c : rf) (k : Nat), c.1 = 12 ∨ 50 ≤ c.1 → M1.1 c k = M.1 c k := fun c k a => hF1 c k (fun q => s1 c k q a)
  have c2 : ∀ (c : rf) (k : Nat), ¬ (c.1 = 12 ∨ 50 ≤ c.1) → M2.1 c k = M1.1 c k := fun c k a => hF2 c k (fun q => a (s2 c k q))
  have e50 : M1.1 (50, 0, 0) = M.1 (50, 0, 0) := funext fun k => c1 _ _ (by simp)
  have hR : RW 0 M.1 (M1.1 (50, 0, 0)) := by rw [e50]; exact h.2.2.1
  have hu : (M1.1 (12, 0, 0) 7).toInt = -1 := by rw [c1 _ _ (by simp)]; exact h.2.1
  have h7 : (M2.1 (12, 0, 0) 7).toInt = -1 := by rw [hF2 (12, 0, 0) 7 (fun q => by simp only [S_c_X12_at, or_false] at q; omega)]; exact hu
  exact ⟨RY_fr h hF1 hF2 s1 s2 hx hD2.2.1 hD2.2.2.1 (fun c k a b q => by unfold wR at a; simp only [S_c_X11_at, or_false] at q; omega) (fun c k a q => by rcases a with rfl | rfl | ⟨rfl, rfl⟩ | a | a | a <;> (simp only [S_c_X12_at, or_false] at q <;> omega)) (fun c k a q => by simp only [S_c_X11_at, or_false] at q; omega) h7, trivial⟩
theorem sy_6 {v : Int32} {u : Int32} {M M1 M2 : mM} {r1 r2 : Int32} (h : RY M.1) (hD0 : InvD M) (hD : InvD M1) (hD2 : InvD M2) (hF1 : FR S_c_X11_lays M M1) (hs1 : SP_X11_lays v u M r1 M1) (hF2 : FR S_c_X12_lays M1 M2) (hs2 : SP_X12_lays v u M1 r2 M2) : RY M2.1 ∧ r1 = r2 := by
  have hx := (st_6 h.1 hD0 hF1 hs1 hF2 hs2).1
  have s1 : cC S_c_X11_lays := fun c k q => by simp only [S_c_X11_lays, or_false] at q; omega
  have s2 : cD S_c_X12_lays := fun c k q => by simp only [S_c_X12_lays, or_false] at q; omega
  have c1 : ∀ (c : rf) (k : Nat), c.1 = 12 ∨ 50 ≤ c.1 → M1.1 c k = M.1 c k := fun c k a => hF1 c k (fun q => s1 c k q a)
  have c2 : ∀ (c : rf) (k : Nat), ¬ (c.1 = 12 ∨ 50 ≤ c.1) → M2.1 c k = M1.1 c k := fun c k a => hF2 c k (fun q => a (s2 c k q))
  have e50 : M1.1 (50, 0, 0) = M.1 (50, 0, 0) := funext fun k => c1 _ _ (by simp)
  have hR : RW 0 M.1 (M1.1 (50, 0, 0)) := by rw [e50]; exact h.2.2.1
  have hu : (M1.1 (12, 0, 0) 7).toInt = -1 := by rw [c1 _ _ (by simp)]; exact h.2.1
  have h7 : (M2.1 (12, 0, 0) 7).toInt = -1 := by rw [hF2 (12, 0, 0) 7 (fun q => by simp only [S_c_X12_lays, or_false] at q; omega)]; exact hu
  have B := cb_6 hs1 hs2 hR hD hu (SHR_keep h.2.2.2.2 (fun _ _ _ => rfl) (fun c k a => c1 c k (by omega)))
  exact ⟨RY_of h hF1 hF2 s1 s2 hx hD2.2.1 hD2.2.2.1 h7 B.1 (Or.inl ⟨hF2 _ _ (fun q => by simp only [S_c_X12_lays, or_false] at q; omega), fun c k a b q => by unfold wR at a; simp only [S_c_X11_lays, or_false] at q; omega, fun k q => by simp only [S_c_X12_lays, or_false] at q; omega⟩) (SHR_keep h.2.2.2.2 (fun c k a => hF1 c k (fun q => by simp only [S_c_X11_lays, or_false] at q; omega)) (fun c k a => by rw [hF2 c k (fun q => by simp only [S_c_X12_lays, or_false] at q; omega), c1 c k (by omega)])), B.2⟩
theorem sy_7 {v : Int32} {u : Int32} {M M1 M2 : mM} {r1 r2 : Int32} (h : RY M.1) (hD0 : InvD M) (hD : InvD M1) (hD2 : InvD M2) (hF1 : FR S_c_X11_air M M1) (hs1 : SP_X11_air v u M r1 M1) (hF2 : FR S_c_X12_air M1 M2) (hs2 : SP_X12_air v u M1 r2 M2) : RY M2.1 ∧ True := by
  have hx := (st_7 h.1 hD0 hF1 hs1 hF2 hs2).1
  have s1 : cC S_c_X11_air := fun c k q => by simp only [S_c_X11_air, or_false] at q; omega
  have s2 : cD S_c_X12_air := fun c k q => by simp only [S_c_X12_air, or_false] at q; omega
  have c1 : ∀ (c : rf) (k : Nat), c.1 = 12 ∨ 50 ≤ c.1 → M1.1 c k = M.1 c k := fun c k a => hF1 c k (fun q => s1 c k q a)
  have c2 : ∀ (c : rf) (k : Nat), ¬ (c.1 = 12 ∨ 50 ≤ c.1) → M2.1 c k = M1.1 c k := fun c k a => hF2 c k (fun q => a (s2 c k q))
  have e50 : M1.1 (50, 0, 0) = M.1 (50, 0, 0) := funext fun k => c1 _ _ (by simp)
  have hR : RW 0 M.1 (M1.1 (50, 0, 0)) := by rw [e50]; exact h.2.2.1
  have hu : (M1.1 (12, 0, 0) 7).toInt = -1 := by rw [c1 _ _ (by simp)]; exact h.2.1
  have h7 : (M2.1 (12, 0, 0) 7).toInt = -1 := by rw [hF2 (12, 0, 0) 7 (fun q => by simp only [S_c_X12_air, or_false] at q; omega)]; exact hu
  have hL : LWR 0 M1.1 (M2.1 (50, 0, 0)) := LWR_keep (LWR_rx hx) (fun r k hr => (c2 _ _ (by dsimp only; omega)).symm) (fun _ _ => rfl)
  exact ⟨RY_of h hF1 hF2 s1 s2 hx hD2.2.1 hD2.2.2.1 h7 (cb_7 hF1 hs2 hR hD hL) (Or.inl ⟨hF2 _ _ (fun q => by simp only [S_c_X12_air, or_false] at q; omega), fun c k a b q => by unfold wR at a; simp only [S_c_X11_air, or_false] at q; omega, fun k q => by simp only [S_c_X12_air, or_false] at q; omega⟩) (SHR_keep h.2.2.2.2 (fun c k a => hF1 c k (fun q => by simp only [S_c_X11_air, or_false] at q; omega)) (fun c k a => by rw [hF2 c k (fun q => by simp only [S_c_X12_air, or_false] at q; omega), c1 c k (by omega)])), trivial⟩
theorem sy_8 {v : Int32} {u : Int32} {t : Int32} {M M1 M2 : mM} {r1 r2 : Int32} (h : RY M.1) (hD0 : InvD M) (hD : InvD M1) (hD2 : InvD M2) (hF1 : FR S_c_X11_walker M M1) (hs1 : SP_X11_walker v u t M r1 M1) (hF2 : FR S_c_X12_walker M1 M2) (hs2 : SP_X12_walker v u t M1 r2 M2) : RY M2.1 ∧ r1 = r2 := by
  have hx := (st_8 h.1 hD0 hF1 hs1 hF2 hs2).1
  have s1 : cC S_c_X11_walker := fun c k q => by simp only [S_c_X11_walker, or_false] at q; omega
  have s2 : cD S_c_X12_walker := fun c k q => by simp only [S_c_X12_walker, or_false] at q; omega
  have c1 : ∀ (c : rf) (k : Nat), c.1 = 12 ∨ 50 ≤ c.1 → M1.1 c k = M.1 c k := fun c k a => hF1 c k (fun q => s1 c k q a)
  have c2 : ∀ (c : rf) (k : Nat), ¬ (c.1 = 12 ∨ 50 ≤ c.1) → M2.1 c k = M1.1 c k := fun c k a => hF2 c k (fun q => a (s2 c k q))
  have e50 : M1.1 (50, 0, 0) = M.1 (50, 0, 0) := funext fun k => c1 _ _ (by simp)
  have hR : RW 0 M.1 (M1.1 (50, 0, 0)) := by rw [e50]; exact h.2.2.1
  have hu : (M1.1 (12, 0, 0) 7).toInt = -1 := by rw [c1 _ _ (by simp)]; exact h.2.1
  have h7 : (M2.1 (12, 0, 0) 7).toInt = -1 := by rw [hF2 (12, 0, 0) 7 (fun q => by simp only [S_c_X12_walker, or_false] at q; omega)]; exact hu
  have B := cb_8 hs1 hs2 hR hD hu
  exact ⟨RY_of h hF1 hF2 s1 s2 hx hD2.2.1 hD2.2.2.1 h7 B.1 (Or.inl ⟨hF2 _ _ (fun q => by simp only [S_c_X12_walker, or_false] at q; omega), fun c k a b q => by unfold wR at a; simp only [S_c_X11_walker, or_false] at q; omega, fun k q => by simp only [S_c_X12_walker, or_false] at q; omega⟩) (SHR_keep h.2.2.2.2 (fun c k a => hF1 c k (fun q => by simp only [S_c_X11_walker, or_false] at q; omega)) (fun c k a => by rw [hF2 c k (fun q => by simp only [S_c_X12_walker, or_false] at q; omega), c1 c k (by omega)])), B.2⟩
theorem sy_9 {v : Int32} {u : Int32} {M M1 M2 : mM} {r1 r2 : Int32} (h : RY M.1) (hD0 : InvD M) (hD : InvD M1) (hD2 : InvD M2) (hF1 : FR S_c_X11_walkerIs M M1) (hs1 : SP_X11_walkerIs v u M r1 M1) (hF2 : FR S_c_X12_walkerIs M1 M2) (hs2 : SP_X12_walkerIs v u M1 r2 M2) : RY M2.1 ∧ True := by
  have hx := (st_9 h.1 hD0 hF1 hs1 hF2 hs2).1
  have s1 : cC S_c_X11_walkerIs := fun c k q => by simp only [S_c_X11_walkerIs, or_false] at q; omega
  have s2 : cD S_c_X12_walkerIs := fun c k q => by simp only [S_c_X12_walkerIs, or_false] at q; omega
  have c1 : ∀ (c : rf) (k : Nat), c.1 = 12 ∨ 50 ≤ c.1 → M1.1 c k = M.1 c k := fun c k a => hF1 c k (fun q => s1 c k q a)
  have c2 : ∀ (c : rf) (k : Nat), ¬ (c.1 = 12 ∨ 50 ≤ c.1) → M2.1 c k = M1.1 c k := fun c k a => hF2 c k (fun q => a (s2 c k q))
  have e50 : M1.1 (50, 0, 0) = M.1 (50, 0, 0) := funext fun k => c1 _ _ (by simp)
  have hR : RW 0 M.1 (M1.1 (50, 0, 0)) := by rw [e50]; exact h.2.2.1
  have hu : (M1.1 (12, 0, 0) 7).toInt = -1 := by rw [c1 _ _ (by simp)]; exact h.2.1
  have h7 : (M2.1 (12, 0, 0) 7).toInt = -1 := by rw [hF2 (12, 0, 0) 7 (fun q => by simp only [S_c_X12_walkerIs, or_false] at q; omega)]; exact hu
  exact ⟨RY_fr h hF1 hF2 s1 s2 hx hD2.2.1 hD2.2.2.1 (fun c k a b q => by unfold wR at a; simp only [S_c_X11_walkerIs, or_false] at q; omega) (fun c k a q => by rcases a with rfl | rfl | ⟨rfl, rfl⟩ | a | a | a <;> (simp only [S_c_X12_walkerIs, or_false] at q <;> omega)) (fun c k a q => by simp only [S_c_X11_walkerIs, or_false] at q; omega) h7, trivial⟩
theorem sy_10 {v : Int32} {u : Int32} {M M1 M2 : mM} {r1 r2 : Int32} (h : RY M.1) (hD0 : InvD M) (hD : InvD M1) (hD2 : InvD M2) (hF1 : FR S_c_X11_as M M1) (hs1 : SP_X11_as v u M r1 M1) (hF2 : FR S_c_X12_as M1 M2) (hs2 : SP_X12_as v u M1 r2 M2) : RY M2.1 ∧ True := by
  have hx := (st_10 h.1 hD0 hF1 hs1 hF2 hs2).1
  have s1 : cC S_c_X11_as := fun c k q => by simp only [S_c_X11_as, or_false] at q; omega
  have s2 : cD S_c_X12_as := fun c k q => by simp only [S_c_X12_as, or_false] at q; omega
  have c1 : ∀ (c : rf) (k : Nat), c.1 = 12 ∨ 50 ≤ c.1 → M1.1 c k = M.1 c k := fun c k a => hF1 c k (fun q => s1 c k q a)
  have c2 : ∀ (c : rf) (k : Nat), ¬ (c.1 = 12 ∨ 50 ≤ c.1) → M2.1 c k = M1.1 c k := fun c k a => hF2 c k (fun q => a (s2 c k q))
  have e50 : M1.1 (50, 0, 0) = M.1 (50, 0, 0) := funext fun k => c1 _ _ (by simp)
  have hR : RW 0 M.1 (M1.1 (50, 0, 0)) := by rw [e50]; exact h.2.2.1
  have hu : (M1.1 (12, 0, 0) 7).toInt = -1 := by rw [c1 _ _ (by simp)]; exact h.2.1
  have h7 : (M2.1 (12, 0, 0) 7).toInt = -1 := by rw [hF2 (12, 0, 0) 7 (fun q => by simp only [S_c_X12_as, or_false] at q; omega)]; exact hu
  exact ⟨RY_fr h hF1 hF2 s1 s2 hx hD2.2.1 hD2.2.2.1 (fun c k a b q => by unfold wR at a; simp only [S_c_X11_as, or_false] at q; omega) (fun c k a q => by rcases a with rfl | rfl | ⟨rfl, rfl⟩ | a | a | a <;> (simp only [S_c_X12_as, or_false] at q <;> omega)) (fun c k a q => by simp only [S_c_X11_as, or_false] at q; omega) h7, trivial⟩
theorem sy_11 {v : Int32} {u : Int32} {t : Int32} {s : Int32} {M M1 M2 : mM} {r1 r2 : Int32} (h : RY M.1) (hD0 : InvD M) (hD : InvD M1) (hD2 : InvD M2) (hF1 : FR S_c_X11_habit M M1) (hs1 : SP_X11_habit v u t s M r1 M1) (hF2 : FR S_c_X12_habit M1 M2) (hs2 : SP_X12_habit v u t s M1 r2 M2) : RY M2.1 ∧ r1 = r2 := by
  have hx := (st_11 h.1 hD0 hF1 hs1 hF2 hs2).1
  have s1 : cC S_c_X11_habit := fun c k q => by simp only [S_c_X11_habit, or_false] at q; omega
  have s2 : cD S_c_X12_habit := fun c k q => by simp only [S_c_X12_habit, or_false] at q; omega
  have c1 : ∀ (c : rf) (k : Nat), c.1 = 12 ∨ 50 ≤ c.1 → M1.1 c k = M.1 c k := fun c k a => hF1 c k (fun q => s1 c k q a)
  have c2 : ∀ (c : rf) (k : Nat), ¬ (c.1 = 12 ∨ 50 ≤ c.1) → M2.1 c k = M1.1 c k := fun c k a => hF2 c k (fun q => a (s2 c k q))
  have e50 : M1.1 (50, 0, 0) = M.1 (50, 0, 0) := funext fun k => c1 _ _ (by simp)
  have hR : RW 0 M.1 (M1.1 (50, 0, 0)) := by rw [e50]; exact h.2.2.1
  have hu : (M1.1 (12, 0, 0) 7).toInt = -1 := by rw [c1 _ _ (by simp)]; exact h.2.1
  have h7 : (M2.1 (12, 0, 0) 7).toInt = -1 := by rw [hF2 (12, 0, 0) 7 (fun q => by simp only [S_c_X12_habit, or_false] at q; omega)]; exact hu
  have B := cb_11 hs1 hs2 hR hD hu
  exact ⟨RY_of h hF1 hF2 s1 s2 hx hD2.2.1 hD2.2.2.1 h7 B.1 (Or.inl ⟨hF2 _ _ (fun q => by simp only [S_c_X12_habit, or_false] at q; omega), fun c k a b q => by unfold wR at a; simp only [S_c_X11_habit, or_false] at q; omega, fun k q => by simp only [S_c_X12_habit, or_false] at q; omega⟩) (SHR_keep h.2.2.2.2 (fun c k a => hF1 c k (fun q => by simp only [S_c_X11_habit, or_false] at q; omega)) (fun c k a => by rw [hF2 c k (fun q => by simp only [S_c_X12_habit, or_false] at q; omega), c1 c k (by omega)])), B.2⟩
theorem sy_12 {v : Int32} {u : Int32} {M M1 M2 : mM} {r1 r2 : Int32} (h : RY M.1) (hD0 : InvD M) (hD : InvD M1) (hD2 : InvD M2) (hF1 : FR S_c_X11_face M M1) (hs1 : SP_X11_face v u M r1 M1) (hF2 : FR S_c_X12_face M1 M2) (hs2 : SP_X12_face v u M1 r2 M2) : RY M2.1 ∧ r1 = r2 := by
  have hx := (st_12 h.1 hD0 hF1 hs1 hF2 hs2).1
  have s1 : cC S_c_X11_face := fun c k q => by simp only [S_c_X11_face, or_false] at q; omega
  have s2 : cD S_c_X12_face := fun c k q => by simp only [S_c_X12_face, or_false] at q; omega
  have c1 : ∀ (c : rf) (k : Nat), c.1 = 12 ∨ 50 ≤ c.1 → M1.1 c k = M.1 c k := fun c k a => hF1 c k (fun q => s1 c k q a)
  have c2 : ∀ (c : rf) (k : Nat), ¬ (c.1 = 12 ∨ 50 ≤ c.1) → M2.1 c k = M1.1 c k := fun c k a => hF2 c k (fun q => a (s2 c k q))
  have e50 : M1.1 (50, 0, 0) = M.1 (50, 0, 0) := funext fun k => c1 _ _ (by simp)
  have hR : RW 0 M.1 (M1.1 (50, 0, 0)) := by rw [e50]; exact h.2.2.1
  have hu : (M1.1 (12, 0, 0) 7).toInt = -1 := by rw [c1 _ _ (by simp)]; exact h.2.1
  have h7 : (M2.1 (12, 0, 0) 7).toInt = -1 := by rw [hF2 (12, 0, 0) 7 (fun q => by simp only [S_c_X12_face, or_false] at q; omega)]; exact hu
  have B := cb_12 hs1 hs2 hR hD hu
  exact ⟨RY_of h hF1 hF2 s1 s2 hx hD2.2.1 hD2.2.2.1 h7 B.1 (Or.inl ⟨hF2 _ _ (fun q => by simp only [S_c_X12_face, or_false] at q; omega), fun c k a b q => by unfold wR at a; simp only [S_c_X11_face, or_false] at q; omega, fun k q => by simp only [S_c_X12_face, or_false] at q; omega⟩) (SHR_keep h.2.2.2.2 (fun c k a => hF1 c k (fun q => by simp only [S_c_X11_face, or_false] at q; omega)) (fun c k a => by rw [hF2 c k (fun q => by simp only [S_c_X12_face, or_false] at q; omega), c1 c k (by omega)])), B.2⟩
theorem sy_13 {v : Int32} {u : Int32} {M M1 M2 : mM} {r1 r2 : Int32} (h : RY M.1) (hD0 : InvD M) (hD : InvD M1) (hD2 : InvD M2) (hF1 : FR S_c_X11_goes M M1) (hs1 : SP_X11_goes v u M r1 M1) (hF2 : FR S_c_X12_goes M1 M2) (hs2 : SP_X12_goes v u M1 r2 M2) (hub : 0 ≤ u.toInt ∧ u.toInt ≤ 1) : RY M2.1 ∧ r1 = r2 := by
  have hx := (st_13 h.1 hD0 hF1 hs1 hF2 hs2).1
  have s1 : cC S_c_X11_goes := fun c k q => by simp only [S_c_X11_goes, or_false] at q; omega
  have s2 : cD S_c_X12_goes := fun c k q => by simp only [S_c_X12_goes, or_false] at q; omega
  have c1 : ∀ (c : rf) (k : Nat), c.1 = 12 ∨ 50 ≤ c.1 → M1.1 c k = M.1 c k := fun c k a => hF1 c k (fun q => s1 c k q a)
  have c2 : ∀ (c : rf) (k : Nat), ¬ (c.1 = 12 ∨ 50 ≤ c.1) → M2.1 c k = M1.1 c k := fun c k a => hF2 c k (fun q => a (s2 c k q))
  have e50 : M1.1 (50, 0, 0) = M.1 (50, 0, 0) := funext fun k => c1 _ _ (by simp)
  have hR : RW 0 M.1 (M1.1 (50, 0, 0)) := by rw [e50]; exact h.2.2.1
  have hu : (M1.1 (12, 0, 0) 7).toInt = -1 := by rw [c1 _ _ (by simp)]; exact h.2.1
  have h7 : (M2.1 (12, 0, 0) 7).toInt = -1 := by rw [hF2 (12, 0, 0) 7 (fun q => by simp only [S_c_X12_goes, or_false] at q; omega)]; exact hu
  have B := cb_13 hs1 hs2 hR hD hu hub
  exact ⟨RY_of h hF1 hF2 s1 s2 hx hD2.2.1 hD2.2.2.1 h7 B.1 (Or.inl ⟨hF2 _ _ (fun q => by simp only [S_c_X12_goes, or_false] at q; omega), fun c k a b q => by unfold wR at a; simp only [S_c_X11_goes, or_false] at q; omega, fun k q => by simp only [S_c_X12_goes, or_false] at q; omega⟩) (SHR_keep h.2.2.2.2 (fun c k a => hF1 c k (fun q => by simp only [S_c_X11_goes, or_false] at q; omega)) (fun c k a => by rw [hF2 c k (fun q => by simp only [S_c_X12_goes, or_false] at q; omega), c1 c k (by omega)])), B.2⟩
theorem sy_14 {v : Int64} {u : Int32} {M M1 M2 : mM} {r1 r2 : Int32} (h : RY M.1) (hD0 : InvD M) (hD : InvD M1) (hD2 : InvD M2) (hF1 : FR S_c_X11_feed M M1) (hs1 : SP_X11_feed v u M r1 M1) (hF2 : FR S_c_X12_feed M1 M2) (hs2 : SP_X12_feed v u M1 r2 M2) : RY M2.1 ∧ r1 = r2 := by
  have hx := (st_14 h.1 hD0 hF1 hs1 hF2 hs2).1
  have s1 : cC S_c_X11_feed := fun c k q => by simp only [S_c_X11_feed, or_false] at q; omega
  have s2 : cD S_c_X12_feed := fun c k q => by simp only [S_c_X12_feed, or_false] at q; omega
  have c1 : ∀ (c : rf) (k : Nat), c.1 = 12 ∨ 50 ≤ c.1 → M1.1 c k = M.1 c k := fun c k a => hF1 c k (fun q => s1 c k q a)
  have c2 : ∀ (c : rf) (k : Nat), ¬ (c.1 = 12 ∨ 50 ≤ c.1) → M2.1 c k = M1.1 c k := fun c k a => hF2 c k (fun q => a (s2 c k q))
  have e50 : M1.1 (50, 0, 0) = M.1 (50, 0, 0) := funext fun k => c1 _ _ (by simp)
  have hR : RW 0 M.1 (M1.1 (50, 0, 0)) := by rw [e50]; exact h.2.2.1
  have hu : (M1.1 (12, 0, 0) 7).toInt = -1 := by rw [c1 _ _ (by simp)]; exact h.2.1
  have h7 : (M2.1 (12, 0, 0) 7).toInt = -1 := by rw [hF2 (12, 0, 0) 7 (fun q => by simp only [S_c_X12_feed, or_false] at q; omega)]; exact hu
  have B := cb_14 hs1 hs2 hR hD hu (show M.1 (5, 0, 0) 1 = M1.1 (50, 0, 0) 4 from ((RXzg h.1 (d := (50, 0, 0)) (j := 4) (by unfold PRz; simp) (by simp)).trans (c1 _ _ (by simp)).symm))
  exact ⟨RY_of h hF1 hF2 s1 s2 hx hD2.2.1 hD2.2.2.1 h7 B.1 (Or.inl ⟨hF2 _ _ (fun q => by simp only [S_c_X12_feed, or_false] at q; omega), fun c k a b q => by unfold wR at a; simp only [S_c_X11_feed, or_false] at q; omega, fun k q => by simp only [S_c_X12_feed, or_false] at q; omega⟩) (SHR_keep h.2.2.2.2 (fun c k a => hF1 c k (fun q => by simp only [S_c_X11_feed, or_false] at q; omega)) (fun c k a => by rw [hF2 c k (fun q => by simp only [S_c_X12_feed, or_false] at q; omega), c1 c k (by omega)])), B.2⟩
theorem sy_15 {v : Int32} {M M1 M2 : mM} {r1 r2 : Int32} (h : RY M.1) (hD0 : InvD M) (hD : InvD M1) (hD2 : InvD M2) (hF1 : FR S_c_X11_text M M1) (hs1 : SP_X11_text v M r1 M1) (hF2 : FR S_c_X12_text_ M1 M2) (hs2 : SP_X12_text_ v M1 r2 M2) : RY M2.1 ∧ r1 = r2 := by
  have hx := (st_15 h.1 hD0 hF1 hs1 hF2 hs2).1
  have s1 : cC S_c_X11_text := fun c k q => by simp only [S_c_X11_text, or_false] at q; omega
  have s2 : cD S_c_X12_text_ := fun c k q => by simp only [S_c_X12_text_, or_false] at q; omega
  have c1 : ∀ (c : rf) (k : Nat), c.1 = 12 ∨ 50 ≤ c.1 → M1.1 c k = M.1 c k := fun c k a => hF1 c k (fun q => s1 c k q a)
  have c2 : ∀ (c : rf) (k : Nat), ¬ (c.1 = 12 ∨ 50 ≤ c.1) → M2.1 c k = M1.1 c k := fun c k a => hF2 c k (fun q => a (s2 c k q))
  have e50 : M1.1 (50, 0, 0) = M.1 (50, 0, 0) := funext fun k => c1 _ _ (by simp)
  have hR : RW 0 M.1 (M1.1 (50, 0, 0)) := by rw [e50]; exact h.2.2.1
  have hu : (M1.1 (12, 0, 0) 7).toInt = -1 := by rw [c1 _ _ (by simp)]; exact h.2.1
  have h7 : (M2.1 (12, 0, 0) 7).toInt = -1 := by rw [hF2 (12, 0, 0) 7 (fun q => by simp only [S_c_X12_text_, or_false] at q; omega)]; exact hu
  have B := cb_text hs1 hs2 hR hD (show M.1 (5, 0, 0) 1 = M1.1 (50, 0, 0) 4 from ((RXzg h.1 (d := (50, 0, 0)) (j := 4) (by unfold PRz; simp) (by simp)).trans (c1 _ _ (by simp)).symm))
  exact ⟨RY_of h hF1 hF2 s1 s2 hx hD2.2.1 hD2.2.2.1 h7 B.1 (Or.inl ⟨hF2 _ _ (fun q => by simp only [S_c_X12_text_, or_false] at q; omega), fun c k a b q => by unfold wR at a; simp only [S_c_X11_text, or_false] at q; omega, fun k q => by simp only [S_c_X12_text_, or_false] at q; omega⟩) (SHR_keep h.2.2.2.2 (fun c k a => hF1 c k (fun q => by simp only [S_c_X11_text, or_false] at q; omega)) (fun c k a => by rw [hF2 c k (fun q => by simp only [S_c_X12_text_, or_false] at q; omega), c1 c k (by omega)])), B.2⟩
theorem sy_16 {v : Int32} {u : Int32} {t : Int32} {s : Int32} {M M1 M2 : mM} {r1 r2 : Int32} (h : RY M.1) (hD0 : InvD M) (hD : InvD M1) (hD2 : InvD M2) (hF1 : FR S_c_X11_echo M M1) (hs1 : SP_X11_echo v u t s M r1 M1) (hF2 : FR S_c_X12_echo M1 M2) (hs2 : SP_X12_echo v u t s M1 r2 M2) : RY M2.1 ∧ True := by
  have hx := (st_16 h.1 hD0 hF1 hs1 hF2 hs2).1
  have s1 : cC S_c_X11_echo := fun c k q => by simp only [S_c_X11_echo, or_false] at q; omega
  have s2 : cD S_c_X12_echo := fun c k q => by simp only [S_c_X12_echo, or_false] at q; omega
  have c1 : ∀ (c : rf) (k : Nat), c.1 = 12 ∨ 50 ≤ c.1 → M1.1 c k = M.1 c k := fun c k a => hF1 c k (fun q => s1 c k q a)
  have c2 : ∀ (c : rf) (k : Nat), ¬ (c.1 = 12 ∨ 50 ≤ c.1) → M2.1 c k = M1.1 c k := fun c k a => hF2 c k (fun q => a (s2 c k q))
  have e50 : M1.1 (50, 0, 0) = M.1 (50, 0, 0) := funext fun k => c1 _ _ (by simp)
  have hR : RW 0 M.1 (M1.1 (50, 0, 0)) := by rw [e50]; exact h.2.2.1
  have hu : (M1.1 (12, 0, 0) 7).toInt = -1 := by rw [c1 _ _ (by simp)]; exact h.2.1
  have h7 : (M2.1 (12, 0, 0) 7).toInt = -1 := by rw [hF2 (12, 0, 0) 7 (fun q => by simp only [S_c_X12_echo, or_false] at q; omega)]; exact hu
  exact ⟨RY_fr h hF1 hF2 s1 s2 hx hD2.2.1 hD2.2.2.1 (fun c k a b q => by unfold wR at a; simp only [S_c_X11_echo, or_false] at q; omega) (fun c k a q => by rcases a with rfl | rfl | ⟨rfl, rfl⟩ | a | a | a <;> (simp only [S_c_X12_echo, or_false] at q <;> omega)) (fun c k a q => by simp only [S_c_X11_echo, or_false] at q; omega) h7, trivial⟩
theorem sy_17 {v : Int32} {M M1 M2 : mM} {r1 r2 : Int32} (h : RY M.1) (hD0 : InvD M) (hD : InvD M1) (hD2 : InvD M2) (hF1 : FR S_c_X11_click M M1) (hs1 : SP_X11_click v M r1 M1) (hF2 : FR S_c_X12_click M1 M2) (hs2 : SP_X12_click v M1 r2 M2) : RY M2.1 ∧ r1 = r2 := by
  have hx := (st_17 h.1 hD0 hF1 hs1 hF2 hs2).1
  have s1 : cC S_c_X11_click := fun c k q => by simp only [S_c_X11_click, or_false] at q; omega
  have s2 : cD S_c_X12_click := fun c k q => by simp only [S_c_X12_click, or_false] at q; omega
  have c1 : ∀ (c : rf) (k : Nat), c.1 = 12 ∨ 50 ≤ c.1 → M1.1 c k = M.1 c k := fun c k a => hF1 c k (fun q => s1 c k q a)
  have c2 : ∀ (c : rf) (k : Nat), ¬ (c.1 = 12 ∨ 50 ≤ c.1) → M2.1 c k = M1.1 c k := fun c k a => hF2 c k (fun q => a (s2 c k q))
  have e50 : M1.1 (50, 0, 0) = M.1 (50, 0, 0) := funext fun k => c1 _ _ (by simp)
  have hR : RW 0 M.1 (M1.1 (50, 0, 0)) := by rw [e50]; exact h.2.2.1
  have hu : (M1.1 (12, 0, 0) 7).toInt = -1 := by rw [c1 _ _ (by simp)]; exact h.2.1
  have h7 : (M2.1 (12, 0, 0) 7).toInt = -1 := by rw [hF2 (12, 0, 0) 7 (fun q => by simp only [S_c_X12_click, or_false] at q; omega)]; exact hu
  have B := cb_17 hs1 hs2 hR hD hu
  exact ⟨RY_of h hF1 hF2 s1 s2 hx hD2.2.1 hD2.2.2.1 h7 B.1 (Or.inl ⟨hF2 _ _ (fun q => by simp only [S_c_X12_click, or_false] at q; omega), fun c k a b q => by unfold wR at a; simp only [S_c_X11_click, or_false] at q; omega, fun k q => by simp only [S_c_X12_click, or_false] at q; omega⟩) (SHR_keep h.2.2.2.2 (fun c k a => hF1 c k (fun q => by simp only [S_c_X11_click, or_false] at q; omega)) (fun c k a => by rw [hF2 c k (fun q => by simp only [S_c_X12_click, or_false] at q; omega), c1 c k (by omega)])), B.2⟩
theorem sy_18 {v : Int32} {u : Int32} {t : Int32} {M M1 M2 : mM} {r1 r2 : Int32} (h : RY M.1) (hD0 : InvD M) (hD : InvD M1) (hD2 : InvD M2) (hF1 : FR S_c_X11_head M M1) (hs1 : SP_X11_head v u t M r1 M1) (hF2 : FR S_c_X12_head M1 M2) (hs2 : SP_X12_head v u t M1 r2 M2) : RY M2.1 ∧ True := by
  have hx := (st_18 h.1 hD0 hF1 hs1 hF2 hs2).1
  have s1 : cC S_c_X11_head := fun c k q => by simp only [S_c_X11_head, or_false] at q; omega
  have s2 : cD S_c_X12_head := fun c k q => by simp only [S_c_X12_head, or_false] at q; omega
  have c1 : ∀ (c : rf) (k : Nat), c.1 = 12 ∨ 50 ≤ c.1 → M1.1 c k = M.1 c k := fun c k a => hF1 c k (fun q => s1 c k q a)
  have c2 : ∀ (c : rf) (k : Nat), ¬ (c.1 = 12 ∨ 50 ≤ c.1) → M2.1 c k = M1.1 c k := fun c k a => hF2 c k (fun q => a (s2 c k q))
  have e50 : M1.1 (50, 0, 0) = M.1 (50, 0, 0) := funext fun k => c1 _ _ (by simp)
  have hR : RW 0 M.1 (M1.1 (50, 0, 0)) := by rw [e50]; exact h.2.2.1
  have hu : (M1.1 (12, 0, 0) 7).toInt = -1 := by rw [c1 _ _ (by simp)]; exact h.2.1
  have h7 : (M2.1 (12, 0, 0) 7).toInt = -1 := by rw [hF2 (12, 0, 0) 7 (fun q => by simp only [S_c_X12_head, or_false] at q; omega)]; exact hu
  exact ⟨RY_fr h hF1 hF2 s1 s2 hx hD2.2.1 hD2.2.2.1 (fun c k a b q => by unfold wR at a; simp only [S_c_X11_head, or_false] at q; omega) (fun c k a q => by rcases a with rfl | rfl | ⟨rfl, rfl⟩ | a | a | a <;> (simp only [S_c_X12_head, or_false] at q <;> omega)) (fun c k a q => by simp only [S_c_X11_head, or_false] at q; omega) h7, trivial⟩
theorem sy_19 {v : Int32} {u : Int32} {M M1 M2 : mM} {r1 r2 : Int32} (h : RY M.1) (hD0 : InvD M) (hD : InvD M1) (hD2 : InvD M2) (hF1 : FR S_c_X11_heads M M1) (hs1 : SP_X11_heads v u M r1 M1) (hF2 : FR S_c_X12_heads M1 M2) (hs2 : SP_X12_heads v u M1 r2 M2) : RY M2.1 ∧ True := by
  have hx := (st_19 h.1 hD0 hF1 hs1 hF2 hs2).1
  have s1 : cC S_c_X11_heads := fun c k q => by simp only [S_c_X11_heads, or_false] at q; omega
  have s2 : cD S_c_X12_heads := fun c k q => by simp only [S_c_X12_heads, or_false] at q; omega
  have c1 : ∀ (c : rf) (k : Nat), c.1 = 12 ∨ 50 ≤ c.1 → M1.1 c k = M.1 c k := fun c k a => hF1 c k (fun q => s1 c k q a)
  have c2 : ∀ (c : rf) (k : Nat), ¬ (c.1 = 12 ∨ 50 ≤ c.1) → M2.1 c k = M1.1 c k := fun c k a => hF2 c k (fun q => a (s2 c k q))
  have e50 : M1.1 (50, 0, 0) = M.1 (50, 0, 0) := funext fun k => c1 _ _ (by simp)
  have hR : RW 0 M.1 (M1.1 (50, 0, 0)) := by rw [e50]; exact h.2.2.1
  have hu : (M1.1 (12, 0, 0) 7).toInt = -1 := by rw [c1 _ _ (by simp)]; exact h.2.1
  have h7 : (M2.1 (12, 0, 0) 7).toInt = -1 := by rw [hF2 (12, 0, 0) 7 (fun q => by simp only [S_c_X12_heads, or_false] at q; omega)]; exact hu
  exact ⟨RY_fr h hF1 hF2 s1 s2 hx hD2.2.1 hD2.2.2.1 (fun c k a b q => by unfold wR at a; simp only [S_c_X11_heads, or_false] at q; omega) (fun c k a q => by rcases a with rfl | rfl | ⟨rfl, rfl⟩ | a | a | a <;> (simp only [S_c_X12_heads, or_false] at q <;> omega)) (fun c k a q => by simp only [S_c_X11_heads, or_false] at q; omega) h7, trivial⟩
theorem sy_20 {v : Int32} {u : Int32} {t : Int32} {s : Int32} {q : Int32} {M M1 M2 : mM} {r1 r2 : Int32} (h : RY M.1) (hD0 : InvD M) (hD : InvD M1) (hD2 : InvD M2) (hF1 : FR S_c_X11_alike M M1) (hs1 : SP_X11_alike v u t s q M r1 M1) (hF2 : FR S_c_X12_alike M1 M2) (hs2 : SP_X12_alike v u t s q M1 r2 M2) : RY M2.1 ∧ True := by
  have hx := (st_20 h.1 hD0 hF1 hs1 hF2 hs2).1
  have s1 : cC S_c_X11_alike := fun c k q => by simp only [S_c_X11_alike, or_false] at q; omega
  have s2 : cD S_c_X12_alike := fun c k q => by simp only [S_c_X12_alike, or_false] at q; omega
  have c1 : ∀ (c : rf) (k : Nat), c.1 = 12 ∨ 50 ≤ c.1 → M1.1 c k = M.1 c k := fun c k a => hF1 c k (fun q => s1 c k q a)
  have c2 : ∀ (c : rf) (k : Nat), ¬ (c.1 = 12 ∨ 50 ≤ c.1) → M2.1 c k = M1.1 c k := fun c k a => hF2 c k (fun q => a (s2 c k q))
  have e50 : M1.1 (50, 0, 0) = M.1 (50, 0, 0) := funext fun k => c1 _ _ (by simp)
  have hR : RW 0 M.1 (M1.1 (50, 0, 0)) := by rw [e50]; exact h.2.2.1
  have hu : (M1.1 (12, 0, 0) 7).toInt = -1 := by rw [c1 _ _ (by simp)]; exact h.2.1
  have h7 : (M2.1 (12, 0, 0) 7).toInt = -1 := by rw [hF2 (12, 0, 0) 7 (fun q => by simp only [S_c_X12_alike, or_false] at q; omega)]; exact hu
  exact ⟨RY_fr h hF1 hF2 s1 s2 hx hD2.2.1 hD2.2.2.1 (fun c k a b q => by unfold wR at a; simp only [S_c_X11_alike, or_false] at q; omega) (fun c k a q => by rcases a with rfl | rfl | ⟨rfl, rfl⟩ | a | a | a <;> (simp only [S_c_X12_alike, or_false] at q <;> omega)) (fun c k a q => by simp only [S_c_X11_alike, or_false] at q; omega) h7, trivial⟩
theorem sy_21 {v : Int32} {u : Int32} {t : Int32} {s : Int32} {M M1 M2 : mM} {r1 r2 : Int32} (h : RY M.1) (hD0 : InvD M) (hD : InvD M1) (hD2 : InvD M2) (hF1 : FR S_c_X11_least M M1) (hs1 : SP_X11_least v u t s M r1 M1) (hF2 : FR S_c_X12_least M1 M2) (hs2 : SP_X12_least v u t s M1 r2 M2) : RY M2.1 ∧ True := by
  have hx := (st_21 h.1 hD0 hF1 hs1 hF2 hs2).1
  have s1 : cC S_c_X11_least := fun c k q => by simp only [S_c_X11_least, or_false] at q; omega
  have s2 : cD S_c_X12_least := fun c k q => by simp only [S_c_X12_least, or_false] at q; omega
  have c1 : ∀ (c : rf) (k : Nat), c.1 = 12 ∨ 50 ≤ c.1 → M1.1 c k = M.1 c k := fun c k a => hF1 c k (fun q => s1 c k q a)
  have c2 : ∀ (c : rf) (k : Nat), ¬ (c.1 = 12 ∨ 50 ≤ c.1) → M2.1 c k = M1.1 c k := fun c k a => hF2 c k (fun q => a (s2 c k q))
  have e50 : M1.1 (50, 0, 0) = M.1 (50, 0, 0) := funext fun k => c1 _ _ (by simp)
  have hR : RW 0 M.1 (M1.1 (50, 0, 0)) := by rw [e50]; exact h.2.2.1
  have hu : (M1.1 (12, 0, 0) 7).toInt = -1 := by rw [c1 _ _ (by simp)]; exact h.2.1
  have h7 : (M2.1 (12, 0, 0) 7).toInt = -1 := by rw [hF2 (12, 0, 0) 7 (fun q => by simp only [S_c_X12_least, or_false] at q; omega)]; exact hu
  exact ⟨RY_fr h hF1 hF2 s1 s2 hx hD2.2.1 hD2.2.2.1 (fun c k a b q => by unfold wR at a; simp only [S_c_X11_least, or_false] at q; omega) (fun c k a q => by rcases a with rfl | rfl | ⟨rfl, rfl⟩ | a | a | a <;> (simp only [S_c_X12_least, or_false] at q <;> omega)) (fun c k a q => by simp only [S_c_X11_least, or_false] at q; omega) h7, trivial⟩
theorem sy_22 {v : Int32} {u : Int32} {t : Int32} {M M1 M2 : mM} {r1 r2 : Int32} (h : RY M.1) (hD0 : InvD M) (hD : InvD M1) (hD2 : InvD M2) (hF1 : FR S_c_X11_farthest M M1) (hs1 : SP_X11_farthest v u t M r1 M1) (hF2 : FR S_c_X12_farthest M1 M2) (hs2 : SP_X12_farthest v u t M1 r2 M2) : RY M2.1 ∧ True := by
  have hx := (st_22 h.1 hD0 hF1 hs1 hF2 hs2).1
  have s1 : cC S_c_X11_farthest := fun c k q => by simp only [S_c_X11_farthest, or_false] at q; omega
  have s2 : cD S_c_X12_farthest := fun c k q => by simp only [S_c_X12_farthest, or_false] at q; omega
  have c1 : ∀ (c : rf) (k : Nat), c.1 = 12 ∨ 50 ≤ c.1 → M1.1 c k = M.1 c k := fun c k a => hF1 c k (fun q => s1 c k q a)
  have c2 : ∀ (c : rf) (k : Nat), ¬ (c.1 = 12 ∨ 50 ≤ c.1) → M2.1 c k = M1.1 c k := fun c k a => hF2 c k (fun q => a (s2 c k q))
  have e50 : M1.1 (50, 0, 0) = M.1 (50, 0, 0) := funext fun k => c1 _ _ (by simp)
  have hR : RW 0 M.1 (M1.1 (50, 0, 0)) := by rw [e50]; exact h.2.2.1
  have hu : (M1.1 (12, 0, 0) 7).toInt = -1 := by rw [c1 _ _ (by simp)]; exact h.2.1
  have h7 : (M2.1 (12, 0, 0) 7).toInt = -1 := by rw [hF2 (12, 0, 0) 7 (fun q => by simp only [S_c_X12_farthest, or_false] at q; omega)]; exact hu
  exact ⟨RY_fr h hF1 hF2 s1 s2 hx hD2.2.1 hD2.2.2.1 (fun c k a b q => by unfold wR at a; simp only [S_c_X11_farthest, or_false] at q; omega) (fun c k a q => by rcases a with rfl | rfl | ⟨rfl, rfl⟩ | a | a | a <;> (simp only [S_c_X12_farthest, or_false] at q <;> omega)) (fun c k a q => by simp only [S_c_X11_farthest, or_false] at q; omega) h7, trivial⟩
theorem sy_23 {v : Int32} {u : Int32} {t : Int32} {s : Int32} {M M1 M2 : mM} {r1 r2 : Int32} (h : RY M.1) (hD0 : InvD M) (hD : InvD M1) (hD2 : InvD M2) (hF1 : FR S_c_X11_spots M M1) (hs1 : SP_X11_spots v u t s M r1 M1) (hF2 : FR S_c_X12_spots M1 M2) (hs2 : SP_X12_spots v u t s M1 r2 M2) : RY M2.1 ∧ True := by
  have hx := (st_23 h.1 hD0 hF1 hs1 hF2 hs2).1
  have s1 : cC S_c_X11_spots := fun c k q => by simp only [S_c_X11_spots, or_false] at q; omega
  have s2 : cD S_c_X12_spots := fun c k q => by simp only [S_c_X12_spots, or_false] at q; omega
  have c1 : ∀ (c : rf) (k : Nat), c.1 = 12 ∨ 50 ≤ c.1 → M1.1 c k = M.1 c k := fun c k a => hF1 c k (fun q => s1 c k q a)
  have c2 : ∀ (c : rf) (k : Nat), ¬ (c.1 = 12 ∨ 50 ≤ c.1) → M2.1 c k = M1.1 c k := fun c k a => hF2 c k (fun q => a (s2 c k q))
  have e50 : M1.1 (50, 0, 0) = M.1 (50, 0, 0) := funext fun k => c1 _ _ (by simp)
  have hR : RW 0 M.1 (M1.1 (50, 0, 0)) := by rw [e50]; exact h.2.2.1
  have hu : (M1.1 (12, 0, 0) 7).toInt = -1 := by rw [c1 _ _ (by simp)]; exact h.2.1
  have h7 : (M2.1 (12, 0, 0) 7).toInt = -1 := USP_X12_spots hs2 hu
  exact ⟨RY_fr h hF1 hF2 s1 s2 hx hD2.2.1 hD2.2.2.1 (fun c k a b q => by unfold wR at a; simp only [S_c_X11_spots, or_false] at q; omega) (fun c k a q => by rcases a with rfl | rfl | ⟨rfl, rfl⟩ | a | a | a <;> (simp only [S_c_X12_spots, or_false] at q <;> omega)) (fun c k a q => by simp only [S_c_X11_spots, or_false] at q; omega) h7, trivial⟩
theorem sy_24 {v : Int32} {M M1 M2 : mM} {r1 r2 : Int32} (h : RY M.1) (hD0 : InvD M) (hD : InvD M1) (hD2 : InvD M2) (hF1 : FR S_c_X11_tenths M M1) (hs1 : SP_X11_tenths v M r1 M1) (hF2 : FR S_c_X12_tenths M1 M2) (hs2 : SP_X12_tenths v M1 r2 M2) : RY M2.1 ∧ r1 = r2 := by
  have hx := (st_24 h.1 hD0 hF1 hs1 hF2 hs2).1
  have s1 : cC S_c_X11_tenths := fun c k q => by simp only [S_c_X11_tenths, or_false] at q; omega
  have s2 : cD S_c_X12_tenths := fun c k q => by simp only [S_c_X12_tenths, or_false] at q; omega
  have c1 : ∀ (c : rf) (k : Nat), c.1 = 12 ∨ 50 ≤ c.1 → M1.1 c k = M.1 c k := fun c k a => hF1 c k (fun q => s1 c k q a)
  have c2 : ∀ (c : rf) (k : Nat), ¬ (c.1 = 12 ∨ 50 ≤ c.1) → M2.1 c k = M1.1 c k := fun c k a => hF2 c k (fun q => a (s2 c k q))
  have e50 : M1.1 (50, 0, 0) = M.1 (50, 0, 0) := funext fun k => c1 _ _ (by simp)
  have hR : RW 0 M.1 (M1.1 (50, 0, 0)) := by rw [e50]; exact h.2.2.1
  have hu : (M1.1 (12, 0, 0) 7).toInt = -1 := by rw [c1 _ _ (by simp)]; exact h.2.1
  have h7 : (M2.1 (12, 0, 0) 7).toInt = -1 := by rw [hF2 (12, 0, 0) 7 (fun q => by simp only [S_c_X12_tenths, or_false] at q; omega)]; exact hu
  have B := cb_24 hs1 hs2 hR hD hu
  exact ⟨RY_of h hF1 hF2 s1 s2 hx hD2.2.1 hD2.2.2.1 h7 B.1 (Or.inl ⟨hF2 _ _ (fun q => by simp only [S_c_X12_tenths, or_false] at q; omega), fun c k a b q => by unfold wR at a; simp only [S_c_X11_tenths, or_false] at q; omega, fun k q => by simp only [S_c_X12_tenths, or_false] at q; omega⟩) (SHR_keep h.2.2.2.2 (fun c k a => hF1 c k (fun q => by simp only [S_c_X11_tenths, or_false] at q; omega)) (fun c k a => by rw [hF2 c k (fun q => by simp only [S_c_X12_tenths, or_false] at q; omega), c1 c k (by omega)])), B.2⟩
theorem sy_25 {v : Int32} {u : Int32} {t : Int32} {M M1 M2 : mM} {r1 r2 : Int32} (h : RY M.1) (hD0 : InvD M) (hD : InvD M1) (hD2 : InvD M2) (hF1 : FR S_c_X11_way M M1) (hs1 : SP_X11_way v u t M r1 M1) (hF2 : FR S_c_X12_way M1 M2) (hs2 : SP_X12_way v u t M1 r2 M2) : RY M2.1 ∧ True := by
  have hx := (st_25 h.1 hD0 hF1 hs1 hF2 hs2).1
  have s1 : cC S_c_X11_way := fun c k q => by simp only [S_c_X11_way, or_false] at q; omega
  have s2 : cD S_c_X12_way := fun c k q => by simp only [S_c_X12_way, or_false] at q; omega
  have c1 : ∀ (c : rf) (k : Nat), c.1 = 12 ∨ 50 ≤ c.1 → M1.1 c k = M.1 c k := fun c k a => hF1 c k (fun q => s1 c k q a)
  have c2 : ∀ (c : rf) (k : Nat), ¬ (c.1 = 12 ∨ 50 ≤ c.1) → M2.1 c k = M1.1 c k := fun c k a => hF2 c k (fun q => a (s2 c k q))
  have e50 : M1.1 (50, 0, 0) = M.1 (50, 0, 0) := funext fun k => c1 _ _ (by simp)
  have hR : RW 0 M.1 (M1.1 (50, 0, 0)) := by rw [e50]; exact h.2.2.1
  have hu : (M1.1 (12, 0, 0) 7).toInt = -1 := by rw [c1 _ _ (by simp)]; exact h.2.1
  have h7 : (M2.1 (12, 0, 0) 7).toInt = -1 := by rw [hF2 (12, 0, 0) 7 (fun q => by simp only [S_c_X12_way, or_false] at q; omega)]; exact hu
  exact ⟨RY_fr h hF1 hF2 s1 s2 hx hD2.2.1 hD2.2.2.1 (fun c k a b q => by unfold wR at a; simp only [S_c_X11_way, or_false] at q; omega) (fun c k a q => by rcases a with rfl | rfl | ⟨rfl, rfl⟩ | a | a | a <;> (simp only [S_c_X12_way, or_false] at q <;> omega)) (fun c k a q => by simp only [S_c_X11_way, or_false] at q; omega) h7, trivial⟩
theorem sy_26 {v : Int32} {M M1 M2 : mM} {r1 r2 : Int32} (h : RY M.1) (hD0 : InvD M) (hD : InvD M1) (hD2 : InvD M2) (hF1 : FR S_c_X11_safe M M1) (hs1 : SP_X11_safe v M r1 M1) (hF2 : FR S_c_X12_safe M1 M2) (hs2 : SP_X12_safe v M1 r2 M2) : RY M2.1 ∧ True := by
  have hx := (st_26 h.1 hD0 hF1 hs1 hF2 hs2).1
  have s1 : cC S_c_X11_safe := fun c k q => by simp only [S_c_X11_safe, or_false] at q; omega
  have s2 : cD S_c_X12_safe := fun c k q => by simp only [S_c_X12_safe, or_false] at q; omega
  have c1 : ∀ (c : rf) (k : Nat), c.1 = 12 ∨ 50 ≤ c.1 → M1.1 c k = M.1 c k := fun c k a => hF1 c k (fun q => s1 c k q a)
  have c2 : ∀ (c : rf) (k : Nat), ¬ (c.1 = 12 ∨ 50 ≤ c.1) → M2.1 c k = M1.1 c k := fun c k a => hF2 c k (fun q => a (s2 c k q))
  have e50 : M1.1 (50, 0, 0) = M.1 (50, 0, 0) := funext fun k => c1 _ _ (by simp)
  have hR : RW 0 M.1 (M1.1 (50, 0, 0)) := by rw [e50]; exact h.2.2.1
  have hu : (M1.1 (12, 0, 0) 7).toInt = -1 := by rw [c1 _ _ (by simp)]; exact h.2.1
  have h7 : (M2.1 (12, 0, 0) 7).toInt = -1 := by rw [hF2 (12, 0, 0) 7 (fun q => by simp only [S_c_X12_safe, or_false] at q; omega)]; exact hu
  exact ⟨RY_fr h hF1 hF2 s1 s2 hx hD2.2.1 hD2.2.2.1 (fun c k a b q => by unfold wR at a; simp only [S_c_X11_safe, or_false] at q; omega) (fun c k a q => by rcases a with rfl | rfl | ⟨rfl, rfl⟩ | a | a | a <;> (simp only [S_c_X12_safe, or_false] at q <;> omega)) (fun c k a q => by simp only [S_c_X11_safe, or_false] at q; omega) h7, trivial⟩
theorem sy_27 {v : Int32} {u : Int32} {t : Int32} {M M1 M2 : mM} {r1 r2 : Int32} (h : RY M.1) (hD0 : InvD M) (hD : InvD M1) (hD2 : InvD M2) (hF1 : FR S_c_X11_lesson M M1) (hs1 : SP_X11_lesson v u t M r1 M1) (hF2 : FR S_c_X12_lesson M1 M2) (hs2 : SP_X12_lesson v u t M1 r2 M2) : RY M2.1 ∧ r1 = r2 := by
  have hx := (st_27 h.1 hD0 hF1 hs1 hF2 hs2).1
  have s1 : cC S_c_X11_lesson := fun c k q => by simp only [S_c_X11_lesson, or_false] at q; omega
  have s2 : cD S_c_X12_lesson := fun c k q => by simp only [S_c_X12_lesson, or_false] at q; omega
  have c1 : ∀ (c : rf) (k : Nat), c.1 = 12 ∨ 50 ≤ c.1 → M1.1 c k = M.1 c k := fun c k a => hF1 c k (fun q => s1 c k q a)
  have c2 : ∀ (c : rf) (k : Nat), ¬ (c.1 = 12 ∨ 50 ≤ c.1) → M2.1 c k = M1.1 c k := fun c k a => hF2 c k (fun q => a (s2 c k q))
  have e50 : M1.1 (50, 0, 0) = M.1 (50, 0, 0) := funext fun k => c1 _ _ (by simp)
  have hR : RW 0 M.1 (M1.1 (50, 0, 0)) := by rw [e50]; exact h.2.2.1
  have hu : (M1.1 (12, 0, 0) 7).toInt = -1 := by rw [c1 _ _ (by simp)]; exact h.2.1
  have h7 : (M2.1 (12, 0, 0) 7).toInt = -1 := by rw [hF2 (12, 0, 0) 7 (fun q => by simp only [S_c_X12_lesson, or_false] at q; omega)]; exact hu
  have B := cb_27 hs1 hs2 hR hD hu (show M.1 (3, 0, 0) 3 = M1.1 (50, 0, 0) 3 from ((RXzg h.1 (d := (50, 0, 0)) (j := 3) (by unfold PRz; simp) (by simp)).trans (c1 _ _ (by simp)).symm))
  exact ⟨RY_of h hF1 hF2 s1 s2 hx hD2.2.1 hD2.2.2.1 h7 B.1 (Or.inl ⟨hF2 _ _ (fun q => by simp only [S_c_X12_lesson, or_false] at q; omega), fun c k a b q => by unfold wR at a; simp only [S_c_X11_lesson, or_false] at q; omega, fun k q => by simp only [S_c_X12_lesson, or_false] at q; omega⟩) (SHR_keep h.2.2.2.2 (fun c k a => hF1 c k (fun q => by simp only [S_c_X11_lesson, or_false] at q; omega)) (fun c k a => by rw [hF2 c k (fun q => by simp only [S_c_X12_lesson, or_false] at q; omega), c1 c k (by omega)])), B.2⟩
theorem sy_28 {v : Int32} {u : Int32} {t : Int32} {M M1 M2 : mM} {r1 r2 : Int32} (h : RY M.1) (hD0 : InvD M) (hD : InvD M1) (hD2 : InvD M2) (hF1 : FR S_c_X11_learn M M1) (hs1 : SP_X11_learn v u t M r1 M1) (hF2 : FR S_c_X12_learn M1 M2) (hs2 : SP_X12_learn v u t M1 r2 M2) : RY M2.1 ∧ True := by
  have hx := (st_28 h.1 hD0 hF1 hs1 hF2 hs2).1
  have s1 : cC S_c_X11_learn := fun c k q => by simp only [S_c_X11_learn, or_false] at q; omega
  have s2 : cD S_c_X12_learn := fun c k q => by simp only [S_c_X12_learn, or_false] at q; omega
  have c1 : ∀ (c : rf) (k : Nat), c.1 = 12 ∨ 50 ≤ c.1 → M1.1 c k = M.1 c k := fun c k a => hF1 c k (fun q => s1 c k q a)
  have c2 : ∀ (c : rf) (k : Nat), ¬ (c.1 = 12 ∨ 50 ≤ c.1) → M2.1 c k = M1.1 c k := fun c k a => hF2 c k (fun q => a (s2 c k q))
  have e50 : M1.1 (50, 0, 0) = M.1 (50, 0, 0) := funext fun k => c1 _ _ (by simp)
  have hR : RW 0 M.1 (M1.1 (50, 0, 0)) := by rw [e50]; exact h.2.2.1
  have hu : (M1.1 (12, 0, 0) 7).toInt = -1 := by rw [c1 _ _ (by simp)]; exact h.2.1
  have h7 : (M2.1 (12, 0, 0) 7).toInt = -1 := by rw [hF2 (12, 0, 0) 7 (fun q => by simp only [S_c_X12_learn, or_false] at q; omega)]; exact hu
  have hN : NW5 (M.1 (50, 0, 0)) := hD0.2.1
  have e2 : M2.1 (50, 0, 0) = M.1 (50, 0, 0) := funext fun k => by rw [hF2 _ _ (fun q => by simp only [S_c_X12_learn, or_false] at q; omega), c1 _ _ (by simp)]
  refine ⟨RY_of h hF1 hF2 s1 s2 hx hD2.2.1 hD2.2.2.1 h7 ?_ (Or.inl ⟨hF2 _ _ (fun q => by simp only [S_c_X12_learn, or_false] at q; omega), fun c k a b q => by unfold wR at a; simp only [S_c_X11_learn, or_false] at q; omega, fun k q => by simp only [S_c_X12_learn, or_false] at q; omega⟩) (SHR_keep h.2.2.2.2 (fun c k a => hF1 c k (fun q => by simp only [S_c_X11_learn, or_false] at q; omega)) (fun c k a => by rw [hF2 c k (fun q => by simp only [S_c_X12_learn, or_false] at q; omega), c1 c k (by omega)])), trivial⟩
  rw [e2]
  exact RW_rest h.2.2.1 hN (fun c k a b => hF1 c k (fun q => by unfold wR at a; simp only [S_c_X11_learn, or_false] at q; omega)) (fun _ _ _ => rfl) (LER_keep h.2.2.1.2.1 (n345_b hN).1.2 (fun r k hr => hF1 _ _ (fun q => by simp only [S_c_X11_learn, or_false] at q; omega)) (fun _ _ => rfl)) (TAR_keep h.2.2.1.2.2.1 (n345_b hN).2.1.2 (fun k => hF1 _ _ (fun q => by simp only [S_c_X11_learn, or_false] at q; omega)) (fun _ _ => rfl)) (WTR_keep h.2.2.1.2.2.2 (n345_b hN).2.2.2 (fun k => hF1 _ _ (fun q => by simp only [S_c_X11_learn, or_false] at q; omega)) (fun _ _ => rfl))
theorem sy_29 {v : Int32} {u : Int32} {t : Int32} {s : Int32} {M M1 M2 : mM} {r1 r2 : Int32} (h : RY M.1) (hD0 : InvD M) (hD : InvD M1) (hD2 : InvD M2) (hF1 : FR S_c_X11_posts M M1) (hs1 : SP_X11_posts v u t s M r1 M1) (hF2 : FR S_c_X12_posts M1 M2) (hs2 : SP_X12_posts v u t s M1 r2 M2) : RY M2.1 ∧ True := by
  have hx := (st_29 h.1 hD0 hF1 hs1 hF2 hs2).1
  have s1 : cC S_c_X11_posts := fun c k q => by simp only [S_c_X11_posts, or_false] at q; omega
  have s2 : cD S_c_X12_posts := fun c k q => by simp only [S_c_X12_posts, or_false] at q; omega
  have c1 : ∀ (c : rf) (k : Nat), c.1 = 12 ∨ 50 ≤ c.1 → M1.1 c k = M.1 c k := fun c k a => hF1 c k (fun q => s1 c k q a)
  have c2 : ∀ (c : rf) (k : Nat), ¬ (c.1 = 12 ∨ 50 ≤ c.1) → M2.1 c k = M1.1 c k := fun c k a => hF2 c k (fun q => a (s2 c k q))
  have e50 : M1.1 (50, 0, 0) = M.1 (50, 0, 0) := funext fun k => c1 _ _ (by simp)
  have hR : RW 0 M.1 (M1.1 (50, 0, 0)) := by rw [e50]; exact h.2.2.1
  have hu : (M1.1 (12, 0, 0) 7).toInt = -1 := by rw [c1 _ _ (by simp)]; exact h.2.1
  have h7 : (M2.1 (12, 0, 0) 7).toInt = -1 := USP_X12_posts hs2 hu
  exact ⟨RY_fr h hF1 hF2 s1 s2 hx hD2.2.1 hD2.2.2.1 (fun c k a b q => by unfold wR at a; simp only [S_c_X11_posts, or_false] at q; omega) (fun c k a q => by rcases a with rfl | rfl | ⟨rfl, rfl⟩ | a | a | a <;> (simp only [S_c_X12_posts, or_false] at q <;> omega)) (fun c k a q => by simp only [S_c_X11_posts, or_false] at q; omega) h7, trivial⟩
theorem sy_30 {v : Int32} {u : Int32} {t : Int32} {M M1 M2 : mM} {r1 r2 : Int32} (h : RY M.1) (hD0 : InvD M) (hD : InvD M1) (hD2 : InvD M2) (hF1 : FR S_c_X11_voice M M1) (hs1 : SP_X11_voice v u t M r1 M1) (hF2 : FR S_c_X12_voice M1 M2) (hs2 : SP_X12_voice v u t M1 r2 M2) : RY M2.1 ∧ True := by
  have hx := (st_30 h.1 hD0 hF1 hs1 hF2 hs2).1
  have s1 : cC S_c_X11_voice := fun c k q => by simp only [S_c_X11_voice, or_false] at q; omega
  have s2 : cD S_c_X12_voice := fun c k q => by simp only [S_c_X12_voice, or_false] at q; omega
  have c1 : ∀ (c : rf) (k : Nat), c.1 = 12 ∨ 50 ≤ c.1 → M1.1 c k = M.1 c k := fun c k a => hF1 c k (fun q => s1 c k q a)
  have c2 : ∀ (c : rf) (k : Nat), ¬ (c.1 = 12 ∨ 50 ≤ c.1) → M2.1 c k = M1.1 c k := fun c k a => hF2 c k (fun q => a (s2 c k q))
  have e50 : M1.1 (50, 0, 0) = M.1 (50, 0, 0) := funext fun k => c1 _ _ (by simp)
  have hR : RW 0 M.1 (M1.1 (50, 0, 0)) := by rw [e50]; exact h.2.2.1
  have hu : (M1.1 (12, 0, 0) 7).toInt = -1 := by rw [c1 _ _ (by simp)]; exact h.2.1
  have h7 : (M2.1 (12, 0, 0) 7).toInt = -1 := by rw [hF2 (12, 0, 0) 7 (fun q => by simp only [S_c_X12_voice, or_false] at q; omega)]; exact hu
  exact ⟨RY_fr h hF1 hF2 s1 s2 hx hD2.2.1 hD2.2.2.1 (fun c k a b q => by unfold wR at a; simp only [S_c_X11_voice, or_false] at q; omega) (fun c k a q => by rcases a with rfl | rfl | ⟨rfl, rfl⟩ | a | a | a <;> (simp only [S_c_X12_voice, or_false] at q <;> omega)) (fun c k a q => by simp only [S_c_X11_voice, or_false] at q; omega) h7, trivial⟩
theorem sy_31 {v : Int32} {M M1 M2 : mM} {r1 r2 : Int32} (h : RY M.1) (hD0 : InvD M) (hD : InvD M1) (hD2 : InvD M2) (hF1 : FR S_c_X11_trace M M1) (hs1 : SP_X11_trace v M r1 M1) (hF2 : FR S_c_X12_trace M1 M2) (hs2 : SP_X12_trace v M1 r2 M2) : RY M2.1 ∧ True := by
  have hx := (st_31 h.1 hD0 hF1 hs1 hF2 hs2).1
  have s1 : cC S_c_X11_trace := fun c k q => by simp only [S_c_X11_trace, or_false] at q; omega
  have s2 : cD S_c_X12_trace := fun c k q => by simp only [S_c_X12_trace, or_false] at q; omega
  have c1 : ∀ (c : rf) (k : Nat), c.1 = 12 ∨ 50 ≤ c.1 → M1.1 c k = M.1 c k := fun c k a => hF1 c k (fun q => s1 c k q a)
  have c2 : ∀ (c : rf) (k : Nat), ¬ (c.1 = 12 ∨ 50 ≤ c.1) → M2.1 c k = M1.1 c k := fun c k a => hF2 c k (fun q => a (s2 c k q))
  have e50 : M1.1 (50, 0, 0) = M.1 (50, 0, 0) := funext fun k => c1 _ _ (by simp)
  have hR : RW 0 M.1 (M1.1 (50, 0, 0)) := by rw [e50]; exact h.2.2.1
  have hu : (M1.1 (12, 0, 0) 7).toInt = -1 := by rw [c1 _ _ (by simp)]; exact h.2.1
  have h7 : (M2.1 (12, 0, 0) 7).toInt = -1 := by rw [hF2 (12, 0, 0) 7 (fun q => by simp only [S_c_X12_trace, or_false] at q; omega)]; exact hu
  exact ⟨RY_fr h hF1 hF2 s1 s2 hx hD2.2.1 hD2.2.2.1 (fun c k a b q => by unfold wR at a; simp only [S_c_X11_trace, or_false] at q; omega) (fun c k a q => by rcases a with rfl | rfl | ⟨rfl, rfl⟩ | a | a | a <;> (simp only [S_c_X12_trace, or_false] at q <;> omega)) (fun c k a q => by simp only [S_c_X11_trace, or_false] at q; omega) h7, trivial⟩
theorem sy_32 {v : Int32} {u : Int32} {t : Int32} {M M1 M2 : mM} {r1 r2 : Int32} (h : RY M.1) (hD0 : InvD M) (hD : InvD M1) (hD2 : InvD M2) (hF1 : FR S_c_X11_sheet M M1) (hs1 : SP_X11_sheet v u t M r1 M1) (hF2 : FR S_c_X12_sheet M1 M2) (hs2 : SP_X12_sheet v u t M1 r2 M2) : RY M2.1 ∧ True := by
  have hx := (st_32 h.1 hD0 hF1 hs1 hF2 hs2).1
  have s1 : cC S_c_X11_sheet := fun c k q => by simp only [S_c_X11_sheet, or_false] at q; omega
  have s2 : cD S_c_X12_sheet := fun c k q => by simp only [S_c_X12_sheet, or_false] at q; omega
  have c1 : ∀ (c : rf) (k : Nat), c.1 = 12 ∨ 50 ≤ c.1 → M1.1 c k = M.1 c k := fun c k a => hF1 c k (fun q => s1 c k q a)
  have c2 : ∀ (c : rf) (k : Nat), ¬ (c.1 = 12 ∨ 50 ≤ c.1) → M2.1 c k = M1.1 c k := fun c k a => hF2 c k (fun q => a (s2 c k q))
  have e50 : M1.1 (50, 0, 0) = M.1 (50, 0, 0) := funext fun k => c1 _ _ (by simp)
  have hR : RW 0 M.1 (M1.1 (50, 0, 0)) := by rw [e50]; exact h.2.2.1
  have hu : (M1.1 (12, 0, 0) 7).toInt = -1 := by rw [c1 _ _ (by simp)]; exact h.2.1
  have h7 : (M2.1 (12, 0, 0) 7).toInt = -1 := by rw [hF2 (12, 0, 0) 7 (fun q => by simp only [S_c_X12_sheet, or_false] at q; omega)]; exact hu
  have e2 : M2.1 (50, 0, 0) = M.1 (50, 0, 0) := funext fun k => by rw [hF2 _ _ (fun q => by simp only [S_c_X12_sheet, or_false] at q; omega), c1 _ _ (by simp)]
  have hS : SHR M.1 M1.1 := SHR_keep h.2.2.2.2 (fun _ _ _ => rfl) (fun c k a => c1 c k (by omega))
  have hB : ∀ w, w < 4 → M1.1 (6, 0, w) 0 = M2.1 (66, 0, 0) w ∧ M1.1 (6, 0, w) 1 = M2.1 (67, 0, 0) w := fun w hw => ⟨by rw [← c2 _ _ (by simp)]; exact RXzg hx (Pz_6a hw) (by simp), by rw [← c2 _ _ (by simp)]; exact RXzg hx (Pz_6b hw) (by simp)⟩
  have sh := sh_32 hs1 hs2 hS hD hD2 hB
  refine ⟨RY_of h hF1 hF2 s1 s2 hx hD2.2.1 hD2.2.2.1 h7 ?_ (Or.inl ⟨hF2 _ _ (fun q => by simp only [S_c_X12_sheet, or_false] at q; omega), fun c k a b q => by unfold wR at a; simp only [S_c_X11_sheet, or_false] at q; omega, fun k q => by simp only [S_c_X12_sheet, or_false] at q; omega⟩) sh, trivial⟩
  rw [e2]
  exact RW_same h.2.2.1 hD0.2.1 (fun c k a b => hF1 c k (fun q => by unfold wR at a; simp only [S_c_X11_sheet, or_false] at q; omega))
theorem sy_33 {v : Int32} {u : Int32} {t : Int32} {M M1 M2 : mM} {r1 r2 : Int32} (h : RY M.1) (hD0 : InvD M) (hD : InvD M1) (hD2 : InvD M2) (hF1 : FR S_c_X11_put M M1) (hs1 : SP_X11_put v u t M r1 M1) (hF2 : FR S_c_X12_put M1 M2) (hs2 : SP_X12_put v u t M1 r2 M2) : RY M2.1 ∧ True := by
  have hx := (st_33 h.1 hD0 hF1 hs1 hF2 hs2).1
  have s1 : cC S_c_X11_put := fun c k q => by simp only [S_c_X11_put, or_false] at q; omega
  have s2 : cD S_c_X12_put := fun c k q => by simp only [S_c_X12_put, or_false] at q; omega
  have c1 : ∀ (c : rf) (k : Nat), c.1 = 12 ∨ 50 ≤ c.1 → M1.1 c k = M.1 c k := fun c k a => hF1 c k (fun q => s1 c k q a)
  have c2 : ∀ (c : rf) (k : Nat), ¬ (c.1 = 12 ∨ 50 ≤ c.1) → M2.1 c k = M1.1 c k := fun c k a => hF2 c k (fun q => a (s2 c k q))
  have e50 : M1.1 (50, 0, 0) = M.1 (50, 0, 0) := funext fun k => c1 _ _ (by simp)
  have hR : RW 0 M.1 (M1.1 (50, 0, 0)) := by rw [e50]; exact h.2.2.1
  have hu : (M1.1 (12, 0, 0) 7).toInt = -1 := by rw [c1 _ _ (by simp)]; exact h.2.1
  have h7 : (M2.1 (12, 0, 0) 7).toInt = -1 := by rw [hF2 (12, 0, 0) 7 (fun q => by simp only [S_c_X12_put, or_false] at q; omega)]; exact hu
  have e2 : M2.1 (50, 0, 0) = M.1 (50, 0, 0) := funext fun k => by rw [hF2 _ _ (fun q => by simp only [S_c_X12_put, or_false] at q; omega), c1 _ _ (by simp)]
  have hS : SHR M.1 M1.1 := SHR_keep h.2.2.2.2 (fun _ _ _ => rfl) (fun c k a => c1 c k (by omega))
  have sh := sh_33 hs1 hs2 hS hD
  refine ⟨RY_of h hF1 hF2 s1 s2 hx hD2.2.1 hD2.2.2.1 h7 ?_ (Or.inl ⟨hF2 _ _ (fun q => by simp only [S_c_X12_put, or_false] at q; omega), fun c k a b q => by unfold wR at a; simp only [S_c_X11_put, or_false] at q; omega, fun k q => by simp only [S_c_X12_put, or_false] at q; omega⟩) sh, trivial⟩
  rw [e2]
  exact RW_same h.2.2.1 hD0.2.1 (fun c k a b => hF1 c k (fun q => by unfold wR at a; simp only [S_c_X11_put, or_false] at q; omega))
theorem sy_34 {v : Int32} {u : Int32} {t : Int32} {s : Int32} {q : Int32} {M M1 M2 : mM} {r1 r2 : Int32} (h : RY M.1) (hD0 : InvD M) (hD : InvD M1) (hD2 : InvD M2) (hF1 : FR S_c_X11_move M M1) (hs1 : SP_X11_move v u t s q M r1 M1) (hF2 : FR S_c_X12_move M1 M2) (hs2 : SP_X12_move v u t s q M1 r2 M2) : RY M2.1 ∧ True := by
  have hx := (st_34 h.1 hD0 hF1 hs1 hF2 hs2).1
  have s1 : cC S_c_X11_move := fun c k q => by simp only [S_c_X11_move, or_false] at q; omega
  have s2 : cD S_c_X12_move := fun c k q => by simp only [S_c_X12_move, or_false] at q; omega
  have c1 : ∀ (c : rf) (k : Nat), c.1 = 12 ∨ 50 ≤ c.1 → M1.1 c k = M.1 c k := fun c k a => hF1 c k (fun q => s1 c k q a)
  have c2 : ∀ (c : rf) (k : Nat), ¬ (c.1 = 12 ∨ 50 ≤ c.1) → M2.1 c k = M1.1 c k := fun c k a => hF2 c k (fun q => a (s2 c k q))
  have e50 : M1.1 (50, 0, 0) = M.1 (50, 0, 0) := funext fun k => c1 _ _ (by simp)
  have hR : RW 0 M.1 (M1.1 (50, 0, 0)) := by rw [e50]; exact h.2.2.1
  have hu : (M1.1 (12, 0, 0) 7).toInt = -1 := by rw [c1 _ _ (by simp)]; exact h.2.1
  have h7 : (M2.1 (12, 0, 0) 7).toInt = -1 := by rw [hF2 (12, 0, 0) 7 (fun q => by simp only [S_c_X12_move, or_false] at q; omega)]; exact hu
  have e2 : M2.1 (50, 0, 0) = M.1 (50, 0, 0) := funext fun k => by rw [hF2 _ _ (fun q => by simp only [S_c_X12_move, or_false] at q; omega), c1 _ _ (by simp)]
  have hS : SHR M.1 M1.1 := SHR_keep h.2.2.2.2 (fun _ _ _ => rfl) (fun c k a => c1 c k (by omega))
  have sh := sh_34 hs1 hs2 hS hD
  refine ⟨RY_of h hF1 hF2 s1 s2 hx hD2.2.1 hD2.2.2.1 h7 ?_ (Or.inl ⟨hF2 _ _ (fun q => by simp only [S_c_X12_move, or_false] at q; omega), fun c k a b q => by unfold wR at a; simp only [S_c_X11_move, or_false] at q; omega, fun k q => by simp only [S_c_X12_move, or_false] at q; omega⟩) sh, trivial⟩
  rw [e2]
  exact RW_same h.2.2.1 hD0.2.1 (fun c k a b => hF1 c k (fun q => by unfold wR at a; simp only [S_c_X11_move, or_false] at q; omega))
theorem sy_35 {M M1 M2 : mM} {r1 r2 : Int32} (h : RY M.1) (hD0 : InvD M) (hD : InvD M1) (hD2 : InvD M2) (hF1 : FR S_c_X11_image M M1) (hs1 : SP_X11_image M r1 M1) (hF2 : FR S_c_X12_image M1 M2) (hs2 : SP_X12_image M1 r2 M2) : RY M2.1 ∧ r1 = r2 := by
  have hx := (st_35 h.1 hD0 hF1 hs1 hF2 hs2).1
  have s1 : cC S_c_X11_image := fun c k q => by simp only [S_c_X11_image, or_false] at q; omega
  have s2 : cD S_c_X12_image := fun c k q => by simp only [S_c_X12_image, or_false] at q; omega
  have c1 : ∀ (c : rf) (k : Nat), c.1 = 12 ∨ 50 ≤ c.1 → M1.1 c k = M.1 c k := fun c k a => hF1 c k (fun q => s1 c k q a)
  have c2 : ∀ (c : rf) (k : Nat), ¬ (c.1 = 12 ∨ 50 ≤ c.1) → M2.1 c k = M1.1 c k := fun c k a => hF2 c k (fun q => a (s2 c k q))
  have e50 : M1.1 (50, 0, 0) = M.1 (50, 0, 0) := funext fun k => c1 _ _ (by simp)
  have hR : RW 0 M.1 (M1.1 (50, 0, 0)) := by rw [e50]; exact h.2.2.1
  have hu : (M1.1 (12, 0, 0) 7).toInt = -1 := by rw [c1 _ _ (by simp)]; exact h.2.1
  have h7 : (M2.1 (12, 0, 0) 7).toInt = -1 := by rw [hF2 (12, 0, 0) 7 (fun q => by simp only [S_c_X12_image, or_false] at q; omega)]; exact hu
  have B := cb_35 hs1 hs2 hR hD (show M.1 (5, 0, 0) 1 = M1.1 (50, 0, 0) 4 from ((RXzg h.1 (d := (50, 0, 0)) (j := 4) (by unfold PRz; simp) (by simp)).trans (c1 _ _ (by simp)).symm)) (show M.1 (5, 0, 1) 1 = M1.1 (50, 0, 0) 5 from ((RXzg h.1 (d := (50, 0, 0)) (j := 5) (by unfold PRz; simp) (by simp)).trans (c1 _ _ (by simp)).symm)) (show M.1 (11, 0, 0) 8 = M1.1 (12, 0, 0) 3 from (RXzg h.1 (d := (12, 0, 0)) (j := 3) (by unfold PRz; simp) (by simp)).trans (c1 _ _ (by simp)).symm)
  exact ⟨RY_of h hF1 hF2 s1 s2 hx hD2.2.1 hD2.2.2.1 h7 B.1 (Or.inr (fun _ => B.2.1)) (SHR_keep h.2.2.2.2 (fun c k a => hF1 c k (fun q => by simp only [S_c_X11_image, or_false] at q; omega)) (fun c k a => by rw [hF2 c k (fun q => by simp only [S_c_X12_image, or_false] at q; omega), c1 c k (by omega)])), B.2.2⟩
theorem sy_36 {M M1 M2 : mM} {r1 r2 : Int32} (h : RY M.1) (hD0 : InvD M) (hD : InvD M1) (hD2 : InvD M2) (hF1 : FR S_c_X11_restore M M1) (hs1 : SP_X11_restore M r1 M1) (hF2 : FR S_c_X12_restore M1 M2) (hs2 : SP_X12_restore M1 r2 M2) : RY M2.1 ∧ r1 = r2 := by
  have hx := (st_36 h.1 hD0 hF1 hs1 hF2 hs2).1
  have s1 : cC S_c_X11_restore := fun c k q => by simp only [S_c_X11_restore, or_false] at q; omega
  have s2 : cD S_c_X12_restore := fun c k q => by simp only [S_c_X12_restore, or_false] at q; omega
  have c1 : ∀ (c : rf) (k : Nat), c.1 = 12 ∨ 50 ≤ c.1 → M1.1 c k = M.1 c k := fun c k a => hF1 c k (fun q => s1 c k q a)
  have c2 : ∀ (c : rf) (k : Nat), ¬ (c.1 = 12 ∨ 50 ≤ c.1) → M2.1 c k = M1.1 c k := fun c k a => hF2 c k (fun q => a (s2 c k q))
  have e50 : M1.1 (50, 0, 0) = M.1 (50, 0, 0) := funext fun k => c1 _ _ (by simp)
  have hR : RW 0 M.1 (M1.1 (50, 0, 0)) := by rw [e50]; exact h.2.2.1
  have hu : (M1.1 (12, 0, 0) 7).toInt = -1 := by rw [c1 _ _ (by simp)]; exact h.2.1
  have h7 : (M2.1 (12, 0, 0) 7).toInt = -1 := by rw [hF2 (12, 0, 0) 7 (fun q => by simp only [S_c_X12_restore, or_false] at q; omega)]; exact hu
  have e51 : M1.1 (51, 0, 0) = M.1 (51, 0, 0) := funext fun k => c1 _ _ (by simp)
  have hI : ¬ (M1.1 (12, 0, 0) 3).toInt = 0 → RW 1 M.1 (M1.1 (51, 0, 0)) ∧ M.1 (5, 1, 0) 1 = M1.1 (51, 0, 0) 4 ∧ M.1 (5, 1, 1) 1 = M1.1 (51, 0, 0) 5 := fun q => by
    rw [c1 (12, 0, 0) 3 (by simp)] at q
    rw [e51]
    exact ⟨h.2.2.2.1 q, h.1 _ _ _ _ (by unfold PRz; simp) (fun _ => q), h.1 _ _ _ _ (by unfold PRz; simp) (fun _ => q)⟩
  have B := cb_36 hs1 hs2 hR hD (show M.1 (11, 0, 0) 8 = M1.1 (12, 0, 0) 3 from (RXzg h.1 (d := (12, 0, 0)) (j := 3) (by unfold PRz; simp) (by simp)).trans (c1 _ _ (by simp)).symm) hI
  have i3 : M2.1 (12, 0, 0) 3 = M1.1 (12, 0, 0) 3 := hF2 _ _ (fun q => by simp only [S_c_X12_restore, or_false] at q; omega)
  exact ⟨RY_of h hF1 hF2 s1 s2 hx hD2.2.1 hD2.2.2.1 h7 B.1 (Or.inr (fun q => B.2.1 (by rw [← i3]; exact q))) (SHR_keep h.2.2.2.2 (fun c k a => hF1 c k (fun q => by simp only [S_c_X11_restore, or_false] at q; omega)) (fun c k a => by rw [hF2 c k (fun q => by simp only [S_c_X12_restore, or_false] at q; omega), c1 c k (by omega)])), B.2.2⟩
theorem sy_37 {v : Int32} {M M1 M2 : mM} {r1 r2 : Int32} (h : RY M.1) (hD0 : InvD M) (hD : InvD M1) (hD2 : InvD M2) (hF1 : FR S_c_X11_tell M M1) (hs1 : SP_X11_tell v M r1 M1) (hF2 : FR S_c_X12_tell M1 M2) (hs2 : SP_X12_tell v M1 r2 M2) : RY M2.1 ∧ r1 = r2 := by
  have hx := (st_37 h.1 hD0 hF1 hs1 hF2 hs2).1
  have s1 : cC S_c_X11_tell := fun c k q => by simp only [S_c_X11_tell, or_false] at q; omega
  have s2 : cD S_c_X12_tell := fun c k q => by simp only [S_c_X12_tell, or_false] at q; omega
  have c1 : ∀ (c : rf) (k : Nat), c.1 = 12 ∨ 50 ≤ c.1 → M1.1 c k = M.1 c k := fun c k a => hF1 c k (fun q => s1 c k q a)
  have c2 : ∀ (c : rf) (k : Nat), ¬ (c.1 = 12 ∨ 50 ≤ c.1) → M2.1 c k = M1.1 c k := fun c k a => hF2 c k (fun q => a (s2 c k q))
  have e50 : M1.1 (50, 0, 0) = M.1 (50, 0, 0) := funext fun k => c1 _ _ (by simp)
  have hR : RW 0 M.1 (M1.1 (50, 0, 0)) := by rw [e50]; exact h.2.2.1
  have hu : (M1.1 (12, 0, 0) 7).toInt = -1 := by rw [c1 _ _ (by simp)]; exact h.2.1
  have h7 : (M2.1 (12, 0, 0) 7).toInt = -1 := by rw [hF2 (12, 0, 0) 7 (fun q => by simp only [S_c_X12_tell, or_false] at q; omega)]; exact hu
  have B := cb_37 hs1 hs2 hR hD hu (show M.1 (5, 0, 1) 1 = M1.1 (50, 0, 0) 5 from ((RXzg h.1 (d := (50, 0, 0)) (j := 5) (by unfold PRz; simp) (by simp)).trans (c1 _ _ (by simp)).symm))
  exact ⟨RY_of h hF1 hF2 s1 s2 hx hD2.2.1 hD2.2.2.1 h7 B.1 (Or.inl ⟨hF2 _ _ (fun q => by simp only [S_c_X12_tell, or_false] at q; omega), fun c k a b q => by unfold wR at a; simp only [S_c_X11_tell, or_false] at q; omega, fun k q => by simp only [S_c_X12_tell, or_false] at q; omega⟩) (SHR_keep h.2.2.2.2 (fun c k a => hF1 c k (fun q => by simp only [S_c_X11_tell, or_false] at q; omega)) (fun c k a => by rw [hF2 c k (fun q => by simp only [S_c_X12_tell, or_false] at q; omega), c1 c k (by omega)])), B.2⟩
theorem sy_38 {v : Int32} {M M1 M2 : mM} {r1 r2 : Int32} (h : RY M.1) (hD0 : InvD M) (hD : InvD M1) (hD2 : InvD M2) (hF1 : FR S_c_X11_check M M1) (hs1 : SP_X11_check v M r1 M1) (hF2 : FR S_c_X12_check M1 M2) (hs2 : SP_X12_check v M1 r2 M2) : RY M2.1 ∧ r1 = r2 := by
  have hx := (st_38 h.1 hD0 hF1 hs1 hF2 hs2).1
  have s1 : cC S_c_X11_check := fun c k q => by simp only [S_c_X11_check, or_false] at q; omega
  have s2 : cD S_c_X12_check := fun c k q => by simp only [S_c_X12_check, or_false] at q; omega
  have c1 : ∀ (c : rf) (k : Nat), c.1 = 12 ∨ 50 ≤ c.1 → M1.1 c k = M.1 c k := fun c k a => hF1 c k (fun q => s1 c k q a)
  have c2 : ∀ (c : rf) (k : Nat), ¬ (c.1 = 12 ∨ 50 ≤ c.1) → M2.1 c k = M1.1 c k := fun c k a => hF2 c k (fun q => a (s2 c k q))
  have e50 : M1.1 (50, 0, 0) = M.1 (50, 0, 0) := funext fun k => c1 _ _ (by simp)
  have hR : RW 0 M.1 (M1.1 (50, 0, 0)) := by rw [e50]; exact h.2.2.1
  have hu : (M1.1 (12, 0, 0) 7).toInt = -1 := by rw [c1 _ _ (by simp)]; exact h.2.1
  have h7 : (M2.1 (12, 0, 0) 7).toInt = -1 := by rw [hF2 (12, 0, 0) 7 (fun q => by simp only [S_c_X12_check, or_false] at q; omega)]; exact hu
  have B := cb_38 hs1 hs2 hR hD hu (show M.1 (5, 0, 0) 1 = M1.1 (50, 0, 0) 4 from ((RXzg h.1 (d := (50, 0, 0)) (j := 4) (by unfold PRz; simp) (by simp)).trans (c1 _ _ (by simp)).symm)) (show M.1 (5, 0, 1) 1 = M1.1 (50, 0, 0) 5 from ((RXzg h.1 (d := (50, 0, 0)) (j := 5) (by unfold PRz; simp) (by simp)).trans (c1 _ _ (by simp)).symm))
  exact ⟨RY_of h hF1 hF2 s1 s2 hx hD2.2.1 hD2.2.2.1 h7 B.1 (Or.inl ⟨hF2 _ _ (fun q => by simp only [S_c_X12_check, or_false] at q; omega), fun c k a b q => by unfold wR at a; simp only [S_c_X11_check, or_false] at q; omega, fun k q => by simp only [S_c_X12_check, or_false] at q; omega⟩) (SHR_keep h.2.2.2.2 (fun c k a => hF1 c k (fun q => by simp only [S_c_X11_check, or_false] at q; omega)) (fun c k a => by rw [hF2 c k (fun q => by simp only [S_c_X12_check, or_false] at q; omega), c1 c k (by omega)])), B.2⟩
theorem sy_39 {v : Int32} {M M1 M2 : mM} {r1 r2 : Int32} (h : RY M.1) (hD0 : InvD M) (hD : InvD M1) (hD2 : InvD M2) (hF1 : FR S_c_X11_count M M1) (hs1 : SP_X11_count v M r1 M1) (hF2 : FR S_c_X12_count M1 M2) (hs2 : SP_X12_count v M1 r2 M2) : RY M2.1 ∧ True := by
  have hx := (st_39 h.1 hD0 hF1 hs1 hF2 hs2).1
  have s1 : cC S_c_X11_count := fun c k q => by simp only [S_c_X11_count, or_false] at q; omega
  have s2 : cD S_c_X12_count := fun c k q => by simp only [S_c_X12_count, or_false] at q; omega
  have c1 : ∀ (c : rf) (k : Nat), c.1 = 12 ∨ 50 ≤ c.1 → M1.1 c k = M.1 c k := fun c k a => hF1 c k (fun q => s1 c k q a)
  have c2 : ∀ (c : rf) (k : Nat), ¬ (c.1 = 12 ∨ 50 ≤ c.1) → M2.1 c k = M1.1 c k := fun c k a => hF2 c k (fun q => a (s2 c k q))
  have e50 : M1.1 (50, 0, 0) = M.1 (50, 0, 0) := funext fun k => c1 _ _ (by simp)
  have hR : RW 0 M.1 (M1.1 (50, 0, 0)) := by rw [e50]; exact h.2.2.1
  have hu : (M1.1 (12, 0, 0) 7).toInt = -1 := by rw [c1 _ _ (by simp)]; exact h.2.1
  have h7 : (M2.1 (12, 0, 0) 7).toInt = -1 := by rw [hF2 (12, 0, 0) 7 (fun q => by simp only [S_c_X12_count, or_false] at q; omega)]; exact hu
  exact ⟨RY_fr h hF1 hF2 s1 s2 hx hD2.2.1 hD2.2.2.1 (fun c k a b q => by unfold wR at a; simp only [S_c_X11_count, or_false] at q; omega) (fun c k a q => by rcases a with rfl | rfl | ⟨rfl, rfl⟩ | a | a | a <;> (simp only [S_c_X12_count, or_false] at q <;> omega)) (fun c k a q => by simp only [S_c_X11_count, or_false] at q; omega) h7, trivial⟩
theorem sy_40 {v : Int32} {M M1 M2 : mM} {r1 r2 : Int32} (h : RY M.1) (hD0 : InvD M) (hD : InvD M1) (hD2 : InvD M2) (hF1 : FR S_c_X11_told M M1) (hs1 : SP_X11_told v M r1 M1) (hF2 : FR S_c_X12_told M1 M2) (hs2 : SP_X12_told v M1 r2 M2) : RY M2.1 ∧ True := by
  have hx := (st_40 h.1 hD0 hF1 hs1 hF2 hs2).1
  have s1 : cC S_c_X11_told := fun c k q => by simp only [S_c_X11_told, or_false] at q; omega
  have s2 : cD S_c_X12_told := fun c k q => by simp only [S_c_X12_told, or_false] at q; omega
  have c1 : ∀ (c : rf) (k : Nat), c.1 = 12 ∨ 50 ≤ c.1 → M1.1 c k = M.1 c k := fun c k a => hF1 c k (fun q => s1 c k q a)
  have c2 : ∀ (c : rf) (k : Nat), ¬ (c.1 = 12 ∨ 50 ≤ c.1) → M2.1 c k = M1.1 c k := fun c k a => hF2 c k (fun q => a (s2 c k q))
  have e50 : M1.1 (50, 0, 0) = M.1 (50, 0, 0) := funext fun k => c1 _ _ (by simp)
  have hR : RW 0 M.1 (M1.1 (50, 0, 0)) := by rw [e50]; exact h.2.2.1
  have hu : (M1.1 (12, 0, 0) 7).toInt = -1 := by rw [c1 _ _ (by simp)]; exact h.2.1
  have h7 : (M2.1 (12, 0, 0) 7).toInt = -1 := by rw [hF2 (12, 0, 0) 7 (fun q => by simp only [S_c_X12_told, or_false] at q; omega)]; exact hu
  exact ⟨RY_fr h hF1 hF2 s1 s2 hx hD2.2.1 hD2.2.2.1 (fun c k a b q => by unfold wR at a; simp only [S_c_X11_told, or_false] at q; omega) (fun c k a q => by rcases a with rfl | rfl | ⟨rfl, rfl⟩ | a | a | a <;> (simp only [S_c_X12_told, or_false] at q <;> omega)) (fun c k a q => by simp only [S_c_X11_told, or_false] at q; omega) h7, trivial⟩
